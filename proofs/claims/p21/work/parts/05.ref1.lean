section mg05

/-! the reference at every state: what its numbers keep to -/
noncomputable def stepd (x : Int32) (d : Nat) : Option Nat := if 0 ≤ x then (if x - x / 8 * 8 < 6 ∧ d < 60 then some (d + 1) else none) else if x = -1 then (if 1 ≤ d then some d else none) else if -10 < x then (if 2 ≤ d then some (d - 1) else none) else some 0
noncomputable def sdep (g : Nat → Int32) : Nat → Option Nat
  | 0 => some 0
  | i + 1 => match sdep g i with
    | none => none
    | some d => stepd (g i) d
noncomputable def okP (f : Nat → Int32) (h : Nat) : Prop := ∃ k : Nat, k ≤ 140 ∧ f (196 + h) = nI k ∧ sdep (fun i => f (201 + 140 * h + i)) k ≠ none
noncomputable def hold (f : Nat → Int32) : Prop := f 5 = -1 ∨ ∃ h : Nat, h < 5 ∧ f 5 = nI h ∧ okP f h
theorem sdep_le {g : Nat → Int32} {k : Nat} (h : sdep g k ≠ none) : ∀ i, i ≤ k → sdep g i ≠ none := by
  induction k with
  | zero => intro i hi; rw [Nat.le_zero.mp hi]; exact h
  | succ k ih =>
    intro i hi
    have h2 : sdep g k ≠ none := fun e => h (by simp only [sdep, e])
    rcases Nat.lt_or_ge i (k + 1) with q | q
    · exact ih h2 i (by omega)
    · rw [show i = k + 1 by omega]; exact h
theorem sdep_step {g : Nat → Int32} {k i d : Nat} (h : sdep g k ≠ none) (hi : i < k) (hd : sdep g i = some d) : ∃ d' : Nat, stepd (g i) d = some d' ∧ sdep g (i + 1) = some d' := by
  have h1 := sdep_le h (i + 1) (by omega)
  have e : sdep g (i + 1) = stepd (g i) d := by simp only [sdep, hd]
  rcases hq : stepd (g i) d with _ | d'
  · exact absurd (e.trans hq) h1
  · exact ⟨d', rfl, e.trans hq⟩
theorem stepd_t {x : Int32} {d d' : Nat} (h : stepd x d = some d') (hx : ¬ x < 0) : d' = d + 1 ∧ d < 60 ∧ ∃ j : Nat, j < 6 ∧ x - x / 8 * 8 = nI j := by
  have hx' : 0 ≤ x := Int32.not_lt.mp hx
  rw [stepd, if_pos hx'] at h
  by_cases q : x - x / 8 * 8 < 6 ∧ d < 60
  · rw [if_pos q] at h
    refine ⟨(Option.some.inj h).symm, q.2, ?_⟩
    obtain ⟨j, hj, rfl⟩ := nI_of hx
    rw [show (8 : Int32) = nI 8 from rfl, pk_rem hj (by omega) (by omega)] at q ⊢
    refine ⟨j % 8, ?_, rfl⟩
    exact (nI_ltI (b := 6) (by omega) (by omega)).mp q.1
  · rw [if_neg q] at h; exact absurd h (by simp)
theorem stepd_n {d d' : Nat} (h : stepd (-1) d = some d') : d' = d ∧ 1 ≤ d := by
  rw [stepd, if_neg (by decide), if_pos rfl] at h
  by_cases q : 1 ≤ d
  · rw [if_pos q] at h; exact ⟨(Option.some.inj h).symm, q⟩
  · rw [if_neg q] at h; exact absurd h (by simp)
theorem stepd_b {x : Int32} {d d' : Nat} (h : stepd x d = some d') (h0 : x < 0) (h1 : ¬ x = -1) (h2 : ¬ x ≤ -10) : d' = d - 1 ∧ 2 ≤ d := by
  rw [stepd, if_neg (Int32.not_le.mpr h0), if_neg h1, if_pos (Int32.not_le.mp h2)] at h
  by_cases q : 2 ≤ d
  · rw [if_pos q] at h; exact ⟨(Option.some.inj h).symm, q⟩
  · rw [if_neg q] at h; exact absurd h (by simp)
theorem stepd_c {x : Int32} {d d' : Nat} (h : stepd x d = some d') (h0 : x < 0) (h1 : ¬ x = -1) (h2 : x ≤ -10) : d' = 0 := by
  rw [stepd, if_neg (Int32.not_le.mpr h0), if_neg h1, if_neg (Int32.not_lt.mpr h2)] at h
  exact (Option.some.inj h).symm
theorem sdep_cong {f g : Nat → Int32} {k : Nat} (h : ∀ i, i < k → g i = f i) : sdep g k = sdep f k := by
  induction k with
  | zero => rfl
  | succ k ih => simp only [sdep, ih (fun i hi => h i (by omega)), h k (by omega)]
theorem hold_of {f g : Nat → Int32} (h : hold f) (he : ∀ i, i < 901 → (i = 5 ∨ 191 ≤ i) → g i = f i) : hold g := by
  rcases h with h | ⟨k, hk, h, n, hn, h2, h3⟩
  · exact Or.inl ((he 5 (by omega) (Or.inl rfl)).trans h)
  · refine Or.inr ⟨k, hk, (he 5 (by omega) (Or.inl rfl)).trans h, n, hn, (he _ (by omega) (Or.inr (by omega))).trans h2, ?_⟩
    rw [sdep_cong (f := fun i => f (201 + 140 * k + i)) (fun i hi => he _ (by omega) (Or.inr (by omega)))]; exact h3
theorem rg64 (x : Int64) : -(2 ^ 63 : Int) ≤ x.toInt ∧ x.toInt < (2 ^ 63 : Int) := ⟨Int64.le_toInt x, Int64.toInt_lt x⟩
theorem lrem_lt {u v : Int64} (hv : ¬ v = 0) : (u - u / v * v).toInt.natAbs < v.toInt.natAbs := by
  have hV : v.toInt ≠ 0 := fun e => hv (Int64.toInt_inj.mp (e.trans rfl))
  have e1 : (u - u / v * v).toInt = (u.toInt - u.toInt.tdiv v.toInt * v.toInt).bmod (2 ^ 64) := by
    rw [Int64.toInt_sub, Int64.toInt_mul, Int64.toInt_div, Int.bmod_mul_bmod, Int.sub_bmod_bmod]
  have e2 : u.toInt - u.toInt.tdiv v.toInt * v.toInt = u.toInt.tmod v.toInt := by
    have := Int.tmod_add_mul_tdiv u.toInt v.toInt
    rw [Int.mul_comm] at this
    omega
  have h3 : (u.toInt.tmod v.toInt).natAbs < v.toInt.natAbs := by
    rw [Int.natAbs_tmod]; exact Nat.mod_lt _ (Int.natAbs_pos.mpr hV)
  have h4 := rg64 v
  rw [e1, e2, Int.bmod_eq_of_le (by omega) (by omega)]
  exact h3
theorem nI_nm1 {n : Nat} (h : n < 2 ^ 31) : ¬ nI n = -1 := fun e => absurd (nI_pos' h) (by rw [e]; decide)
theorem nI_dec {n : Nat} (h : 1 ≤ n) : nI n + (-1) = nI (n - 1) := by
  obtain ⟨m, rfl⟩ : ∃ m, n = m + 1 := ⟨n - 1, by omega⟩
  exact pk_m1 m
theorem rc_of2 {a b : Nat} {x y : Int32} (ha : a ≤ 5) (hb : b ≤ 5) (ex : x = nI a) (ey : y = nI b) : ∃ k : Nat, k < 36 ∧ 6 * x + y = nI k := by
  subst ex ey
  refine ⟨6 * a + b, by omega, ?_⟩
  have e := pk_mul 6 a
  have e2 := nI_add (6 * a) b
  rw [← e2, ← e]
  rfl
theorem isheap_of {r h : Int32} {n : Nat} (hn : n ≤ 100) (q : (r = 1 ∧ ¬ h < 0 ∧ ¬ nI n - 1 < h) ∨ (r = 0 ∧ (h < 0 ∨ nI n - 1 < h))) : (r = 1 ∧ ∃ j : Nat, j < n ∧ h = nI j) ∨ (r = 0 ∧ ∀ j : Nat, j < n → h ≠ nI j) := by
  rcases Nat.eq_zero_or_pos n with e | e
  · subst e
    rcases q with ⟨q1, q2, q3⟩ | ⟨q1, q2⟩
    · exfalso
      have h3 : h ≤ nI 0 - 1 := Int32.not_lt.mp q3
      have h2 : (0 : Int32) ≤ h := Int32.not_lt.mp q2
      exact absurd (Int32.le_trans h2 h3) (by decide)
    · exact Or.inr ⟨q1, fun j hj => absurd hj (Nat.not_lt_zero j)⟩
  · have e1 : nI n - 1 = nI (n - 1) := pk_sub (a := n) (b := 1) e
    rw [e1] at q
    rcases q with ⟨q1, q2, q3⟩ | ⟨q1, q2⟩
    · obtain ⟨j, hj, e2⟩ := nI_of2 (n := n - 1) (nI_toInt (by omega)) q2 (Int32.not_lt.mp q3)
      exact Or.inl ⟨q1, j, by omega, e2⟩
    · refine Or.inr ⟨q1, fun j hj e2 => ?_⟩
      subst e2
      rcases q2 with q2 | q2
      · exact absurd q2 (nI_pos (by omega))
      · exact absurd q2 (nI_nlt (by omega) (by omega))

/-! what the answers are, as functions of what is visible -/
noncomputable def hh (n : Nat) (x : Int32) : Prop := ∃ j : Nat, j < n ∧ x = nI j
theorem hh_yes {n j : Nat} (h : j < n) : hh n (nI j) := ⟨j, h, rfl⟩
theorem hh_no {n : Nat} {x : Int32} (h : ∀ j : Nat, j < n → x ≠ nI j) : ¬ hh n x := fun ⟨j, hj, e⟩ => h j hj e
theorem i32_step {a b : Nat} (hb : b + 1 < 2 ^ 31) {x : Int32} (h : nI b < x) : nI (b + 1) ≤ x := by
  rw [Int32.le_iff_toInt_le, nI_toInt (by omega)]
  rw [Int32.lt_iff_toInt_lt, nI_toInt (by omega)] at h
  omega
theorem lt6_le7 {x : Int32} (h : 6 < x) : 7 ≤ x := i32_step (a := 0) (b := 6) (by omega) h
theorem le7_lt6 {x : Int32} (h : 7 ≤ x) : 6 < x := Int32.lt_of_lt_of_le (by decide) h
theorem lt5_le6 {x : Int32} (h : 5 < x) : 6 ≤ x := i32_step (a := 0) (b := 5) (by omega) h
theorem le6_lt5 {x : Int32} (h : 6 ≤ x) : 5 < x := Int32.lt_of_lt_of_le (by decide) h
theorem le36_lt35 {x : Int32} (h : 36 ≤ x) : 35 < x := Int32.lt_of_lt_of_le (by decide) h
theorem one3b {y : Int32} (h1 : ¬ y ≤ 0) (h2 : ¬ 4 ≤ y) : y = 1 ∨ y = 2 ∨ y = 3 := by
  have h3 : 0 < y := Int32.not_le.mp h1
  have h4 : y < 4 := Int32.not_le.mp h2
  obtain ⟨j, hj, rfl⟩ := nI_of2 (n := 4) (M := 4) (x := y) rfl (Int32.not_lt.mpr (Int32.le_of_lt h3)) (Int32.le_of_lt h4)
  have h5 : ¬ j = 0 := fun e => by subst e; exact absurd h3 (by decide)
  have h6 : ¬ j = 4 := fun e => by subst e; exact absurd h4 (by decide)
  have e : j = 1 ∨ j = 2 ∨ j = 3 := by omega
  rcases e with rfl | rfl | rfl
  · exact Or.inl rfl
  · exact Or.inr (Or.inl rfl)
  · exact Or.inr (Or.inr rfl)
/-- whether a cell has a heap: the reference's number of it -/
noncomputable def hoI (yc : Nat → Int32) (x : Int32) (i : Nat) (q : Int32) : Prop := (q = -1 ∧ ∀ k, k < i → ¬ yc k = x) ∨ (¬ q = -1 ∧ ∃ k, k < i ∧ yc k = x)
theorem ho_0 {yc : Nat → Int32} {x : Int32} : hoI yc x 0 (-1) := Or.inl ⟨rfl, fun k h => absurd h (Nat.not_lt_zero k)⟩
theorem ho_hit {yc : Nat → Int32} {x : Int32} {i : Nat} (hi : i < 1000) (e : yc i = x) : hoI yc x (i + 1) (nI i) := Or.inr ⟨nI_nm1 (by omega), i, by omega, e⟩
theorem ho_miss {yc : Nat → Int32} {x q : Int32} {i : Nat} (h : hoI yc x i q) (e : ¬ yc i = x) : hoI yc x (i + 1) q := by
  rcases h with ⟨h1, h2⟩ | ⟨h1, k, hk, h2⟩
  · refine Or.inl ⟨h1, fun k hk => ?_⟩
    by_cases z : k = i
    · rw [z]; exact e
    · exact h2 k (by omega)
  · exact Or.inr ⟨h1, k, by omega, h2⟩
theorem ho_end {yc : Nat → Int32} {x q : Int32} {i n : Nat} (h1 : n ≤ i) (h2 : i ≤ n) (h : hoI yc x i q) : hoI yc x n q := by
  rw [show n = i by omega]; exact h
noncomputable def hpR (n : Nat) (yc : Nat → Int32) (x y z : Int32) : Int32 := if (x < 0 ∨ 6 < x) ∨ (z < 0 ∨ 35 < z) then -1 else if y < 0 ∨ 9 < y then -2 else @ite Int32 (∃ k, k < n ∧ yc k = z) (Classical.propDecidable _) (-3) (if n = 8 then -4 else nI n)
section
variable {n : Nat} {yc : Nat → Int32} {x y z : Int32}
theorem no_ex (h : ∀ k, k < n → ¬ yc k = z) : ¬ ∃ k, k < n ∧ yc k = z := fun ⟨k, hk, e⟩ => h k hk e
theorem hp_none (h : (x < 0 ∨ 6 < x) ∨ (z < 0 ∨ 35 < z)) : -1 = hpR n yc x y z := by rw [hpR, if_pos h]
theorem hp_g (h1 : ¬ x < 0) (h2 : ¬ 6 < x) (h3 : ¬ z < 0) (h4 : ¬ 35 < z) : ¬ ((x < 0 ∨ 6 < x) ∨ (z < 0 ∨ 35 < z)) := fun q => by
  rcases q with (q | q) | (q | q)
  · exact h1 q
  · exact h2 q
  · exact h3 q
  · exact h4 q
theorem hp_y (h5 : ¬ y < 0) (h6 : ¬ 9 < y) : ¬ (y < 0 ∨ 9 < y) := fun q => by
  rcases q with q | q
  · exact h5 q
  · exact h6 q
theorem hp_bad (h1 : ¬ x < 0) (h2 : ¬ 6 < x) (h3 : ¬ z < 0) (h4 : ¬ 35 < z) (h : y < 0 ∨ 9 < y) : -2 = hpR n yc x y z := by rw [hpR, if_neg (hp_g h1 h2 h3 h4), if_pos h]
theorem hp_state (h1 : ¬ x < 0) (h2 : ¬ 6 < x) (h3 : ¬ z < 0) (h4 : ¬ 35 < z) (h5 : ¬ y < 0) (h6 : ¬ 9 < y) (h : ∃ k, k < n ∧ yc k = z) : -3 = hpR n yc x y z := by rw [hpR, if_neg (hp_g h1 h2 h3 h4), if_neg (hp_y h5 h6), if_pos h]
theorem hp_full (h1 : ¬ x < 0) (h2 : ¬ 6 < x) (h3 : ¬ z < 0) (h4 : ¬ 35 < z) (h5 : ¬ y < 0) (h6 : ¬ 9 < y) (h : ∀ k, k < n → ¬ yc k = z) (h8 : n = 8) : -4 = hpR n yc x y z := by rw [hpR, if_neg (hp_g h1 h2 h3 h4), if_neg (hp_y h5 h6), if_neg (no_ex h), if_pos h8]
theorem hp_ok (h1 : ¬ x < 0) (h2 : ¬ 6 < x) (h3 : ¬ z < 0) (h4 : ¬ 35 < z) (h5 : ¬ y < 0) (h6 : ¬ 9 < y) (h : ∀ k, k < n → ¬ yc k = z) (h8 : ¬ n = 8) : nI n = hpR n yc x y z := by rw [hpR, if_neg (hp_g h1 h2 h3 h4), if_neg (hp_y h5 h6), if_neg (no_ex h), if_neg h8]
end
noncomputable def bkR (n bz : Nat) (x : Int32) : Int32 := if x = -1 then 0 else @ite Int32 (hh n x) (Classical.propDecidable _) (if bz = 12 then -4 else nI (bz + 1)) (-1)
noncomputable def bkN (n bz : Nat) (x : Int32) : Nat := if x = -1 then 0 else @ite Nat (hh n x) (Classical.propDecidable _) (if bz = 12 then bz else bz + 1) bz
section
variable {n bz j : Nat} {x : Int32}
theorem bo_clear (h : x = -1) : 0 = bkR n bz x ∧ 0 = bkN n bz x := ⟨by rw [bkR, if_pos h], by rw [bkN, if_pos h]⟩
theorem bo_none (h : ¬ x = -1) (h2 : ∀ j : Nat, j < n → x ≠ nI j) : -1 = bkR n bz x ∧ bz = bkN n bz x := ⟨by rw [bkR, if_neg h, if_neg (hh_no h2)], by rw [bkN, if_neg h, if_neg (hh_no h2)]⟩
theorem bo_full (hn : n ≤ 8) (hj : j < n) (h : bz = 12) : -4 = bkR n bz (nI j) ∧ bz = bkN n bz (nI j) := ⟨by rw [bkR, if_neg (nI_nm1 (by omega)), if_pos (hh_yes hj), if_pos h], by rw [bkN, if_neg (nI_nm1 (by omega)), if_pos (hh_yes hj), if_pos h]⟩
theorem bo_one (hn : n ≤ 8) (hj : j < n) (h : ¬ bz = 12) : nI (bz + 1) = bkR n bz (nI j) ∧ bz + 1 = bkN n bz (nI j) := ⟨by rw [bkR, if_neg (nI_nm1 (by omega)), if_pos (hh_yes hj), if_neg h], by rw [bkN, if_neg (nI_nm1 (by omega)), if_pos (hh_yes hj), if_neg h]⟩
theorem bkN_le (h : bz ≤ 12) : bkN n bz x ≤ 12 := by
  by_cases h1 : x = -1
  · rw [bkN, if_pos h1]; omega
  · by_cases h2 : hh n x
    · by_cases h3 : bz = 12
      · rw [bkN, if_neg h1, if_pos h2, if_pos h3]; omega
      · rw [bkN, if_neg h1, if_pos h2, if_neg h3]; omega
    · rw [bkN, if_neg h1, if_neg h2]; exact h
end
/-- one kind under another -/
noncomputable abbrev isU (kind k : Int32) : Prop := k = 0 ∨ k = kind ∨ (k = 1 ∧ kind = 4) ∨ (k = 2 ∧ kind = 5) ∨ (k = 3 ∧ kind = 6)
theorem isU_a {x y : Int32} (h0 : ¬ y = 0) (h1 : ¬ y = x) (h2 : y ≤ 0) : ¬ isU x y := fun q => by
  rcases q with h | h | ⟨h, _⟩ | ⟨h, _⟩ | ⟨h, _⟩
  · exact h0 h
  · exact h1 h
  · rw [h] at h2; exact absurd h2 (by decide)
  · rw [h] at h2; exact absurd h2 (by decide)
  · rw [h] at h2; exact absurd h2 (by decide)
theorem isU_b {x y : Int32} (h0 : ¬ y = 0) (h1 : ¬ y = x) (h2 : 4 ≤ y) : ¬ isU x y := fun q => by
  rcases q with h | h | ⟨h, _⟩ | ⟨h, _⟩ | ⟨h, _⟩
  · exact h0 h
  · exact h1 h
  · rw [h] at h2; exact absurd h2 (by decide)
  · rw [h] at h2; exact absurd h2 (by decide)
  · rw [h] at h2; exact absurd h2 (by decide)
theorem isU_1 {x : Int32} (h1 : ¬ (1 : Int32) = x) (h2 : ¬ x = 4) : ¬ isU x 1 := fun q => by
  rcases q with h | h | ⟨_, h⟩ | ⟨h, _⟩ | ⟨h, _⟩
  · exact absurd h (by decide)
  · exact h1 h
  · exact h2 h
  · exact absurd h (by decide)
  · exact absurd h (by decide)
theorem isU_2 {x : Int32} (h1 : ¬ (2 : Int32) = x) (h2 : ¬ x = 5) : ¬ isU x 2 := fun q => by
  rcases q with h | h | ⟨h, _⟩ | ⟨_, h⟩ | ⟨h, _⟩
  · exact absurd h (by decide)
  · exact h1 h
  · exact absurd h (by decide)
  · exact h2 h
  · exact absurd h (by decide)
theorem isU_3 {x : Int32} (h1 : ¬ (3 : Int32) = x) (h2 : ¬ x = 6) : ¬ isU x 3 := fun q => by
  rcases q with h | h | ⟨h, _⟩ | ⟨h, _⟩ | ⟨_, h⟩
  · exact absurd h (by decide)
  · exact h1 h
  · exact absurd h (by decide)
  · exact absurd h (by decide)
  · exact h2 h
noncomputable def asR (n : Nat) (yk yv : Nat → Int32) (x y : Int32) : Int32 := @ite Int32 (hh n x) (Classical.propDecidable _) (if y < 0 ∨ 6 < y then -1 else if isU (yk x.toNatClampNeg) y then yv x.toNatClampNeg else -6) (-1)
section
variable {n j : Nat} {yk yv : Nat → Int32} {x y : Int32}
theorem as_y (h1 : ¬ y < 0) (h2 : ¬ 6 < y) : ¬ (y < 0 ∨ 6 < y) := fun q => q.elim h1 h2
theorem as_no (h : ∀ j : Nat, j < n → x ≠ nI j) : -1 = asR n yk yv x y := by rw [asR, if_neg (hh_no h)]
theorem as_bad (hn : n ≤ 8) (hj : j < n) (h : y < 0 ∨ 6 < y) : -1 = asR n yk yv (nI j) y := by rw [asR, if_pos (hh_yes hj), if_pos h]
theorem as_yes (hn : n ≤ 8) (hj : j < n) (h1 : ¬ y < 0) (h2 : ¬ 6 < y) (hU : isU (yk j) y) : yv j = asR n yk yv (nI j) y := by rw [asR, if_pos (hh_yes hj), if_neg (as_y h1 h2), nI_clamp (by omega), if_pos hU]
theorem as_not (hn : n ≤ 8) (hj : j < n) (h1 : ¬ y < 0) (h2 : ¬ 6 < y) (hU : ¬ isU (yk j) y) : -6 = asR n yk yv (nI j) y := by rw [asR, if_pos (hh_yes hj), if_neg (as_y h1 h2), nI_clamp (by omega), if_neg hU]
end
noncomputable def nxW (a b c : Int32) : Int32 := 3 * (c / 6) - 3 * (b / 6) + a / 6
noncomputable def nxL (a b c : Int32) : Int32 := 3 * (c - c / 6 * 6) - 3 * (b - b / 6 * 6) + (a - a / 6 * 6)
noncomputable def nxA (a b c : Int32) : Int32 := if (nxW a b c < 0 ∨ 5 < nxW a b c) ∨ (nxL a b c < 0 ∨ 5 < nxL a b c) then -5 else nxW a b c * 6 + nxL a b c
noncomputable def nxR (n : Nat) (yc : Nat → Int32) (x y z : Int32) : Int32 := @ite Int32 (hh n x ∧ hh n y ∧ hh n z) (Classical.propDecidable _) (nxA (yc x.toNatClampNeg) (yc y.toNatClampNeg) (yc z.toNatClampNeg)) (-1)
section
variable {n j1 j2 j3 : Nat} {yc : Nat → Int32} {x y z : Int32}
theorem nx_no1 (h : ∀ j : Nat, j < n → x ≠ nI j) : -1 = nxR n yc x y z := by rw [nxR, if_neg (show ¬ (hh n x ∧ hh n y ∧ hh n z) from fun q => hh_no h q.1)]
theorem nx_no2 (h : ∀ j : Nat, j < n → y ≠ nI j) : -1 = nxR n yc x y z := by rw [nxR, if_neg (show ¬ (hh n x ∧ hh n y ∧ hh n z) from fun q => hh_no h q.2.1)]
theorem nx_no3 (h : ∀ j : Nat, j < n → z ≠ nI j) : -1 = nxR n yc x y z := by rw [nxR, if_neg (show ¬ (hh n x ∧ hh n y ∧ hh n z) from fun q => hh_no h q.2.2)]
theorem nx_all (hn : n ≤ 8) (h1 : j1 < n) (h2 : j2 < n) (h3 : j3 < n) : nxR n yc (nI j1) (nI j2) (nI j3) = nxA (yc j1) (yc j2) (yc j3) := by rw [nxR, if_pos ⟨hh_yes h1, hh_yes h2, hh_yes h3⟩, nI_clamp (by omega), nI_clamp (by omega), nI_clamp (by omega)]
theorem nx_off (hn : n ≤ 8) (h1 : j1 < n) (h2 : j2 < n) (h3 : j3 < n) (h : (nxW (yc j1) (yc j2) (yc j3) < 0 ∨ 5 < nxW (yc j1) (yc j2) (yc j3)) ∨ (nxL (yc j1) (yc j2) (yc j3) < 0 ∨ 5 < nxL (yc j1) (yc j2) (yc j3))) : -5 = nxR n yc (nI j1) (nI j2) (nI j3) := by rw [nx_all hn h1 h2 h3, nxA, if_pos h]
theorem nx_on (hn : n ≤ 8) (h1 : j1 < n) (h2 : j2 < n) (h3 : j3 < n) (g1 : ¬ nxW (yc j1) (yc j2) (yc j3) < 0) (g2 : ¬ 5 < nxW (yc j1) (yc j2) (yc j3)) (g3 : ¬ nxL (yc j1) (yc j2) (yc j3) < 0) (g4 : ¬ 5 < nxL (yc j1) (yc j2) (yc j3)) : nxW (yc j1) (yc j2) (yc j3) * 6 + nxL (yc j1) (yc j2) (yc j3) = nxR n yc (nI j1) (nI j2) (nI j3) := by
  have hg : ¬ ((nxW (yc j1) (yc j2) (yc j3) < 0 ∨ 5 < nxW (yc j1) (yc j2) (yc j3)) ∨ (nxL (yc j1) (yc j2) (yc j3) < 0 ∨ 5 < nxL (yc j1) (yc j2) (yc j3))) := fun q => by
    rcases q with (q | q) | (q | q)
    · exact g1 q
    · exact g2 q
    · exact g3 q
    · exact g4 q
  rw [nx_all hn h1 h2 h3, nxA, if_neg hg]
theorem nx_in (hn : n ≤ 8) (h1 : j1 < n) (h2 : j2 < n) (h3 : j3 < n) (g1 : ¬ nxW (yc j1) (yc j2) (yc j3) < 0) (g2 : ¬ 5 < nxW (yc j1) (yc j2) (yc j3)) (g3 : ¬ nxL (yc j1) (yc j2) (yc j3) < 0) (g4 : ¬ 5 < nxL (yc j1) (yc j2) (yc j3)) : 6 * nxW (yc j1) (yc j2) (yc j3) + nxL (yc j1) (yc j2) (yc j3) = nxR n yc (nI j1) (nI j2) (nI j3) := by
  rw [Int32.mul_comm]; exact nx_on hn h1 h2 h3 g1 g2 g3 g4
end
theorem hill_off {a b : Int32} (h : (a < 0 ∨ 6 ≤ a) ∨ (b < 0 ∨ 6 ≤ b)) : (a < 0 ∨ 5 < a) ∨ (b < 0 ∨ 5 < b) := by
  rcases h with (h | h) | (h | h)
  · exact Or.inl (Or.inl h)
  · exact Or.inl (Or.inr (le6_lt5 h))
  · exact Or.inr (Or.inl h)
  · exact Or.inr (Or.inr (le6_lt5 h))
theorem hp_cell {z : Int32} (h : z < 0 ∨ 36 ≤ z) : z < 0 ∨ 35 < z := h.imp id le36_lt35
/-! acts: what they answer, which bodies run -/
noncomputable def acS (k m v x : Int32) : Int32 := if isU k 1 then x * 3 + m else if k = 5 then (x + m) ^^^ m else x + m
noncomputable def acG (k m v x : Int32) : Int32 := if isU k 2 then -(acS k m v x - v) else if k = 6 then acS k m v x - v + v else acS k m v x - v
noncomputable def acL (k m v x : Int32) : Int32 := if isU k 3 then (acG k m v x * 2) ^^^ 7 else if k = 4 then acG k m v (x - 1) * 2 + acS k m v 2 else acG k m v x * 2
noncomputable def btS (k : Int32) : List Nat := if isU k 1 then [11, 1] else if k = 5 then [51, 1] else [1]
noncomputable def btG (k : Int32) : List Nat := if isU k 2 then 21 :: 2 :: btS k else if k = 6 then 61 :: 2 :: btS k else 2 :: btS k
noncomputable def btL (k : Int32) : List Nat := if isU k 3 then 31 :: 3 :: btG k else if k = 4 then 41 :: 3 :: (btG k ++ btS k) else 3 :: btG k
section
variable {k m v x : Int32}
theorem acS_1 (h : isU k 1) : x * 3 + m = acS k m v x := by rw [acS, if_pos h]
theorem acS_5 (h : ¬ isU k 1) (h2 : k = 5) : (x + m) ^^^ m = acS k m v x := by rw [acS, if_neg h, if_pos h2]
theorem acS_0 (h : ¬ isU k 1) (h2 : ¬ k = 5) : x + m = acS k m v x := by rw [acS, if_neg h, if_neg h2]
theorem acG_2 (h : isU k 2) : -(acS k m v x - v) = acG k m v x := by rw [acG, if_pos h]
theorem acG_6 (h : ¬ isU k 2) (h2 : k = 6) : acS k m v x - v + v = acG k m v x := by rw [acG, if_neg h, if_pos h2]
theorem acG_0 (h : ¬ isU k 2) (h2 : ¬ k = 6) : acS k m v x - v = acG k m v x := by rw [acG, if_neg h, if_neg h2]
theorem acL_3 (h : isU k 3) : (acG k m v x * 2) ^^^ 7 = acL k m v x := by rw [acL, if_pos h]
theorem acL_4 (h : ¬ isU k 3) (h2 : k = 4) : acG k m v (x - 1) * 2 + acS k m v 2 = acL k m v x := by rw [acL, if_neg h, if_pos h2]
theorem acL_0 (h : ¬ isU k 3) (h2 : ¬ k = 4) : acG k m v x * 2 = acL k m v x := by rw [acL, if_neg h, if_neg h2]
theorem btS_1 (h : isU k 1) : btS k = [11, 1] := if_pos h
theorem btS_5 (h : ¬ isU k 1) (h2 : k = 5) : btS k = [51, 1] := by rw [btS, if_neg h, if_pos h2]
theorem btS_0 (h : ¬ isU k 1) (h2 : ¬ k = 5) : btS k = [1] := by rw [btS, if_neg h, if_neg h2]
theorem btG_2 (h : isU k 2) : btG k = 21 :: 2 :: btS k := if_pos h
theorem btG_6 (h : ¬ isU k 2) (h2 : k = 6) : btG k = 61 :: 2 :: btS k := by rw [btG, if_neg h, if_pos h2]
theorem btG_0 (h : ¬ isU k 2) (h2 : ¬ k = 6) : btG k = 2 :: btS k := by rw [btG, if_neg h, if_neg h2]
theorem btL_3 (h : isU k 3) : btL k = 31 :: 3 :: btG k := if_pos h
theorem btL_4 (h : ¬ isU k 3) (h2 : k = 4) : btL k = 41 :: 3 :: (btG k ++ btS k) := by rw [btL, if_neg h, if_pos h2]
theorem btL_0 (h : ¬ isU k 3) (h2 : ¬ k = 4) : btL k = 3 :: btG k := by rw [btL, if_neg h, if_neg h2]
theorem btS_le (k : Int32) : (btS k).length ≤ 2 := by
  by_cases h : isU k 1
  · rw [btS_1 h]; exact Nat.le_refl _
  · by_cases h2 : k = 5
    · rw [btS_5 h h2]; exact Nat.le_refl _
    · rw [btS_0 h h2]; exact Nat.le_of_ble_eq_true rfl
theorem btG_le (k : Int32) : (btG k).length ≤ 4 := by
  have q := btS_le k
  by_cases h : isU k 2
  · rw [btG_2 h]; simp only [List.length_cons]; omega
  · by_cases h2 : k = 6
    · rw [btG_6 h h2]; simp only [List.length_cons]; omega
    · rw [btG_0 h h2]; simp only [List.length_cons]; omega
theorem btL_le (k : Int32) : (btL k).length ≤ 8 := by
  have q := btS_le k
  have q2 := btG_le k
  by_cases h : isU k 3
  · rw [btL_3 h]; simp only [List.length_cons]; omega
  · by_cases h2 : k = 4
    · rw [btL_4 h h2]; simp only [List.length_cons, List.length_append]; omega
    · rw [btL_0 h h2]; simp only [List.length_cons]; omega
end
noncomputable def acR (n : Nat) (yk yv : Nat → Int32) (x y z : Int32) : Int32 := @ite Int32 (hh n x) (Classical.propDecidable _) (if y = 0 then acS (yk x.toNatClampNeg) x (yv x.toNatClampNeg) z else if y = 1 then acG (yk x.toNatClampNeg) x (yv x.toNatClampNeg) z else if y = 2 then acL (yk x.toNatClampNeg) x (yv x.toNatClampNeg) z else 0) 0
noncomputable def acT (n : Nat) (yk : Nat → Int32) (x y : Int32) : List Nat := @ite (List Nat) (hh n x) (Classical.propDecidable _) (if y = 0 then btS (yk x.toNatClampNeg) else if y = 1 then btG (yk x.toNatClampNeg) else if y = 2 then btL (yk x.toNatClampNeg) else []) []
section
variable {n j : Nat} {yk yv : Nat → Int32} {x y z : Int32}
theorem ac_no (h : ∀ j : Nat, j < n → x ≠ nI j) : 0 = acR n yk yv x y z ∧ acT n yk x y = [] := ⟨by rw [acR, if_neg (hh_no h)], by rw [acT, if_neg (hh_no h)]⟩
theorem ac_bad (hj : j < n) (h0 : ¬ y = 0) (h1 : ¬ y = 1) (h2 : ¬ y = 2) : 0 = acR n yk yv (nI j) y z ∧ acT n yk (nI j) y = [] := ⟨by rw [acR, if_pos (hh_yes hj), if_neg h0, if_neg h1, if_neg h2], by rw [acT, if_pos (hh_yes hj), if_neg h0, if_neg h1, if_neg h2]⟩
theorem ac_bad2 (hj : j < n) (h : y < 0 ∨ 2 < y) : 0 = acR n yk yv (nI j) y z ∧ acT n yk (nI j) y = [] := by
  refine ac_bad hj (fun e => ?_) (fun e => ?_) (fun e => ?_)
  · rw [e] at h; exact absurd h (by decide)
  · rw [e] at h; exact absurd h (by decide)
  · rw [e] at h; exact absurd h (by decide)
theorem ac_0 (hn : n ≤ 8) (hj : j < n) (h : y = 0) : acS (yk j) (nI j) (yv j) z = acR n yk yv (nI j) y z ∧ acT n yk (nI j) y = btS (yk j) := ⟨by rw [acR, if_pos (hh_yes hj), if_pos h, nI_clamp (by omega)], by rw [acT, if_pos (hh_yes hj), if_pos h, nI_clamp (by omega)]⟩
theorem ac_1 (hn : n ≤ 8) (hj : j < n) (h : y = 1) : acG (yk j) (nI j) (yv j) z = acR n yk yv (nI j) y z ∧ acT n yk (nI j) y = btG (yk j) := by
  subst h
  exact ⟨by rw [acR, if_pos (hh_yes hj), if_neg (by decide), if_pos rfl, nI_clamp (by omega)], by rw [acT, if_pos (hh_yes hj), if_neg (by decide), if_pos rfl, nI_clamp (by omega)]⟩
theorem ac_2 (hn : n ≤ 8) (hj : j < n) (h : y = 2) : acL (yk j) (nI j) (yv j) z = acR n yk yv (nI j) y z ∧ acT n yk (nI j) y = btL (yk j) := by
  subst h
  exact ⟨by rw [acR, if_pos (hh_yes hj), if_neg (by decide), if_neg (by decide), if_pos rfl, nI_clamp (by omega)], by rw [acT, if_pos (hh_yes hj), if_neg (by decide), if_neg (by decide), if_pos rfl, nI_clamp (by omega)]⟩
theorem y_is2 (h1 : ¬ y < 0) (h2 : ¬ 2 < y) (h3 : ¬ y = 0) (h4 : ¬ y = 1) : y = 2 := by
  obtain ⟨i, hi, rfl⟩ := nI_of2 (n := 2) (M := 2) (x := y) rfl h1 (Int32.not_lt.mp h2)
  have e : i = 0 ∨ i = 1 ∨ i = 2 := by omega
  rcases e with rfl | rfl | rfl
  · exact absurd rfl h3
  · exact absurd rfl h4
  · rfl
theorem acT_le : (acT n yk x y).length ≤ 8 := by
  by_cases h : hh n x
  · rw [acT, if_pos h]
    have q1 := btS_le (yk x.toNatClampNeg)
    have q2 := btG_le (yk x.toNatClampNeg)
    have q3 := btL_le (yk x.toNatClampNeg)
    split
    · omega
    · split
      · omega
      · split
        · omega
        · exact Nat.zero_le _
  · rw [acT, if_neg h]; exact Nat.zero_le _
end
/-! the bodies of the last act -/
theorem getD_l {L M : List Nat} {k : Nat} (h : k < L.length) : (L ++ M).getD k 0 = L.getD k 0 := by
  rw [List.getD_eq_getElem?_getD, List.getElem?_append_left h, ← List.getD_eq_getElem?_getD]
theorem getD_r {L : List Nat} {b : Nat} : (L ++ [b]).getD L.length 0 = b := by
  rw [List.getD_eq_getElem?_getD, List.getElem?_append_right (Nat.le_refl _), Nat.sub_self]; rfl
noncomputable def okY (f : Nat → Int32) (L : List Nat) : Prop := ∀ k, k < L.length → f k = nI (L.getD k 0)
theorem okY_nil {f : Nat → Int32} : okY f [] := fun k h => absurd h (Nat.not_lt_zero k)
theorem okY_add {f : Nat → Int32} {L : List Nat} {b : Nat} (h : okY f L) : okY (upd f L.length (nI b)) (L ++ [b]) := by
  intro k hk
  rw [List.length_append] at hk
  have hk : k < L.length + 1 := hk
  by_cases q : k = L.length
  · subst q; rw [pk_us, getD_r]
  · rw [pk_un q, getD_l (by omega)]; exact h k (by omega)
noncomputable def trR (L : List Nat) (x : Int32) : Int32 := @ite Int32 (hh L.length x) (Classical.propDecidable _) (nI (L.getD x.toNatClampNeg 0)) (-1)
theorem tr_no {L : List Nat} {x : Int32} (h : ∀ j : Nat, j < L.length → x ≠ nI j) : -1 = trR L x := by rw [trR, if_neg (hh_no h)]
theorem tr_yes {L : List Nat} {j : Nat} (hL : L.length ≤ 100) (hj : j < L.length) : nI (L.getD j 0) = trR L (nI j) := by rw [trR, if_pos (hh_yes hj), nI_clamp (by omega)]
theorem trL_of {x : Int32} {k : Nat} (hk : k ≤ 20) (h1 : ¬ x < 0) (h2 : ¬ nI k - 1 < x) : ∃ j : Nat, j < k ∧ x = nI j := by
  rcases isheap_of (n := k) (r := 1) (h := x) (by omega) (Or.inl ⟨rfl, h1, h2⟩) with ⟨_, j, hj, e⟩ | ⟨e, _⟩
  · exact ⟨j, hj, e⟩
  · exact absurd e (by decide)
theorem trL_no {x : Int32} {k : Nat} (hk : k ≤ 20) (h : x < 0 ∨ nI k - 1 < x) : ∀ j : Nat, j < k → x ≠ nI j := by
  rcases isheap_of (n := k) (r := 0) (h := x) (by omega) (Or.inr ⟨rfl, h⟩) with ⟨e, _⟩ | ⟨_, q⟩
  · exact absurd e (by decide)
  · exact q

noncomputable def bt (x : Int32) (i : Nat) : Bool := x.toBitVec.getLsbD i
theorem b_ext {x y : Int32} (h : ∀ i, i < 32 → bt x i = bt y i) : x = y := Int32.toBitVec_inj.mp (BitVec.eq_of_getLsbD_eq (fun i hi => h i hi))
theorem b_or (x y : Int32) (i : Nat) : bt (x ||| y) i = (bt x i || bt y i) := by unfold bt; rw [Int32.toBitVec_or, BitVec.getLsbD_or]
theorem b_and (x y : Int32) (i : Nat) : bt (x &&& y) i = (bt x i && bt y i) := by unfold bt; rw [Int32.toBitVec_and, BitVec.getLsbD_and]
theorem b_xor (x y : Int32) (i : Nat) : bt (x ^^^ y) i = (bt x i ^^ bt y i) := by unfold bt; rw [Int32.toBitVec_xor, BitVec.getLsbD_xor]
theorem b_0 (i : Nat) : bt 0 i = false := BitVec.getLsbD_zero
theorem s_l : ∀ n, n < 32 → ((nI n &&& 31).toBitVec.smod 32).toNat = n := by decide +kernel
theorem b_shl (n : Nat) (hn : n < 32) (x : Int32) {i : Nat} (hi : i < 32) : bt (x <<< (nI n &&& 31)) i = (decide (n ≤ i) && bt x (i - n)) := by
  unfold bt
  rw [Int32.toBitVec_shiftLeft]
  show (x.toBitVec <<< ((nI n &&& 31).toBitVec.smod 32).toNat).getLsbD i = _
  rw [s_l n hn, BitVec.getLsbD_shiftLeft]
  rcases Nat.lt_or_ge i n with h | h
  · simp [h, Nat.not_le.mpr h]
  · simp [hi, h, Nat.not_lt.mpr h]
theorem b_sshr (n : Nat) (hn : n < 32) (x : Int32) {i : Nat} (hi : i < 32) : bt (x >>> (nI n &&& 31)) i = if n + i < 32 then bt x (n + i) else bt x 31 := by
  unfold bt
  rw [Int32.toBitVec_shiftRight]
  show (x.toBitVec.sshiftRight ((nI n &&& 31).toBitVec.smod 32).toNat).getLsbD i = _
  rw [s_l n hn, BitVec.getLsbD_sshiftRight, BitVec.msb_eq_getLsbD_last]
  simp [hi]
theorem wb_tb (n : Nat) : (lN n).toBitVec = BitVec.ofNat 64 n := rfl
theorem wb_inj {a b : Int64} (h : a.toBitVec = b.toBitVec) : a = b := Int64.toBitVec_inj.mp h
theorem wb_tn {n : Nat} (h : n < 2 ^ 64) : (lN n).toBitVec.toNat = n := by rw [wb_tb, BitVec.toNat_ofNat, Nat.mod_eq_of_lt h]
theorem wb_of (x : Int64) : ∃ n, n < 2 ^ 64 ∧ x = lN n := ⟨x.toBitVec.toNat, x.toBitVec.isLt, wb_inj (by rw [wb_tb]; simp)⟩
theorem wb_c : ∀ k, k < 64 → ((nI k).toInt64 &&& 63) = lN k := by decide +kernel
theorem wb_cu : ∀ k, k < 64 → ((nI k).toInt64.toUInt64 &&& Int64.toUInt64 63) = UInt64.ofNat k := by decide +kernel
theorem wb_sm : ∀ k, k < 64 → (BitVec.ofNat 64 k).smod 64 = BitVec.ofNat 64 k := by decide +kernel
theorem wb_pw {a b : Nat} (h : a ≤ b) : 2 ^ b = 2 ^ a * 2 ^ (b - a) := by rw [← Nat.pow_add]; congr 1; omega
theorem wb_lt2 {a b : Nat} (h : a < b) : 2 ^ a < 2 ^ b := Nat.pow_lt_pow_right (by decide) h
theorem wb_shr {n k : Nat} (hn : n < 2 ^ 64) (hk : k < 64) : ((lN n).toUInt64 >>> ((nI k).toInt64.toUInt64 &&& Int64.toUInt64 63)).toInt64 = lN (n / 2 ^ k) := by
  rw [wb_cu k hk]
  apply wb_inj
  apply BitVec.eq_of_toNat_eq
  show ((lN n).toUInt64 >>> UInt64.ofNat k).toNat = (BitVec.ofNat 64 _).toNat
  have h1 : (UInt64.ofNat k).toNat = k := by
    show (BitVec.ofNat 64 k).toNat = k
    rw [BitVec.toNat_ofNat, Nat.mod_eq_of_lt (by omega)]
  have h2 : (lN n).toUInt64.toNat = n := wb_tn hn
  rw [UInt64.toNat_shiftRight, h1, h2, Nat.mod_eq_of_lt hk, Nat.shiftRight_eq_div_pow, BitVec.toNat_ofNat, Nat.mod_eq_of_lt (Nat.lt_of_le_of_lt (Nat.div_le_self _ _) hn)]
theorem wb_and {a b : Nat} (ha : a < 2 ^ 64) (hb : b < 2 ^ 64) : lN a &&& lN b = lN (a &&& b) := by
  apply wb_inj
  rw [Int64.toBitVec_and, wb_tb, wb_tb, wb_tb]
  apply BitVec.eq_of_toNat_eq
  rw [BitVec.toNat_and, BitVec.toNat_ofNat, BitVec.toNat_ofNat, BitVec.toNat_ofNat, Nat.mod_eq_of_lt ha, Nat.mod_eq_of_lt hb, Nat.mod_eq_of_lt (Nat.and_lt_two_pow _ hb)]
theorem wb_or {a b : Nat} (ha : a < 2 ^ 64) (hb : b < 2 ^ 64) : lN a ||| lN b = lN (a ||| b) := by
  apply wb_inj
  rw [Int64.toBitVec_or, wb_tb, wb_tb, wb_tb]
  apply BitVec.eq_of_toNat_eq
  rw [BitVec.toNat_or, BitVec.toNat_ofNat, BitVec.toNat_ofNat, BitVec.toNat_ofNat, Nat.mod_eq_of_lt ha, Nat.mod_eq_of_lt hb, Nat.mod_eq_of_lt (Nat.or_lt_two_pow ha hb)]
theorem wb_mask {n k : Nat} (hn : n < 2 ^ 64) (hk : k < 64) : lN n &&& lN (2 ^ k - 1) = lN (n % 2 ^ k) := by
  rw [wb_and hn (by have := wb_lt2 hk; omega), Nat.and_two_pow_sub_one_eq_mod]
theorem wb_a1 {n : Nat} (hn : n < 2 ^ 64) : lN n &&& 1 = lN (n % 2) := wb_mask (k := 1) hn (by decide)
theorem pf_lI {a : Nat} (h : a < 2 ^ 63) : (lN a).toInt = (a : Int) := lg_ofNat_toInt h
theorem pf_shr {a d : Nat} {D : Int64} (hD : (D.toBitVec.smod 64).toNat = d) (h : a < 2 ^ 62) : lN a >>> D = lN (a / 2 ^ d) := by
  have hd : a / 2 ^ d ≤ a := Nat.div_le_self _ _
  apply Int64.toInt_inj.mp
  have e : (lN a >>> D).toInt = (lN a).toInt >>> d := by
    rw [← hD]
    exact BitVec.toInt_sshiftRight ..
  rw [e, Int.shiftRight_eq_div_pow, pf_lI (by omega), pf_lI (by omega)]
  rfl
theorem lN_bv (n : Nat) : (lN n).toBitVec = BitVec.ofNat 64 n := rfl
theorem lN_xor (a b : Nat) : lN a ^^^ lN b = lN (a ^^^ b) := by
  apply Int64.toBitVec_inj.mp; rw [Int64.toBitVec_xor, lN_bv, lN_bv, lN_bv]; apply BitVec.eq_of_getLsbD_eq; intro i hi; simp [BitVec.getLsbD_ofNat, Nat.testBit_xor, hi]
theorem cr_bits (W U M : BitVec 64) : ((W &&& U) &&& (U &&& (M ^^^ BitVec.allOnes 64))) = 0#64 ↔ (W &&& U) &&& M = W &&& U := by
  constructor
  · intro h
    apply BitVec.eq_of_getLsbD_eq
    intro i hi
    have e := congrArg (fun x => BitVec.getLsbD x i) h
    simp only [BitVec.getLsbD_and, BitVec.getLsbD_xor, BitVec.getLsbD_allOnes, BitVec.getLsbD_zero, hi, decide_true] at e ⊢
    revert e
    cases W.getLsbD i <;> cases U.getLsbD i <;> cases M.getLsbD i <;> decide
  · intro h
    apply BitVec.eq_of_getLsbD_eq
    intro i hi
    have e := congrArg (fun x => BitVec.getLsbD x i) h
    simp only [BitVec.getLsbD_and, BitVec.getLsbD_xor, BitVec.getLsbD_allOnes, BitVec.getLsbD_zero, hi, decide_true] at e ⊢
    revert e
    cases W.getLsbD i <;> cases U.getLsbD i <;> cases M.getLsbD i <;> decide
theorem cr_mask (w U m : Int64) (n : Nat) (hm : m.toBitVec.toNat = 2 ^ n - 1) : ((w &&& U) &&& (U &&& (m ^^^ (-1)))) = 0 ↔ (w &&& U).toBitVec.toNat < 2 ^ n := by
  have e0 : (-1 : Int64).toBitVec = BitVec.allOnes 64 := by decide
  have z0 : (0 : Int64).toBitVec = 0#64 := by decide
  rw [← Int64.toBitVec_inj, z0, Int64.toBitVec_and, Int64.toBitVec_and, Int64.toBitVec_and, Int64.toBitVec_xor, e0, cr_bits]
  generalize w.toBitVec &&& U.toBitVec = T
  rw [← BitVec.toNat_inj, BitVec.toNat_and, hm, Nat.and_two_pow_sub_one_eq_mod]
  constructor
  · intro h
    have t := Nat.mod_lt T.toNat (Nat.two_pow_pos n)
    rw [h] at t
    exact t
  · exact Nat.mod_eq_of_lt
/-! how many bits a number has -/
theorem ld_sp {a b c d : Nat} (ha : a < 256) (hc : c < 256) : (256 * b + a) &&& (256 * d + c) = 256 * (b &&& d) + (a &&& c) := by
  apply Nat.eq_of_testBit_eq
  intro i
  have h : (a &&& c) < 2 ^ 8 := Nat.lt_of_le_of_lt Nat.and_le_left ha
  rw [Nat.testBit_and, show (256 : Nat) = 2 ^ 8 from rfl, Nat.testBit_two_pow_mul_add b (show a < 2 ^ 8 from ha), Nat.testBit_two_pow_mul_add d (show c < 2 ^ 8 from hc), Nat.testBit_two_pow_mul_add _ h]
  split
  · rw [Nat.testBit_and]
  · rw [Nat.testBit_and]
noncomputable def mapB (g : Nat → Nat) : Nat → Nat → Nat
  | 0, _ => 0
  | k + 1, e => 256 * mapB g k (e / 256) + g (e % 256)
noncomputable def mskB (c : Nat) : Nat → Nat
  | 0 => 0
  | k + 1 => 256 * mskB c k + c
theorem m256 (x : Nat) : x % 256 < 256 := Nat.mod_lt _ (by decide)
theorem mb_and {c : Nat} (hc : c < 256) : ∀ k x, x &&& mskB c k = mapB (fun d => d &&& c) k x
  | 0, x => Nat.and_zero x
  | k + 1, x => by
    have e : x = 256 * (x / 256) + x % 256 := (Nat.div_add_mod x 256).symm
    show x &&& (256 * mskB c k + c) = 256 * mapB (fun d => d &&& c) k (x / 256) + (x % 256 &&& c)
    rw [← mb_and hc k (x / 256), ← ld_sp (m256 x) hc, ← e]
theorem mb_2 {c : Nat} (hb : ∀ d, d < 256 → ∀ b, b < 2 → (d / 2 + 128 * b) &&& c = (d / 2) &&& c) : ∀ k x, mapB (fun d => d &&& c) k (x / 2) = mapB (fun d => (d / 2) &&& c) k x
  | 0, _ => rfl
  | k + 1, x => by
    show 256 * mapB (fun d => d &&& c) k (x / 2 / 256) + (x / 2 % 256 &&& c) = 256 * mapB (fun d => (d / 2) &&& c) k (x / 256) + (x % 256 / 2 &&& c)
    rw [show x / 2 / 256 = x / 256 / 2 by omega, mb_2 hb k (x / 256), show x / 2 % 256 = x % 256 / 2 + 128 * (x / 256 % 2) by omega, hb _ (m256 x) _ (Nat.mod_lt _ (by decide))]
theorem mb_4 {c : Nat} (hb : ∀ d, d < 256 → ∀ b, b < 4 → (d / 4 + 64 * b) &&& c = (d / 4) &&& c) : ∀ k x, mapB (fun d => d &&& c) k (x / 4) = mapB (fun d => (d / 4) &&& c) k x
  | 0, _ => rfl
  | k + 1, x => by
    show 256 * mapB (fun d => d &&& c) k (x / 4 / 256) + (x / 4 % 256 &&& c) = 256 * mapB (fun d => (d / 4) &&& c) k (x / 256) + (x % 256 / 4 &&& c)
    rw [show x / 4 / 256 = x / 256 / 4 by omega, mb_4 hb k (x / 256), show x / 4 % 256 = x % 256 / 4 + 64 * (x / 256 % 4) by omega, hb _ (m256 x) _ (Nat.mod_lt _ (by decide))]
theorem mb_sub {g : Nat → Nat} (hg : ∀ d, d < 256 → g d ≤ d) : ∀ k e, e < 256 ^ k → e - mapB g k e = mapB (fun d => d - g d) k e ∧ mapB g k e ≤ e
  | 0, e, h => by
    have h0 : e < 1 := h
    have h1 : e = 0 := by omega
    subst h1
    exact ⟨rfl, Nat.le_refl _⟩
  | k + 1, e, h => by
    have h1 : e / 256 < 256 ^ k := Nat.div_lt_of_lt_mul (by rw [Nat.mul_comm]; exact h)
    obtain ⟨h2, h3⟩ := mb_sub hg k (e / 256) h1
    have h4 := hg (e % 256) (m256 e)
    have e1 : mapB g (k + 1) e = 256 * mapB g k (e / 256) + g (e % 256) := rfl
    have e2 : mapB (fun d => d - g d) (k + 1) e = 256 * mapB (fun d => d - g d) k (e / 256) + (e % 256 - g (e % 256)) := rfl
    rw [e1, e2, ← h2]
    omega
theorem mb_add {g h : Nat → Nat} : ∀ k e, mapB g k e + mapB h k e = mapB (fun d => g d + h d) k e
  | 0, _ => rfl
  | k + 1, e => by
    have e1 : mapB g (k + 1) e = 256 * mapB g k (e / 256) + g (e % 256) := rfl
    have e2 : mapB h (k + 1) e = 256 * mapB h k (e / 256) + h (e % 256) := rfl
    have e3 : mapB (fun d => g d + h d) (k + 1) e = 256 * mapB (fun d => g d + h d) k (e / 256) + (g (e % 256) + h (e % 256)) := rfl
    rw [e1, e2, e3, ← mb_add k (e / 256)]
    omega
theorem mb_comp {g h : Nat → Nat} (hh : ∀ d, d < 256 → h d < 256) : ∀ k e, mapB g k (mapB h k e) = mapB (fun d => g (h d)) k e
  | 0, _ => rfl
  | k + 1, e => by
    have h1 := hh (e % 256) (m256 e)
    show 256 * mapB g k ((256 * mapB h k (e / 256) + h (e % 256)) / 256) + g ((256 * mapB h k (e / 256) + h (e % 256)) % 256) = 256 * mapB (fun d => g (h d)) k (e / 256) + g (h (e % 256))
    rw [show (256 * mapB h k (e / 256) + h (e % 256)) / 256 = mapB h k (e / 256) by omega, show (256 * mapB h k (e / 256) + h (e % 256)) % 256 = h (e % 256) by omega, mb_comp hh k (e / 256)]
theorem mb_cong {g h : Nat → Nat} (hh : ∀ d, d < 256 → g d = h d) : ∀ k e, mapB g k e = mapB h k e
  | 0, _ => rfl
  | k + 1, e => by
    show 256 * mapB g k (e / 256) + g (e % 256) = 256 * mapB h k (e / 256) + h (e % 256)
    rw [mb_cong hh k (e / 256), hh _ (m256 e)]
theorem mb_n4 {h : Nat → Nat} (hh : ∀ d, d < 256 → h d % 16 ≤ 4 ∧ h d / 16 ≤ 4) : ∀ k e, mapB h k e % 16 ≤ 4
  | 0, _ => by show 0 % 16 ≤ 4; omega
  | k + 1, e => by
    have h1 := hh (e % 256) (m256 e)
    show (256 * mapB h k (e / 256) + h (e % 256)) % 16 ≤ 4
    omega
theorem mb_16 {h : Nat → Nat} (hh : ∀ d, d < 256 → h d % 16 ≤ 4 ∧ h d / 16 ≤ 4) : ∀ k e, (mapB h k e + mapB h k e / 16) &&& mskB 15 k = mapB (fun d => (h d + h d / 16) % 16) k e
  | 0, _ => Nat.and_zero _
  | k + 1, e => by
    have h1 := hh (e % 256) (m256 e)
    have h2 := mb_n4 hh k (e / 256)
    show ((256 * mapB h k (e / 256) + h (e % 256)) + (256 * mapB h k (e / 256) + h (e % 256)) / 16) &&& (256 * mskB 15 k + 15) = 256 * mapB (fun d => (h d + h d / 16) % 16) k (e / 256) + (h (e % 256) + h (e % 256) / 16) % 16
    rw [← mb_16 hh k (e / 256), show (256 * mapB h k (e / 256) + h (e % 256)) + (256 * mapB h k (e / 256) + h (e % 256)) / 16 = 256 * (mapB h k (e / 256) + mapB h k (e / 256) / 16) + (h (e % 256) + h (e % 256) / 16 + 16 * (mapB h k (e / 256) % 16)) by omega, ld_sp (by omega) (by decide)]
    have h3 : (h (e % 256) + h (e % 256) / 16 + 16 * (mapB h k (e / 256) % 16)) &&& 15 = (h (e % 256) + h (e % 256) / 16 + 16 * (mapB h k (e / 256) % 16)) % 16 := Nat.and_two_pow_sub_one_eq_mod _ 4
    rw [h3]
    omega
noncomputable def bsum : Nat → Nat → Nat
  | 0, _ => 0
  | m + 1, e => e % 2 + bsum m (e / 2)
noncomputable def sw1 (e : Nat) : Nat := e - ((e / 2) &&& 6148914691236517205)
noncomputable def sw2 (a : Nat) : Nat := (a &&& 3689348814741910323) + ((a / 4) &&& 3689348814741910323)
noncomputable def sw3 (a : Nat) : Nat := (a + a / 16) &&& 1085102592571150095
noncomputable def swb (d : Nat) : Nat := ((d - (d / 2 &&& 85)) &&& 51) + ((d - (d / 2 &&& 85)) / 4 &&& 51)
theorem swb_ok : ∀ d, d < 256 → swb d % 16 ≤ 4 ∧ swb d / 16 ≤ 4 := by decide +kernel
theorem swb_pc : ∀ d, d < 256 → (swb d + swb d / 16) % 16 = bsum 8 d := by decide +kernel
theorem pc_8 : ∀ d, d < 256 → bsum 8 d ≤ 8 := by decide +kernel
theorem sw_b2 : ∀ d, d < 256 → ∀ b, b < 2 → (d / 2 + 128 * b) &&& 85 = (d / 2) &&& 85 := by decide +kernel
theorem sw_b4 : ∀ d, d < 256 → ∀ b, b < 4 → (d / 4 + 64 * b) &&& 51 = (d / 4) &&& 51 := by decide +kernel
theorem sw_s1 : ∀ d, d < 256 → (d / 2 &&& 85) ≤ d := by decide +kernel
theorem sw_s2 : ∀ d, d < 256 → d - (d / 2 &&& 85) < 256 := by decide +kernel
theorem sw_m {e : Nat} (h : e < 2 ^ 64) : sw3 (sw2 (sw1 e)) = mapB (bsum 8) 8 e := by
  have m5 : (6148914691236517205 : Nat) = mskB 85 8 := rfl
  have m3 : (3689348814741910323 : Nat) = mskB 51 8 := rfl
  have mf : (1085102592571150095 : Nat) = mskB 15 8 := rfl
  have h1 : sw1 e = mapB (fun d => d - (d / 2 &&& 85)) 8 e := by
    rw [sw1, m5, mb_and (by decide), mb_2 sw_b2]
    exact (mb_sub sw_s1 8 e (Nat.lt_of_lt_of_le h (by decide))).1
  have h2 : sw2 (sw1 e) = mapB swb 8 e := by
    rw [sw2, m3, mb_and (by decide), mb_and (by decide), mb_4 sw_b4, mb_add, h1, mb_comp sw_s2]
    rfl
  rw [sw3, h2, mf, mb_16 swb_ok]
  exact mb_cong swb_pc 8 e
theorem bs_8 (m e : Nat) : bsum (m + 8) e = bsum 8 (e % 256) + bsum m (e / 256) := by
  have h : e / 2 / 2 / 2 / 2 / 2 / 2 / 2 / 2 = e / 256 := by omega
  simp only [bsum, h]
  omega
theorem bs_z : ∀ m j e, e < 2 ^ m → bsum (m + j) e = bsum m e
  | 0, j, e, h => by
    have h0 : e < 1 := h
    have h1 : e = 0 := by omega
    subst h1
    rw [Nat.zero_add]
    induction j with
    | zero => rfl
    | succ j ih => show 0 % 2 + bsum j (0 / 2) = 0; rw [show (0 : Nat) / 2 = 0 from rfl, ih]; rfl
  | m + 1, j, e, h => by
    rw [show m + 1 + j = (m + j) + 1 by omega]
    show e % 2 + bsum (m + j) (e / 2) = e % 2 + bsum m (e / 2)
    rw [bs_z m j (e / 2) (by rw [Nat.pow_succ] at h; omega)]
theorem bs_s : ∀ i e, bsum (i + 1) e = bsum i e + e / 2 ^ i % 2
  | 0, e => by show e % 2 + 0 = 0 + e / 1 % 2; rw [Nat.div_one]; omega
  | i + 1, e => by
    show e % 2 + bsum (i + 1) (e / 2) = e % 2 + bsum i (e / 2) + e / 2 ^ (i + 1) % 2
    rw [bs_s i (e / 2), Nat.div_div_eq_div_mul, show 2 * 2 ^ i = 2 ^ (i + 1) by rw [Nat.pow_succ]; omega]
    omega
theorem bs_le : ∀ i e, bsum i e ≤ i
  | 0, _ => Nat.le_refl _
  | i + 1, e => by
    have := bs_le i (e / 2)
    show e % 2 + bsum i (e / 2) ≤ i + 1
    omega
theorem sw_fin {M A B C D E F p0 p1 p2 p3 p4 p5 p6 p7 : Nat} (h0 : p0 ≤ 8) (h1 : p1 ≤ 8) (h2 : p2 ≤ 8) (h3 : p3 ≤ 8) (h4 : p4 ≤ 8) (h5 : p5 ≤ 8) (h6 : p6 ≤ 8) (h7 : p7 ≤ 8) (hM : M = 256 * A + p0) (hA : A = 256 * B + p1) (hB : B = 256 * C + p2) (hC : C = 256 * D + p3) (hD : D = 256 * E + p4) (hE : E = 256 * F + p5) (hF : F = 256 * p7 + p6) : (M + M / 256 + (M + M / 256) / 65536 + (M + M / 256 + (M + M / 256) / 65536) / 4294967296) % 128 = p0 + (p1 + (p2 + (p3 + (p4 + (p5 + (p6 + p7)))))) := by
  have d1 : M / 256 = A := by omega
  rw [d1]
  have d2 : (M + A) / 65536 = B + C := by omega
  rw [d2]
  have d3 : (M + A + (B + C)) / 4294967296 = D + E + F + p7 := by omega
  rw [d3]
  omega
/-- the JDK's way of counting bits -/
theorem sw_all {e : Nat} (h : e < 2 ^ 36) : ((sw3 (sw2 (sw1 e)) + sw3 (sw2 (sw1 e)) / 256 + (sw3 (sw2 (sw1 e)) + sw3 (sw2 (sw1 e)) / 256) / 65536) + (sw3 (sw2 (sw1 e)) + sw3 (sw2 (sw1 e)) / 256 + (sw3 (sw2 (sw1 e)) + sw3 (sw2 (sw1 e)) / 256) / 65536) / 4294967296) % 128 = bsum 36 e := by
  have hb : bsum 36 e = bsum 8 (e % 256) + (bsum 8 (e / 256 % 256) + (bsum 8 (e / 256 / 256 % 256) + (bsum 8 (e / 256 / 256 / 256 % 256) + (bsum 8 (e / 256 / 256 / 256 / 256 % 256) + (bsum 8 (e / 256 / 256 / 256 / 256 / 256 % 256) + (bsum 8 (e / 256 / 256 / 256 / 256 / 256 / 256 % 256) + bsum 8 (e / 256 / 256 / 256 / 256 / 256 / 256 / 256))))))) := by
    rw [← bs_z 36 28 e h]
    exact (bs_8 56 e).trans (congrArg _ ((bs_8 48 _).trans (congrArg _ ((bs_8 40 _).trans (congrArg _ ((bs_8 32 _).trans (congrArg _ ((bs_8 24 _).trans (congrArg _ ((bs_8 16 _).trans (congrArg _ (bs_8 8 _))))))))))))
  rw [hb, sw_m (by omega)]
  have hm : mapB (bsum 8) 8 e = 256 * (256 * (256 * (256 * (256 * (256 * (256 * (256 * 0 + bsum 8 (e / 256 / 256 / 256 / 256 / 256 / 256 / 256 % 256)) + bsum 8 (e / 256 / 256 / 256 / 256 / 256 / 256 % 256)) + bsum 8 (e / 256 / 256 / 256 / 256 / 256 % 256)) + bsum 8 (e / 256 / 256 / 256 / 256 % 256)) + bsum 8 (e / 256 / 256 / 256 % 256)) + bsum 8 (e / 256 / 256 % 256)) + bsum 8 (e / 256 % 256)) + bsum 8 (e % 256) := rfl
  rw [hm]
  have h0 := pc_8 _ (m256 e)
  have h1 := pc_8 _ (m256 (e / 256))
  have h2 := pc_8 _ (m256 (e / 256 / 256))
  have h3 := pc_8 _ (m256 (e / 256 / 256 / 256))
  have h4 := pc_8 _ (m256 (e / 256 / 256 / 256 / 256))
  have h5 := pc_8 _ (m256 (e / 256 / 256 / 256 / 256 / 256))
  have h6 := pc_8 _ (m256 (e / 256 / 256 / 256 / 256 / 256 / 256))
  have h7 := pc_8 _ (m256 (e / 256 / 256 / 256 / 256 / 256 / 256 / 256))
  have h8 : bsum 8 (e / 256 / 256 / 256 / 256 / 256 / 256 / 256) = bsum 8 (e / 256 / 256 / 256 / 256 / 256 / 256 / 256 % 256) := by rw [Nat.mod_eq_of_lt (show e / 256 / 256 / 256 / 256 / 256 / 256 / 256 < 256 by omega)]
  rw [h8]
  generalize bsum 8 (e % 256) = p0 at *
  generalize bsum 8 (e / 256 % 256) = p1 at *
  generalize bsum 8 (e / 256 / 256 % 256) = p2 at *
  generalize bsum 8 (e / 256 / 256 / 256 % 256) = p3 at *
  generalize bsum 8 (e / 256 / 256 / 256 / 256 % 256) = p4 at *
  generalize bsum 8 (e / 256 / 256 / 256 / 256 / 256 % 256) = p5 at *
  generalize bsum 8 (e / 256 / 256 / 256 / 256 / 256 / 256 % 256) = p6 at *
  generalize bsum 8 (e / 256 / 256 / 256 / 256 / 256 / 256 / 256 % 256) = p7 at *
  exact sw_fin (by omega) (by omega) (by omega) (by omega) (by omega) (by omega) (by omega) (by omega) rfl rfl rfl rfl rfl rfl (by omega)
theorem ed_mask (x : Int64) : (x &&& (-68719476736)) = 0 ↔ (¬ x < 0 ∧ x >>> ((36 : Int32).toInt64 &&& 63) = 0) := by
  have e0 : (-1 : Int64).toBitVec = BitVec.allOnes 64 := by decide
  have ea : x &&& (-1) = x := Int64.toBitVec_inj.mp (by rw [Int64.toBitVec_and, e0, BitVec.and_allOnes])
  have e1 : (x &&& (-68719476736)) = 0 ↔ x.toBitVec.toNat < 2 ^ 36 := by
    have h := cr_mask x (-1) 68719476735 36 (by decide)
    rw [show (-1 : Int64) &&& (68719476735 ^^^ (-1)) = -68719476736 by decide, ea] at h
    exact h
  have e2 : x < 0 ↔ x.toInt < 0 := Int64.lt_iff_toInt_lt
  have e3 : x >>> ((36 : Int32).toInt64 &&& 63) = 0 ↔ x.toInt / 2 ^ 36 = 0 := by
    rw [← Int64.toInt_inj]
    have : (x >>> ((36 : Int32).toInt64 &&& 63)).toInt = x.toInt >>> 36 := by
      show (x.toBitVec.sshiftRight (((36 : Int32).toInt64 &&& 63).toBitVec.smod 64).toNat).toInt = _
      rw [show (((36 : Int32).toInt64 &&& 63).toBitVec.smod 64).toNat = 36 by decide, BitVec.toInt_sshiftRight]
      rfl
    rw [this, Int.shiftRight_eq_div_pow]
    exact Iff.rfl
  have e4 : x.toInt = if 2 * x.toBitVec.toNat < 2 ^ 64 then (x.toBitVec.toNat : Int) else (x.toBitVec.toNat : Int) - ((2 ^ 64 : Nat) : Int) := BitVec.toInt_eq_toNat_cond x.toBitVec
  have e5 : x.toBitVec.toNat < 2 ^ 64 := x.toBitVec.isLt
  rw [e1, e2, e3]
  split at e4 <;> omega
/-- which cells may be edges -/
noncomputable def edK (x : Int64) : Prop := (x &&& (-68719476736)) = 0
theorem ed_of {x : Int64} (h : edK x) : ∃ e : Nat, e < 2 ^ 36 ∧ x = lN e := by
  have e0 : (-1 : Int64).toBitVec = BitVec.allOnes 64 := by decide
  have ea : x &&& (-1) = x := Int64.toBitVec_inj.mp (by rw [Int64.toBitVec_and, e0, BitVec.and_allOnes])
  have h1 := cr_mask x (-1) 68719476735 36 (by decide)
  rw [show (-1 : Int64) &&& (68719476735 ^^^ (-1)) = -68719476736 by decide, ea] at h1
  obtain ⟨n, hn, rfl⟩ := wb_of x
  have h2 := h1.mp h
  rw [wb_tn hn] at h2
  exact ⟨n, h2, rfl⟩
noncomputable def edR (ee : Nat) (x : Int64) : Int32 := @ite Int32 (edK x) (Classical.propDecidable _) (nI (bsum 36 ee)) (-2)
theorem ed_yes {ee : Nat} {x : Int64} (h : edK x) : nI (bsum 36 ee) = edR ee x := by rw [edR, if_pos h]
theorem ed_no {ee : Nat} {x : Int64} (h : ¬ edK x) : -2 = edR ee x := by rw [edR, if_neg h]
noncomputable def edN (ee : Nat) (x : Int64) : Nat := @ite Nat (edK x) (Classical.propDecidable _) x.toBitVec.toNat ee
theorem edN_yes {ee e : Nat} (he : e < 2 ^ 36) (h : edK (lN e)) : e = edN ee (lN e) := by rw [edN, if_pos h, wb_tn (by omega)]
theorem edN_no {ee : Nat} {x : Int64} (h : ¬ edK x) : ee = edN ee x := by rw [edN, if_neg h]
theorem lsr_i {e i : Nat} (he : e < 2 ^ 36) (hi : i < 36) : lN e >>> ((nI i).toInt64 &&& 63) = lN (e / 2 ^ i) := by
  rw [wb_c i (by omega)]
  exact pf_shr (by rw [wb_tb, wb_sm i (by omega), BitVec.toNat_ofNat, Nat.mod_eq_of_lt (by omega)]) (by omega)
theorem ed_step {f fS : Nat → Int32} {e i : Nat} (hi : i < 36) (h : (∀ k, k < i → f (37 + k) = nI (e / 2 ^ k % 2)) ∧ ∀ k, ¬ (37 ≤ k ∧ k < 73) → f k = fS k) : (∀ k, k < i + 1 → upd f (37 + i) (nI (e / 2 ^ i % 2)) (37 + k) = nI (e / 2 ^ k % 2)) ∧ ∀ k, ¬ (37 ≤ k ∧ k < 73) → upd f (37 + i) (nI (e / 2 ^ i % 2)) k = fS k := by
  refine ⟨fun k hk => ?_, fun k hk => (pk_un (by omega)).trans (h.2 k hk)⟩
  by_cases q : k = i
  · subst q; exact pk_us
  · exact (pk_un (by omega)).trans (h.1 k (by omega))
noncomputable def tdR (mi sn : Int32) (sg ee : Nat) (x : Int32) : Int32 := if x = 0 then mi else if x = 1 then sn else if x = 2 then nI sg else if x = 3 then nI (bsum 36 ee) else -1
section
variable {mi sn x : Int32} {sg ee : Nat}
theorem td_0 (h : x = 0) : mi = tdR mi sn sg ee x := by rw [tdR, if_pos h]
theorem td_1 (h : x = 1) : sn = tdR mi sn sg ee x := by subst h; rw [tdR, if_neg (by decide), if_pos rfl]
theorem td_2 (h : x = 2) : nI sg = tdR mi sn sg ee x := by subst h; rw [tdR, if_neg (by decide), if_neg (by decide), if_pos rfl]
theorem td_3 (h : x = 3) : nI (bsum 36 ee) = tdR mi sn sg ee x := by subst h; rw [tdR, if_neg (by decide), if_neg (by decide), if_neg (by decide), if_pos rfl]
theorem td_n (h0 : ¬ x = 0) (h1 : ¬ x = 1) (h2 : ¬ x = 2) (h3 : ¬ x = 3) : -1 = tdR mi sn sg ee x := by rw [tdR, if_neg h0, if_neg h1, if_neg h2, if_neg h3]
end
theorem sw1_le (e : Nat) : sw1 e ≤ e := Nat.sub_le _ _
theorem sw2_le (a : Nat) : sw2 a ≤ 7378697629483820646 := by
  have h1 : a &&& 3689348814741910323 ≤ 3689348814741910323 := Nat.and_le_right
  have h2 : a / 4 &&& 3689348814741910323 ≤ 3689348814741910323 := Nat.and_le_right
  show (a &&& 3689348814741910323) + (a / 4 &&& 3689348814741910323) ≤ _
  omega
theorem sw3_le (a : Nat) : sw3 a ≤ 1085102592571150095 := Nat.and_le_right
theorem and127 (n : Nat) : nI n &&& 127 = nI (n % 128) := by
  rw [pk_and (nI n) (m := 127) 7 (by decide)]
  congr 1
  show (BitVec.ofNat 32 n).toNat % 2 ^ 7 = n % 128
  rw [BitVec.toNat_ofNat]
  omega
end mg05
section mg05

/-- a code of the reference, by its token: tests below 1800, 1801 not, 1802 and, 1803 or, from 2000 on the end of a clause -/
noncomputable def rcd (k : Nat) : Int32 := if k < 1800 then nI (k / 300 + 8 * (k / 100 % 3) + 32 * (k % 100)) else if k < 2000 then nI 1800 - nI k else nI 0 - nI ([10, 200, 0, 400].getD ((k - 2000) / 100) 0) - nI ((k - 2000) % 100)
/-! a hill's text, read: the signs as numbers (0: none, or behind the end) -/
noncomputable abbrev pR := Option (List Nat) × Nat
noncomputable abbrev isD (c : Nat) : Prop := 48 ≤ c ∧ c ≤ 57
noncomputable def pNum (s : Nat → Nat) (p : Nat) : Option Nat × Nat := if isD (s p) then (if 48 < s p ∧ isD (s (p + 1)) then (some ((s p - 48) * 10 + (s (p + 1) - 48)), p + 2) else (some (s p - 48), p + 1)) else (none, p)
noncomputable def ix6 (c : Nat) : Option Nat := if c = 104 then some 0 else if c = 107 then some 1 else if c = 114 then some 2 else if c = 99 then some 3 else if c = 109 then some 4 else if c = 115 then some 5 else none
noncomputable def ix3 (c : Nat) : Option Nat := if c = 60 then some 0 else if c = 61 then some 1 else if c = 62 then some 2 else none
noncomputable def pTest (s : Nat → Nat) (p : Nat) : pR := match ix6 (s p) with
  | none => (none, p)
  | some a => match ix3 (s (p + 1)) with
    | none => (none, p + 1)
    | some b => match pNum s (p + 2) with
      | (none, q) => (none, q)
      | (some v, q) => (some [a * 300 + b * 100 + v], q)
noncomputable def pSep (s : Nat → Nat) (sep op : Nat) (F : Nat → pR) : Nat → pR → pR
  | 0, r => r
  | _ + 1, (none, p) => (none, p)
  | m + 1, (some L, p) => if s p = sep then (match F (p + 1) with
    | (none, q) => (none, q)
    | (some M, q) => pSep s sep op F m (some (L ++ (M ++ [op])), q)) else (some L, p)
noncomputable def pEv (s : Nat → Nat) (F : Nat → pR) (p : Nat) : pR := pSep s 38 1802 F 101 (F p)
noncomputable def pSm (s : Nat → Nat) (F : Nat → pR) (p : Nat) : pR := pSep s 124 1803 (pEv s F) 101 (pEv s F p)
noncomputable def pFac (s : Nat → Nat) : Nat → Nat → pR
  | 0, p => if s p = 33 then (none, p) else if s p = 40 then (none, p) else pTest s p
  | l + 1, p => if s p = 33 then (match pFac s l (p + 1) with
    | (none, q) => (none, q)
    | (some L, q) => (some (L ++ [1801]), q)) else if s p = 40 then (match pSm s (pFac s l) (p + 1) with
    | (none, q) => (none, q)
    | (some L, q) => if s q = 41 then (some L, q + 1) else (none, q)) else pTest s p
section
variable {s : Nat → Nat} {p q : Nat}
theorem pn_no (h : ¬ isD (s p)) : pNum s p = (none, p) := if_neg h
theorem pn_1 (h : isD (s p)) (h2 : ¬ (48 < s p ∧ isD (s (p + 1)))) : pNum s p = (some (s p - 48), p + 1) := by rw [pNum, if_pos h, if_neg h2]
theorem pn_2 (h : isD (s p)) (h2 : 48 < s p ∧ isD (s (p + 1))) : pNum s p = (some ((s p - 48) * 10 + (s (p + 1) - 48)), p + 2) := by rw [pNum, if_pos h, if_pos h2]
theorem pt_1 (h : ix6 (s p) = none) : pTest s p = (none, p) := by simp only [pTest, h]
theorem pt_2 {a : Nat} (h : ix6 (s p) = some a) (h2 : ix3 (s (p + 1)) = none) : pTest s p = (none, p + 1) := by simp only [pTest, h, h2]
theorem pt_3 {a b : Nat} (h : ix6 (s p) = some a) (h2 : ix3 (s (p + 1)) = some b) (h3 : pNum s (p + 2) = (none, q)) : pTest s p = (none, q) := by simp only [pTest, h, h2, h3]
theorem pt_4 {a b v : Nat} (h : ix6 (s p) = some a) (h2 : ix3 (s (p + 1)) = some b) (h3 : pNum s (p + 2) = (some v, q)) : pTest s p = (some [a * 300 + b * 100 + v], q) := by simp only [pTest, h, h2, h3]
variable {sep op m : Nat} {F : Nat → pR} {L M : List Nat}
theorem ps_end (h : ¬ s p = sep) : pSep s sep op F m (some L, p) = (some L, p) := by
  cases m with
  | zero => rfl
  | succ m => simp only [pSep, if_neg h]
theorem ps_none : pSep s sep op F m (none, p) = (none, p) := by
  cases m with
  | zero => rfl
  | succ m => rfl
theorem ps_bad (h : s p = sep) (h2 : F (p + 1) = (none, q)) : pSep s sep op F (m + 1) (some L, p) = (none, q) := by simp only [pSep, if_pos h, h2]
theorem ps_go (h : s p = sep) (h2 : F (p + 1) = (some M, q)) : pSep s sep op F (m + 1) (some L, p) = pSep s sep op F m (some (L ++ (M ++ [op])), q) := by simp only [pSep, if_pos h, h2]
variable {l : Nat}
theorem pf_t (h1 : ¬ s p = 33) (h2 : ¬ s p = 40) : pFac s l p = pTest s p := by
  cases l with
  | zero => simp only [pFac, if_neg h1, if_neg h2]
  | succ l => simp only [pFac, if_neg h1, if_neg h2]
theorem pf_0 (h : s p = 33 ∨ s p = 40) : pFac s 0 p = (none, p) := by
  by_cases h1 : s p = 33
  · simp only [pFac, if_pos h1]
  · have h2 : s p = 40 := h.resolve_left h1
    simp only [pFac, if_neg h1, if_pos h2]
theorem pf_n0 (h : s p = 33) (h2 : pFac s l (p + 1) = (none, q)) : pFac s (l + 1) p = (none, q) := by simp only [pFac, if_pos h, h2]
theorem pf_n1 (h : s p = 33) (h2 : pFac s l (p + 1) = (some L, q)) : pFac s (l + 1) p = (some (L ++ [1801]), q) := by simp only [pFac, if_pos h, h2]
theorem pf_b0 (h : s p = 40) (h2 : pSm s (pFac s l) (p + 1) = (none, q)) : pFac s (l + 1) p = (none, q) := by
  have h1 : ¬ s p = 33 := by omega
  simp only [pFac, if_neg h1, if_pos h, h2]
theorem pf_b1 (h : s p = 40) (h2 : pSm s (pFac s l) (p + 1) = (some L, q)) (h3 : ¬ s q = 41) : pFac s (l + 1) p = (none, q) := by
  have h1 : ¬ s p = 33 := by omega
  simp only [pFac, if_neg h1, if_pos h, h2, if_neg h3]
theorem pf_b2 (h : s p = 40) (h2 : pSm s (pFac s l) (p + 1) = (some L, q)) (h3 : s q = 41) : pFac s (l + 1) p = (some L, q + 1) := by
  have h1 : ¬ s p = 33 := by omega
  simp only [pFac, if_neg h1, if_pos h, h2, if_pos h3]
end
/-! words, clauses, hills -/
noncomputable def mlen (s : Nat → Nat) : Nat → List Nat → Nat
  | _, [] => 0
  | p, c :: cs => if s p = c then mlen s (p + 1) cs + 1 else 0
noncomputable abbrev pCla := Nat × Nat × List Nat
noncomputable abbrev pC := Option pCla × Nat
noncomputable def pMch (s : Nat → Nat) (cs : List Nat) (n w p : Nat) : pC := if mlen s p cs = n then (match pNum s (p + n) with
  | (none, q) => (none, q)
  | (some v, q) => if s q = 32 then (match pSm s (pFac s 5) (q + 1) with
    | (none, r) => (none, r)
    | (some L, r) => (some (w, v, L), r)) else (none, q)) else (none, p + mlen s p cs)
noncomputable def pSgt (s : Nat → Nat) (p : Nat) : pC := if mlen s p [105, 103, 104, 116, 32] = 5 then (match pNum s (p + 5) with
  | (none, q) => (none, q)
  | (some v, q) => (some (2, v, []), q)) else (none, p + mlen s p [105, 103, 104, 116, 32])
noncomputable def pCl (s : Nat → Nat) (p : Nat) : pC := if s p = 115 then (if s (p + 1) = 101 then pMch s [101, 101, 32] 3 0 (p + 1) else pSgt s (p + 1)) else if s p = 104 then pMch s [104, 105, 100, 101, 32] 5 1 p else if s p = 100 then pMch s [100, 114, 105, 102, 116, 32] 6 3 p else (none, p)
/-- behind a clause: m more at most -/
noncomputable def pAf (s : Nat → Nat) (E : Nat) : Nat → List pCla → Nat → Option (List pCla) × Nat
  | 0, C, q => if q = E then (some C, q) else (none, q)
  | m + 1, C, q => if q = E then (some C, q) else if s q = 59 then (match pCl s (q + 1) with
    | (none, r) => (none, r)
    | (some c, r) => pAf s E m (C ++ [c]) r) else (none, q)
noncomputable def pBf (s : Nat → Nat) (E m : Nat) (C : List pCla) (p : Nat) : Option (List pCla) × Nat := match pCl s p with
  | (none, q) => (none, q)
  | (some c, q) => pAf s E m (C ++ [c]) q
noncomputable def pHl (s : Nat → Nat) (E : Nat) : Option (List pCla) × Nat := pBf s E 9 [] 0
/-- behind the word w -/
noncomputable def pRs (s : Nat → Nat) (w q : Nat) : pC := match pNum s q with
  | (none, r) => (none, r)
  | (some v, r) => if w = 2 then (some (2, v, []), r) else if s r = 32 then (match pSm s (pFac s 5) (r + 1) with
    | (none, t) => (none, t)
    | (some L, t) => (some (w, v, L), t)) else (none, r)
section
variable {s : Nat → Nat} {cs : List Nat} {n w p q r v : Nat} {L : List Nat}
theorem pm_1 (h : ¬ mlen s p cs = n) : pMch s cs n w p = (none, p + mlen s p cs) := if_neg h
theorem pm_2 (h : mlen s p cs = n) (h2 : pNum s (p + n) = (none, q)) : pMch s cs n w p = (none, q) := by simp only [pMch, if_pos h, h2]
theorem pm_3 (h : mlen s p cs = n) (h2 : pNum s (p + n) = (some v, q)) (h3 : ¬ s q = 32) : pMch s cs n w p = (none, q) := by simp only [pMch, if_pos h, h2, if_neg h3]
theorem pm_4 (h : mlen s p cs = n) (h2 : pNum s (p + n) = (some v, q)) (h3 : s q = 32) (h4 : pSm s (pFac s 5) (q + 1) = (none, r)) : pMch s cs n w p = (none, r) := by simp only [pMch, if_pos h, h2, if_pos h3, h4]
theorem pm_5 (h : mlen s p cs = n) (h2 : pNum s (p + n) = (some v, q)) (h3 : s q = 32) (h4 : pSm s (pFac s 5) (q + 1) = (some L, r)) : pMch s cs n w p = (some (w, v, L), r) := by simp only [pMch, if_pos h, h2, if_pos h3, h4]
theorem sg_1 (h : ¬ mlen s p [105, 103, 104, 116, 32] = 5) : pSgt s p = (none, p + mlen s p [105, 103, 104, 116, 32]) := if_neg h
theorem sg_2 (h : mlen s p [105, 103, 104, 116, 32] = 5) (h2 : pNum s (p + 5) = (none, q)) : pSgt s p = (none, q) := by simp only [pSgt, if_pos h, h2]
theorem sg_3 (h : mlen s p [105, 103, 104, 116, 32] = 5) (h2 : pNum s (p + 5) = (some v, q)) : pSgt s p = (some (2, v, []), q) := by simp only [pSgt, if_pos h, h2]
theorem cl_s1 (h : s p = 115) (h2 : s (p + 1) = 101) : pCl s p = pMch s [101, 101, 32] 3 0 (p + 1) := by rw [pCl, if_pos h, if_pos h2]
theorem cl_s2 (h : s p = 115) (h2 : ¬ s (p + 1) = 101) : pCl s p = pSgt s (p + 1) := by rw [pCl, if_pos h, if_neg h2]
theorem cl_h (h : s p = 104) : pCl s p = pMch s [104, 105, 100, 101, 32] 5 1 p := by rw [pCl, if_neg (show ¬ s p = 115 by omega), if_pos h]
theorem cl_d (h : s p = 100) : pCl s p = pMch s [100, 114, 105, 102, 116, 32] 6 3 p := by rw [pCl, if_neg (show ¬ s p = 115 by omega), if_neg (show ¬ s p = 104 by omega), if_pos h]
theorem cl_n (h1 : ¬ s p = 115) (h2 : ¬ s p = 104) (h3 : ¬ s p = 100) : pCl s p = (none, p) := by rw [pCl, if_neg h1, if_neg h2, if_neg h3]
variable {E m : Nat} {C : List pCla} {c : pCla}
theorem af_e (h : q = E) : pAf s E m C q = (some C, q) := by
  cases m with
  | zero => simp only [pAf, if_pos h]
  | succ m => simp only [pAf, if_pos h]
theorem af_0 (h : ¬ q = E) : pAf s E 0 C q = (none, q) := by simp only [pAf, if_neg h]
theorem af_n (h : ¬ q = E) (h2 : ¬ s q = 59) : pAf s E m C q = (none, q) := by
  cases m with
  | zero => simp only [pAf, if_neg h]
  | succ m => simp only [pAf, if_neg h, if_neg h2]
theorem af_b (h : ¬ q = E) (h2 : s q = 59) (h3 : pCl s (q + 1) = (none, r)) : pAf s E (m + 1) C q = (none, r) := by simp only [pAf, if_neg h, if_pos h2, h3]
theorem af_g (h : ¬ q = E) (h2 : s q = 59) (h3 : pCl s (q + 1) = (some c, r)) : pAf s E (m + 1) C q = pAf s E m (C ++ [c]) r := by simp only [pAf, if_neg h, if_pos h2, h3]
theorem bf_n (h : pCl s p = (none, q)) : pBf s E m C p = (none, q) := by simp only [pBf, h]
theorem bf_s (h : pCl s p = (some c, q)) : pBf s E m C p = pAf s E m (C ++ [c]) q := by simp only [pBf, h]
theorem hl_n (h : pCl s 0 = (none, q)) : pHl s E = (none, q) := bf_n h
theorem hl_s (h : pCl s 0 = (some c, q)) : pHl s E = pAf s E 9 [c] q := bf_s h
theorem af_go (h : ¬ q = E) (h2 : s q = 59) : pAf s E (m + 1) C q = pBf s E m C (q + 1) := by
  rcases hc : pCl s (q + 1) with ⟨_ | c, r⟩
  · rw [af_b h h2 hc, bf_n hc]
  · rw [af_g h h2 hc, bf_s hc]
theorem rs_1 (h : pNum s q = (none, r)) : pRs s w q = (none, r) := by simp only [pRs, h]
theorem rs_2 (h : pNum s q = (some v, r)) (hw : w = 2) : pRs s w q = (some (2, v, []), r) := by simp only [pRs, h, if_pos hw]
theorem rs_3 (h : pNum s q = (some v, r)) (hw : ¬ w = 2) (h3 : ¬ s r = 32) : pRs s w q = (none, r) := by simp only [pRs, h, if_neg hw, if_neg h3]
theorem rs_4 {t : Nat} (h : pNum s q = (some v, r)) (hw : ¬ w = 2) (h3 : s r = 32) (h4 : pSm s (pFac s 5) (r + 1) = (none, t)) : pRs s w q = (none, t) := by simp only [pRs, h, if_neg hw, if_pos h3, h4]
theorem rs_5 {t : Nat} (h : pNum s q = (some v, r)) (hw : ¬ w = 2) (h3 : s r = 32) (h4 : pSm s (pFac s 5) (r + 1) = (some L, t)) : pRs s w q = (some (w, v, L), t) := by simp only [pRs, h, if_neg hw, if_pos h3, h4]
theorem pm_rs (h : mlen s p cs = n) (hw : ¬ w = 2) : pMch s cs n w p = pRs s w (p + n) := by
  rcases hN : pNum s (p + n) with ⟨_ | v, r⟩
  · rw [pm_2 h hN, rs_1 hN]
  · by_cases h3 : s r = 32
    · rcases hS : pSm s (pFac s 5) (r + 1) with ⟨_ | L, t⟩
      · rw [pm_4 h hN h3 hS, rs_4 hN hw h3 hS]
      · rw [pm_5 h hN h3 hS, rs_5 hN hw h3 hS]
    · rw [pm_3 h hN h3, rs_3 hN hw h3]
theorem sg_rs (h : mlen s p [105, 103, 104, 116, 32] = 5) : pSgt s p = pRs s 2 (p + 5) := by
  rcases hN : pNum s (p + 5) with ⟨_ | v, r⟩
  · rw [sg_2 h hN, rs_1 hN]
  · rw [sg_3 h hN, rs_2 hN rfl]
theorem ml_c0 {c : Nat} (h : ¬ s p = c) : mlen s p (c :: cs) = 0 := by rw [mlen, if_neg h]
theorem ml_c1 {c : Nat} (h : s p = c) : mlen s p (c :: cs) = mlen s (p + 1) cs + 1 := by rw [mlen, if_pos h]
end
/-- the reference's row of tokens of clauses; how far one sees -/
noncomputable def fl1 (c : pCla) : List Nat := if c.1 = 2 then [] else c.2.2 ++ [2000 + 100 * c.1 + c.2.1]
noncomputable def flC : List pCla → List Nat
  | [] => []
  | c :: C => fl1 c ++ flC C
noncomputable def sgC (C : List pCla) : Nat := C.foldl (fun a c => if c.1 = 2 then c.2.1 else a) 3
theorem flC_add {C : List pCla} {c : pCla} : flC (C ++ [c]) = flC C ++ fl1 c := by
  induction C with
  | nil => simp [flC]
  | cons d C ih => simp only [List.cons_append, flC, ih, List.append_assoc]
theorem sgC_add {C : List pCla} {c : pCla} : sgC (C ++ [c]) = if c.1 = 2 then c.2.1 else sgC C := by
  simp only [sgC, List.foldl_append, List.foldl_cons, List.foldl_nil]
/-- the codes and the sight of a hill that is set -/
noncomputable def CDh (f : Nat → Int32) (a : Nat) (C : List pCla) : Prop := f (196 + a) = nI (flC C).length ∧ (∀ i, i < (flC C).length → f (201 + 140 * a + i) = rcd ((flC C).getD i 0)) ∧ (flC C).length ≤ 100 ∧ f (191 + a) = nI (sgC C)
theorem CDh_of {f g : Nat → Int32} {a : Nat} {C : List pCla} (h : CDh f a C) (he : ∀ i, (i = 191 + a ∨ i = 196 + a ∨ (201 + 140 * a ≤ i ∧ i < 201 + 140 * a + 140)) → g i = f i) : CDh g a C := ⟨(he _ (by omega)).trans h.1, fun i hi => (he _ (by have := h.2.2.1; omega)).trans (h.2.1 i hi), h.2.2.1, (he _ (by omega)).trans h.2.2.2⟩
/-! what a row of tokens says: a pile of truths; the class's pile of bits -/
noncomputable abbrev pM := Nat × (Nat → Bool)
noncomputable def tvU (tv : Nat → Bool) (k : Nat) (b : Bool) : Nat → Bool := fun j => if j = k then b else tv j
/-- is a test so? the fact's number, the relation, with what -/
noncomputable def tsB (fc : Nat → Int32) (k : Nat) : Bool := if k / 100 % 3 = 0 then decide (fc (k / 300) < nI (k % 100)) else if k / 100 % 3 = 1 then decide (fc (k / 300) = nI (k % 100)) else decide (nI (k % 100) < fc (k / 300))
noncomputable def mst (fc : Nat → Int32) (m : pM) (k : Nat) : pM := if k < 1800 then (m.1 + 1, tvU m.2 m.1 (tsB fc k)) else if k = 1801 then (m.1, tvU m.2 (m.1 - 1) (!m.2 (m.1 - 1))) else if k = 1802 then (m.1 - 1, tvU m.2 (m.1 - 2) (m.2 (m.1 - 2) && m.2 (m.1 - 1))) else (m.1 - 1, tvU m.2 (m.1 - 2) (m.2 (m.1 - 2) || m.2 (m.1 - 1)))
noncomputable def mrn (fc : Nat → Int32) (m : pM) (L : List Nat) : pM := L.foldl (mst fc) m
theorem mrn_add {fc : Nat → Int32} {m : pM} {L M : List Nat} : mrn fc m (L ++ M) = mrn fc (mrn fc m L) M := List.foldl_append
theorem tv_s {tv : Nat → Bool} {k : Nat} {b : Bool} : tvU tv k b k = b := if_pos rfl
theorem tv_n {tv : Nat → Bool} {k j : Nat} {b : Bool} (h : ¬ j = k) : tvU tv k b j = tv j := if_neg h
noncomputable def pst (fc : Nat → Int32) (q : Int32) (k : Nat) : Int32 := if k < 1800 then q <<< (1 &&& 31) ||| (if tsB fc k = true then 1 else 0) else if k = 1801 then q ^^^ 1 else if k = 1802 then q >>> (1 &&& 31) &&& (q ||| (-2)) else q >>> (1 &&& 31) ||| (q &&& 1)
noncomputable def prn (fc : Nat → Int32) (q : Int32) (L : List Nat) : Int32 := L.foldl (pst fc) q
theorem prn_add {fc : Nat → Int32} {q : Int32} {L M : List Nat} : prn fc q (L ++ M) = prn fc (prn fc q L) M := List.foldl_append
noncomputable def PB (q : Int32) (m : pM) : Prop := ∀ t, t < m.1 → bt q t = m.2 (m.1 - 1 - t)
theorem b1_0 : ∀ i, i < 32 → bt 1 i = decide (i = 0) := by decide +kernel
theorem bm2 : ∀ i, i < 32 → bt (-2) i = !decide (i = 0) := by decide +kernel
theorem b_l1 (x : Int32) {i : Nat} (hi : i < 32) : bt (x <<< ((1 : Int32) &&& 31)) i = (decide (1 ≤ i) && bt x (i - 1)) := b_shl 1 (by omega) x hi
theorem b_r1 (x : Int32) {i : Nat} (hi : i + 1 < 32) : bt (x >>> ((1 : Int32) &&& 31)) i = bt x (i + 1) := by
  have h := b_sshr 1 (by omega) x (i := i) (by omega)
  rw [if_pos (show 1 + i < 32 by omega), Nat.add_comm 1 i] at h
  exact h
section
variable {fc : Nat → Int32} {q : Int32} {m : pM} {k : Nat}
theorem pb_t (h : PB q m) (hk : k < 1800) (hm : m.1 < 32) : PB (pst fc q k) (mst fc m k) := by
  rw [pst, if_pos hk, mst, if_pos hk]
  intro t ht
  have ht : t < m.1 + 1 := ht
  show bt (q <<< (1 &&& 31) ||| (if tsB fc k = true then 1 else 0)) t = tvU m.2 m.1 (tsB fc k) (m.1 + 1 - 1 - t)
  rw [b_or, b_l1 _ (by omega)]
  by_cases e : t = 0
  · subst e
    rw [show m.1 + 1 - 1 - 0 = m.1 by omega, tv_s]
    rcases hb0 : tsB fc k with _ | _
    · rw [if_neg (by decide), b_0]; rfl
    · rw [if_pos rfl, b1_0 0 (by decide)]; rfl
  · have z : bt (if tsB fc k = true then (1 : Int32) else 0) t = false := by
      split
      · rw [b1_0 t (by omega)]; exact decide_eq_false e
      · exact b_0 t
    rw [tv_n (by omega), z, Bool.or_false, decide_eq_true (show 1 ≤ t by omega), Bool.true_and, h (t - 1) (by omega), show m.1 - 1 - (t - 1) = m.1 + 1 - 1 - t by omega]
theorem pb_n (h : PB q m) (h1 : 1 ≤ m.1) (hm : m.1 ≤ 32) : PB (pst fc q 1801) (mst fc m 1801) := by
  rw [pst, if_neg (by decide), if_pos rfl, mst, if_neg (by decide), if_pos rfl]
  intro t ht
  have ht : t < m.1 := ht
  show bt (q ^^^ 1) t = tvU m.2 (m.1 - 1) (!m.2 (m.1 - 1)) (m.1 - 1 - t)
  rw [b_xor, b1_0 t (by omega), h t ht]
  by_cases e : t = 0
  · subst e
    rw [Nat.sub_zero, tv_s]
    cases m.2 (m.1 - 1) <;> rfl
  · rw [tv_n (by omega), decide_eq_false e, Bool.xor_false]
theorem pb_a (h : PB q m) (h2 : 2 ≤ m.1) (hm : m.1 ≤ 31) : PB (pst fc q 1802) (mst fc m 1802) := by
  rw [pst, if_neg (by decide), if_neg (by decide), if_pos rfl, mst, if_neg (by decide), if_neg (by decide), if_pos rfl]
  intro t ht
  have ht : t < m.1 - 1 := ht
  show bt (q >>> (1 &&& 31) &&& (q ||| (-2))) t = tvU m.2 (m.1 - 2) (m.2 (m.1 - 2) && m.2 (m.1 - 1)) (m.1 - 1 - 1 - t)
  rw [b_and, b_or, b_r1 _ (by omega), bm2 t (by omega), h (t + 1) (by omega), h t (by omega)]
  by_cases e : t = 0
  · subst e
    rw [show m.1 - 1 - 1 - 0 = m.1 - 2 by omega, show m.1 - 1 - (0 + 1) = m.1 - 2 by omega, Nat.sub_zero, tv_s]
    cases m.2 (m.1 - 2) <;> cases m.2 (m.1 - 1) <;> rfl
  · rw [tv_n (by omega), decide_eq_false e, show m.1 - 1 - 1 - t = m.1 - 1 - (t + 1) by omega]
    cases m.2 (m.1 - 1 - (t + 1)) <;> cases m.2 (m.1 - 1 - t) <;> rfl
theorem pb_o (h : PB q m) (h2 : 2 ≤ m.1) (hm : m.1 ≤ 31) : PB (pst fc q 1803) (mst fc m 1803) := by
  rw [pst, if_neg (by decide), if_neg (by decide), if_neg (by decide), mst, if_neg (by decide), if_neg (by decide), if_neg (by decide)]
  intro t ht
  have ht : t < m.1 - 1 := ht
  show bt (q >>> (1 &&& 31) ||| (q &&& 1)) t = tvU m.2 (m.1 - 2) (m.2 (m.1 - 2) || m.2 (m.1 - 1)) (m.1 - 1 - 1 - t)
  rw [b_or, b_and, b_r1 _ (by omega), b1_0 t (by omega), h (t + 1) (by omega), h t (by omega)]
  by_cases e : t = 0
  · subst e
    rw [show m.1 - 1 - 1 - 0 = m.1 - 2 by omega, show m.1 - 1 - (0 + 1) = m.1 - 2 by omega, Nat.sub_zero, tv_s]
    cases m.2 (m.1 - 2) <;> cases m.2 (m.1 - 1) <;> rfl
  · rw [tv_n (by omega), decide_eq_false e, show m.1 - 1 - 1 - t = m.1 - 1 - (t + 1) by omega]
    cases m.2 (m.1 - 1 - (t + 1)) <;> cases m.2 (m.1 - 1 - t) <;> rfl
end
/-- what a token of a row of truths may be -/
noncomputable def tOk (k : Nat) : Prop := k < 1800 ∨ k = 1801 ∨ k = 1802 ∨ k = 1803
theorem tOk_lt {k : Nat} (h : tOk k) : k < 2000 := by
  unfold tOk at h
  omega
/-- a row that puts one truth, b, on the pile, never more than n above it -/
noncomputable def Gd (fc : Nat → Int32) (L : List Nat) (n : Nat) (b : Bool) : Prop := (∀ k, k ∈ L → tOk k) ∧ ∀ m : pM, ((mrn fc m L).1 = m.1 + 1 ∧ (mrn fc m L).2 m.1 = b ∧ ∀ j, j < m.1 → (mrn fc m L).2 j = m.2 j) ∧ ∀ q, PB q m → m.1 + n ≤ 31 → PB (prn fc q L) (mrn fc m L)
theorem Gd_mono {fc : Nat → Int32} {L : List Nat} {n w : Nat} {b : Bool} (h : Gd fc L n b) (hn : n ≤ w) : Gd fc L w b := ⟨h.1, fun m => ⟨(h.2 m).1, fun q hq hm => (h.2 m).2 q hq (by omega)⟩⟩
theorem Gd_t {fc : Nat → Int32} {k : Nat} (h : k < 1800) : Gd fc [k] 1 (tsB fc k) := by
  refine ⟨fun j hj => ?_, fun m => ?_⟩
  · rw [List.mem_singleton.mp hj]; exact Or.inl h
  · have e : mrn fc m [k] = (m.1 + 1, tvU m.2 m.1 (tsB fc k)) := by
      show mst fc m k = _
      rw [mst, if_pos h]
    refine ⟨?_, fun q hq hm => ?_⟩
    · rw [e]
      exact ⟨rfl, tv_s, fun j hj => tv_n (by omega)⟩
    · show PB (pst fc q k) (mst fc m k)
      exact pb_t hq h (by omega)
theorem Gd_n {fc : Nat → Int32} {L : List Nat} {n : Nat} {b : Bool} (h : Gd fc L n b) (hn : 1 ≤ n) : Gd fc (L ++ [1801]) n (!b) := by
  refine ⟨fun j hj => ?_, fun m => ?_⟩
  · rcases List.mem_append.mp hj with q | q
    · exact h.1 j q
    · rw [List.mem_singleton.mp q]; exact Or.inr (Or.inl rfl)
  · obtain ⟨⟨a1, a2, a3⟩, a4⟩ := h.2 m
    have e : mrn fc m (L ++ [1801]) = (m.1 + 1, tvU (mrn fc m L).2 m.1 (!b)) := by
      rw [mrn_add]
      show mst fc (mrn fc m L) 1801 = _
      rw [mst, if_neg (by decide), if_pos rfl, a1, Nat.add_sub_cancel, a2]
    refine ⟨?_, fun q hq hm => ?_⟩
    · rw [e]
      exact ⟨rfl, tv_s, fun j hj => (tv_n (by omega)).trans (a3 j hj)⟩
    · rw [prn_add, mrn_add]
      show PB (pst fc (prn fc q L) 1801) (mst fc (mrn fc m L) 1801)
      exact pb_n (a4 q hq hm) (by rw [a1]; omega) (by rw [a1]; omega)
theorem Gd_b {fc : Nat → Int32} {L M : List Nat} {n k o w : Nat} {b c : Bool} (h : Gd fc L n b) (h2 : Gd fc M k c) (ho : o = 1802 ∨ o = 1803) (hn : n ≤ w) (hk : k + 1 ≤ w) (hk1 : 1 ≤ k) : Gd fc (L ++ (M ++ [o])) w (if o = 1802 then b && c else b || c) := by
  refine ⟨fun j hj => ?_, fun m => ?_⟩
  · rcases List.mem_append.mp hj with q | q
    · exact h.1 j q
    · rcases List.mem_append.mp q with q | q
      · exact h2.1 j q
      · rw [List.mem_singleton.mp q]
        rcases ho with rfl | rfl
        · exact Or.inr (Or.inr (Or.inl rfl))
        · exact Or.inr (Or.inr (Or.inr rfl))
  · obtain ⟨⟨a1, a2, a3⟩, a4⟩ := h.2 m
    obtain ⟨⟨b1, b2, b3⟩, b4⟩ := h2.2 (mrn fc m L)
    have h3 : (mrn fc (mrn fc m L) M).1 = m.1 + 2 := by rw [b1, a1]
    have h4 : (mrn fc (mrn fc m L) M).2 m.1 = b := (b3 m.1 (by omega)).trans a2
    have h5 : (mrn fc (mrn fc m L) M).2 (m.1 + 1) = c := by rw [← a1]; exact b2
    have e : mrn fc m (L ++ (M ++ [o])) = (m.1 + 1, tvU (mrn fc (mrn fc m L) M).2 m.1 (if o = 1802 then b && c else b || c)) := by
      rw [mrn_add, mrn_add]
      show mst fc (mrn fc (mrn fc m L) M) o = _
      rcases ho with rfl | rfl
      · rw [mst, if_neg (by decide), if_neg (by decide), if_pos rfl, h3, show m.1 + 2 - 1 = m.1 + 1 by omega, show m.1 + 2 - 2 = m.1 by omega, h4, h5, if_pos rfl]
      · rw [mst, if_neg (by decide), if_neg (by decide), if_neg (by decide), h3, show m.1 + 2 - 1 = m.1 + 1 by omega, show m.1 + 2 - 2 = m.1 by omega, h4, h5, if_neg (by decide)]
    refine ⟨?_, fun q hq hm => ?_⟩
    · rw [e]
      exact ⟨rfl, tv_s, fun j hj => (tv_n (by omega)).trans ((b3 j (by omega)).trans (a3 j hj))⟩
    · rw [prn_add, prn_add, mrn_add, mrn_add]
      have h6 := b4 _ (a4 q hq (by omega)) (by rw [a1]; omega)
      rcases ho with rfl | rfl
      · show PB (pst fc (prn fc (prn fc q L) M) 1802) (mst fc (mrn fc (mrn fc m L) M) 1802)
        exact pb_a h6 (by rw [h3]; omega) (by rw [h3]; omega)
      · show PB (pst fc (prn fc (prn fc q L) M) 1803) (mst fc (mrn fc (mrn fc m L) M) 1803)
        exact pb_o h6 (by rw [h3]; omega) (by rw [h3]; omega)
/-- what a reader puts together is such a row -/
noncomputable def GdR (fc : Nat → Int32) (w : Nat) (r : pR) : Prop := ∀ L q, r = (some L, q) → ∃ b, Gd fc L w b
theorem GdR_0 {fc : Nat → Int32} {w q : Nat} : GdR fc w (none, q) := fun L t h => by cases h
theorem GdR_u {fc : Nat → Int32} {w v : Nat} {r : pR} (h : GdR fc w r) (hw : w ≤ v) : GdR fc v r := fun L q e => by
  obtain ⟨b, g⟩ := h L q e
  exact ⟨b, Gd_mono g hw⟩
theorem pn_le {s : Nat → Nat} {p v q : Nat} (h : pNum s p = (some v, q)) : v ≤ 99 := by
  by_cases h1 : isD (s p)
  · have h3 : 48 ≤ s p ∧ s p ≤ 57 := h1
    by_cases h2 : 48 < s p ∧ isD (s (p + 1))
    · have h4 : 48 ≤ s (p + 1) ∧ s (p + 1) ≤ 57 := h2.2
      rw [pn_2 h1 h2] at h
      cases h
      omega
    · rw [pn_1 h1 h2] at h
      cases h
      omega
  · rw [pn_no h1] at h
    cases h
theorem ix6_lt {c a : Nat} (h : ix6 c = some a) : a < 6 := by
  unfold ix6 at h
  repeat' split at h
  all_goals first | (cases h; decide) | cases h
theorem ix3_lt {c a : Nat} (h : ix3 c = some a) : a < 3 := by
  unfold ix3 at h
  repeat' split at h
  all_goals first | (cases h; decide) | cases h
theorem GdR_t {fc : Nat → Int32} {s : Nat → Nat} {p : Nat} : GdR fc 1 (pTest s p) := by
  rcases h1 : ix6 (s p) with _ | a
  · rw [pt_1 h1]; exact GdR_0
  · rcases h2 : ix3 (s (p + 1)) with _ | c
    · rw [pt_2 h1 h2]; exact GdR_0
    · rcases h3 : pNum s (p + 2) with ⟨_ | v, r⟩
      · rw [pt_3 h1 h2 h3]; exact GdR_0
      · rw [pt_4 h1 h2 h3]
        intro L q h
        cases h
        have h4 := pn_le h3
        have h5 := ix6_lt h1
        have h6 := ix3_lt h2
        exact ⟨_, Gd_t (by omega)⟩
theorem GdR_s {fc : Nat → Int32} {s : Nat → Nat} {sep o w : Nat} {F : Nat → pR} (ho : o = 1802 ∨ o = 1803) (hw : 1 ≤ w) (hF : ∀ p, GdR fc w (F p)) : ∀ m r, GdR fc (w + 1) r → GdR fc (w + 1) (pSep s sep o F m r)
  | 0, _, h => h
  | m + 1, (none, q), h => by rw [ps_none]; exact h
  | m + 1, (some L, q), h => by
    by_cases h1 : s q = sep
    · rcases h2 : F (q + 1) with ⟨_ | M, t⟩
      · rw [ps_bad h1 h2]; exact GdR_0
      · rw [ps_go h1 h2]
        refine GdR_s ho hw hF m _ ?_
        intro L2 q2 h3
        cases h3
        obtain ⟨b, a4⟩ := h L q rfl
        obtain ⟨c, b4⟩ := hF (q + 1) M t h2
        exact ⟨_, Gd_b a4 b4 ho (Nat.le_refl _) (Nat.le_refl _) hw⟩
    · rw [ps_end h1]; exact h
theorem GdR_e {fc : Nat → Int32} {s : Nat → Nat} {w : Nat} {F : Nat → pR} (hw : 1 ≤ w) (hF : ∀ p, GdR fc w (F p)) (p : Nat) : GdR fc (w + 1) (pEv s F p) := GdR_s (Or.inl rfl) hw hF 101 _ (GdR_u (hF p) (by omega))
theorem GdR_m {fc : Nat → Int32} {s : Nat → Nat} {w : Nat} {F : Nat → pR} (hw : 1 ≤ w) (hF : ∀ p, GdR fc w (F p)) (p : Nat) : GdR fc (w + 2) (pSm s F p) := GdR_s (Or.inr rfl) (by omega) (GdR_e hw hF) 101 _ (GdR_u (GdR_e hw hF p) (by omega))
theorem GdR_f {fc : Nat → Int32} {s : Nat → Nat} : ∀ l p, GdR fc (2 * l + 1) (pFac s l p)
  | 0, p => by
    by_cases h1 : s p = 33
    · rw [pf_0 (Or.inl h1)]; exact GdR_0
    · by_cases h2 : s p = 40
      · rw [pf_0 (Or.inr h2)]; exact GdR_0
      · rw [pf_t h1 h2]; exact GdR_t
  | l + 1, p => by
    by_cases h1 : s p = 33
    · rcases h3 : pFac s l (p + 1) with ⟨_ | L, q⟩
      · rw [pf_n0 h1 h3]; exact GdR_0
      · rw [pf_n1 h1 h3]
        intro L2 q2 h4
        cases h4
        obtain ⟨b, g⟩ := GdR_f l (p + 1) L q h3
        exact ⟨_, Gd_mono (Gd_n g (by omega)) (by omega)⟩
    · by_cases h2 : s p = 40
      · have hs := GdR_m (fc := fc) (s := s) (w := 2 * l + 1) (F := pFac s l) (by omega) (GdR_f l) (p + 1)
        rcases h3 : pSm s (pFac s l) (p + 1) with ⟨_ | L, q⟩
        · rw [pf_b0 h2 h3]; exact GdR_0
        · by_cases h4 : s q = 41
          · rw [pf_b2 h2 h3 h4]
            intro L2 q2 h5
            cases h5
            obtain ⟨b, g⟩ := hs L q h3
            exact ⟨b, Gd_mono g (by omega)⟩
          · rw [pf_b1 h2 h3 h4]; exact GdR_0
      · rw [pf_t h1 h2]; exact GdR_u GdR_t (by omega)
/-! clauses that are good; what they come to -/
noncomputable def Wf1 (c : pCla) : Prop := c.1 < 4 ∧ c.2.1 ≤ 99 ∧ (¬ c.1 = 2 → ∀ fc : Nat → Int32, ∃ b, Gd fc c.2.2 13 b)
noncomputable def WfC (C : List pCla) : Prop := ∀ c, c ∈ C → Wf1 c
theorem wf_add {C : List pCla} {c : pCla} (h : WfC C) (h2 : Wf1 c) : WfC (C ++ [c]) := fun d hd => by
  rcases List.mem_append.mp hd with q | q
  · exact h d q
  · rw [List.mem_singleton.mp q]; exact h2
theorem wf_nil : WfC [] := fun c hc => by cases hc
theorem wf_mch {s : Nat → Nat} {cs : List Nat} {n w p q : Nat} {c : pCla} (hw : w < 4) (h : pMch s cs n w p = (some c, q)) : Wf1 c := by
  by_cases h1 : mlen s p cs = n
  · rcases h2 : pNum s (p + n) with ⟨_ | v, r⟩
    · rw [pm_2 h1 h2] at h; cases h
    · by_cases h3 : s r = 32
      · rcases h4 : pSm s (pFac s 5) (r + 1) with ⟨_ | L, t⟩
        · rw [pm_4 h1 h2 h3 h4] at h; cases h
        · rw [pm_5 h1 h2 h3 h4] at h
          cases h
          exact ⟨hw, pn_le h2, fun _ fc => GdR_m (w := 11) (by omega) (GdR_f 5) (r + 1) L _ h4⟩
      · rw [pm_3 h1 h2 h3] at h; cases h
  · rw [pm_1 h1] at h; cases h
theorem wf_sgt {s : Nat → Nat} {p q : Nat} {c : pCla} (h : pSgt s p = (some c, q)) : Wf1 c := by
  by_cases h1 : mlen s p [105, 103, 104, 116, 32] = 5
  · rcases h2 : pNum s (p + 5) with ⟨_ | v, r⟩
    · rw [sg_2 h1 h2] at h; cases h
    · rw [sg_3 h1 h2] at h
      cases h
      exact ⟨show 2 < 4 by omega, pn_le h2, fun z => absurd rfl z⟩
  · rw [sg_1 h1] at h; cases h
theorem wf_cl {s : Nat → Nat} {p q : Nat} {c : pCla} (h : pCl s p = (some c, q)) : Wf1 c := by
  by_cases h1 : s p = 115
  · by_cases h2 : s (p + 1) = 101
    · rw [cl_s1 h1 h2] at h; exact wf_mch (by omega) h
    · rw [cl_s2 h1 h2] at h; exact wf_sgt h
  · by_cases h2 : s p = 104
    · rw [cl_h h2] at h; exact wf_mch (by omega) h
    · by_cases h3 : s p = 100
      · rw [cl_d h3] at h; exact wf_mch (by omega) h
      · rw [cl_n h1 h2 h3] at h; cases h
theorem wf_af {s : Nat → Nat} {E : Nat} : ∀ (m : Nat) (C : List pCla) (q : Nat) (D : List pCla) (r : Nat), WfC C → pAf s E m C q = (some D, r) → WfC D
  | 0, C, q, D, r, hw, h => by
    by_cases e : q = E
    · rw [af_e e] at h; cases h; exact hw
    · rw [af_0 e] at h; cases h
  | m + 1, C, q, D, r, hw, h => by
    by_cases e : q = E
    · rw [af_e e] at h; cases h; exact hw
    · by_cases h2 : s q = 59
      · rcases h3 : pCl s (q + 1) with ⟨_ | c, t⟩
        · rw [af_b e h2 h3] at h; cases h
        · rw [af_g e h2 h3] at h
          exact wf_af m _ _ _ _ (wf_add hw (wf_cl h3)) h
      · rw [af_n e h2] at h; cases h
theorem wf_hl {s : Nat → Nat} {E q : Nat} {C : List pCla} (h : pHl s E = (some C, q)) : WfC C := by
  rcases h1 : pCl s 0 with ⟨_ | c, r⟩
  · rw [hl_n h1] at h; cases h
  · rw [hl_s h1] at h
    exact wf_af 9 _ _ _ _ (wf_add (C := []) wf_nil (wf_cl h1)) h
noncomputable def hld (fc : Nat → Int32) (L : List Nat) : Bool := (mrn fc (0, fun _ => false) L).2 0
theorem hld_of {fc : Nat → Int32} {L : List Nat} {n : Nat} {b : Bool} (h : Gd fc L n b) : hld fc L = b := (h.2 (0, fun _ => false)).1.2.1
theorem hld_bt {fc : Nat → Int32} {L : List Nat} {n : Nat} {b : Bool} (h : Gd fc L n b) (hn : n ≤ 31) : bt (prn fc 0 L) 0 = hld fc L := by
  have h1 := h.2 (0, fun _ => false)
  have h2 := h1.2 0 (fun t ht => absurd ht (Nat.not_lt_zero t)) (show 0 + n ≤ 31 by omega)
  have h3 := h2 0 (by rw [h1.1.1]; exact Nat.succ_pos _)
  rw [h1.1.1] at h3
  exact h3
theorem a1_bt (q : Int32) : q &&& 1 = 1 ↔ bt q 0 = true := by
  constructor
  · intro h
    have e := b_and q 1 0
    rw [h, b1_0 0 (by decide)] at e
    rcases hq : bt q 0 with _ | _
    · rw [hq] at e; exact absurd e (by decide)
    · rfl
  · intro h
    apply b_ext
    intro i hi
    rw [b_and, b1_0 i hi]
    by_cases e : i = 0
    · subst e
      rw [h]; rfl
    · rw [decide_eq_false e, Bool.and_false]
/-- the numbers of the clauses of a word that hold, together -/
noncomputable def tot (fc : Nat → Int32) (w : Nat) : List pCla → Int32
  | [] => 0
  | c :: C => (if hld fc c.2.2 = true then (if c.1 = w then nI c.2.1 else 0) else 0) + tot fc w C
noncomputable def sTt (fc : Nat → Int32) : List pCla → Int32
  | [] => 0
  | c :: C => (if hld fc c.2.2 = true then (if c.1 = 0 then nI c.2.1 else if c.1 = 1 then 0 - nI c.2.1 else 0) else 0) + sTt fc C
theorem ar1 (v a b : Int32) : v + (a - b) = v + a - (0 + b) := by
  rw [Int32.zero_add, Int32.sub_eq_add_neg, Int32.sub_eq_add_neg, Int32.add_assoc]
theorem ar2 (v a b : Int32) : 0 - v + (a - b) = 0 + a - (v + b) := by
  rw [Int32.zero_add, Int32.zero_sub, Int32.sub_eq_add_neg, Int32.sub_eq_add_neg, Int32.neg_add, Int32.sub_eq_add_neg]
  ac_rfl
theorem ar3 (a b : Int32) : 0 + (a - b) = 0 + a - (0 + b) := by simp only [Int32.zero_add]
theorem sTt_eq {fc : Nat → Int32} : ∀ C : List pCla, sTt fc C = tot fc 0 C - tot fc 1 C
  | [] => show (0 : Int32) = 0 - 0 by decide
  | c :: C => by
    show (if hld fc c.2.2 = true then (if c.1 = 0 then nI c.2.1 else if c.1 = 1 then 0 - nI c.2.1 else 0) else 0) + sTt fc C = ((if hld fc c.2.2 = true then (if c.1 = 0 then nI c.2.1 else 0) else 0) + tot fc 0 C) - ((if hld fc c.2.2 = true then (if c.1 = 1 then nI c.2.1 else 0) else 0) + tot fc 1 C)
    rw [sTt_eq C]
    by_cases hb : hld fc c.2.2 = true
    · rw [if_pos hb, if_pos hb, if_pos hb]
      by_cases h0 : c.1 = 0
      · rw [if_pos h0, if_pos h0, if_neg (show ¬ c.1 = 1 by omega)]; exact ar1 _ _ _
      · rw [if_neg h0, if_neg h0]
        by_cases h1 : c.1 = 1
        · rw [if_pos h1, if_pos h1]; exact ar2 _ _ _
        · rw [if_neg h1, if_neg h1]; exact ar3 _ _
    · rw [if_neg hb, if_neg hb, if_neg hb]; exact ar3 _ _
/-! the reference's row -/
noncomputable abbrev rS := pM × Int32 × Int32
noncomputable def rst (fc : Nat → Int32) (s : rS) (k : Nat) : rS := if k < 2000 then (mst fc s.1 k, s.2) else ((0, s.1.2), s.2.1 + (if s.1.2 0 = true then (if (k - 2000) / 100 = 0 then nI ((k - 2000) % 100) else if (k - 2000) / 100 = 1 then 0 - nI ((k - 2000) % 100) else 0) else 0), s.2.2 + (if s.1.2 0 = true then (if (k - 2000) / 100 = 3 then nI ((k - 2000) % 100) else 0) else 0))
noncomputable def rrn (fc : Nat → Int32) (s : rS) (L : List Nat) : rS := L.foldl (rst fc) s
theorem rrn_add {fc : Nat → Int32} {s : rS} {L M : List Nat} : rrn fc s (L ++ M) = rrn fc (rrn fc s L) M := List.foldl_append
theorem rrn_m {fc : Nat → Int32} : ∀ (L : List Nat) (s : rS), (∀ k, k ∈ L → k < 2000) → rrn fc s L = (mrn fc s.1 L, s.2)
  | [], _, _ => rfl
  | k :: L, s, hL => by
    show rrn fc (rst fc s k) L = (mrn fc (mst fc s.1 k) L, s.2)
    rw [show rst fc s k = (mst fc s.1 k, s.2) from if_pos (hL k (by simp))]
    exact rrn_m L (mst fc s.1 k, s.2) (fun j hj => hL j (List.mem_cons_of_mem _ hj))
theorem rrn_c {fc : Nat → Int32} {c : pCla} (hw : Wf1 c) (tv : Nat → Bool) (se dn : Int32) : ∃ tw, rrn fc ((0, tv), se, dn) (fl1 c) = ((0, tw), se + (if hld fc c.2.2 = true then (if c.1 = 0 then nI c.2.1 else if c.1 = 1 then 0 - nI c.2.1 else 0) else 0), dn + (if hld fc c.2.2 = true then (if c.1 = 3 then nI c.2.1 else 0) else 0)) := by
  obtain ⟨h4, hv, hg⟩ := hw
  by_cases h2 : c.1 = 2
  · have e1 : (if hld fc c.2.2 = true then (if c.1 = 0 then nI c.2.1 else if c.1 = 1 then 0 - nI c.2.1 else 0) else 0) = 0 := by
      split
      · rw [if_neg (by omega), if_neg (by omega)]
      · rfl
    have e2 : (if hld fc c.2.2 = true then (if c.1 = 3 then nI c.2.1 else 0) else 0) = 0 := by
      split
      · rw [if_neg (by omega)]
      · rfl
    rw [fl1, if_pos h2, e1, e2, Int32.add_zero, Int32.add_zero]
    exact ⟨tv, rfl⟩
  · obtain ⟨b, g⟩ := hg h2 fc
    have g1 := (g.2 (0, tv)).1
    have et : (mrn fc (0, tv) c.2.2).2 0 = hld fc c.2.2 := g1.2.1.trans (hld_of g).symm
    have k1 : (2000 + 100 * c.1 + c.2.1 - 2000) / 100 = c.1 := by omega
    have k2 : (2000 + 100 * c.1 + c.2.1 - 2000) % 100 = c.2.1 := by omega
    rw [fl1, if_neg h2, rrn_add, rrn_m _ _ (fun k hk => tOk_lt (g.1 k hk))]
    refine ⟨(mrn fc (0, tv) c.2.2).2, ?_⟩
    show rst fc (mrn fc (0, tv) c.2.2, se, dn) (2000 + 100 * c.1 + c.2.1) = _
    rw [rst, if_neg (by omega), k1, k2]
    show ((0, (mrn fc (0, tv) c.2.2).2), se + (if (mrn fc (0, tv) c.2.2).2 0 = true then (if c.1 = 0 then nI c.2.1 else if c.1 = 1 then 0 - nI c.2.1 else 0) else 0), dn + (if (mrn fc (0, tv) c.2.2).2 0 = true then (if c.1 = 3 then nI c.2.1 else 0) else 0)) = _
    rw [et]
theorem rrn_C {fc : Nat → Int32} : ∀ (C : List pCla), WfC C → ∀ (tv : Nat → Bool) (se dn : Int32), ∃ tw, rrn fc ((0, tv), se, dn) (flC C) = ((0, tw), se + sTt fc C, dn + tot fc 3 C)
  | [], _, tv, se, dn => ⟨tv, by
    show ((0, tv), se, dn) = ((0, tv), se + 0, dn + 0)
    rw [Int32.add_zero, Int32.add_zero]⟩
  | c :: C, hw, tv, se, dn => by
    obtain ⟨t1, e1⟩ := rrn_c (fc := fc) (hw c (by simp)) tv se dn
    obtain ⟨t2, e2⟩ := rrn_C (fc := fc) C (fun d hd => hw d (List.mem_cons_of_mem _ hd)) t1 (se + (if hld fc c.2.2 = true then (if c.1 = 0 then nI c.2.1 else if c.1 = 1 then 0 - nI c.2.1 else 0) else 0)) (dn + (if hld fc c.2.2 = true then (if c.1 = 3 then nI c.2.1 else 0) else 0))
    refine ⟨t2, ?_⟩
    rw [show flC (c :: C) = fl1 c ++ flC C from rfl, rrn_add, e1, e2]
    show ((0, t2), se + (if hld fc c.2.2 = true then (if c.1 = 0 then nI c.2.1 else if c.1 = 1 then 0 - nI c.2.1 else 0) else 0) + sTt fc C, dn + (if hld fc c.2.2 = true then (if c.1 = 3 then nI c.2.1 else 0) else 0) + tot fc 3 C) = ((0, t2), se + ((if hld fc c.2.2 = true then (if c.1 = 0 then nI c.2.1 else if c.1 = 1 then 0 - nI c.2.1 else 0) else 0) + sTt fc C), dn + ((if hld fc c.2.2 = true then (if c.1 = 3 then nI c.2.1 else 0) else 0) + tot fc 3 C))
    rw [Int32.add_assoc, Int32.add_assoc]
/-! the same facts, the same truths -/
section
variable {fc fd : Nat → Int32}
theorem ts_cg (h : ∀ j, j < 6 → fc j = fd j) {k : Nat} (hk : k < 1800) : tsB fc k = tsB fd k := by
  unfold tsB
  rw [h (k / 300) (by omega)]
theorem mst_cg (h : ∀ j, j < 6 → fc j = fd j) {m : pM} {k : Nat} : mst fc m k = mst fd m k := by
  unfold mst
  by_cases hk : k < 1800
  · rw [if_pos hk, if_pos hk, ts_cg h hk]
  · rw [if_neg hk, if_neg hk]
theorem mrn_cons {fe : Nat → Int32} {m : pM} {k : Nat} {L : List Nat} : mrn fe m (k :: L) = mrn fe (mst fe m k) L := by
  unfold mrn
  rw [List.foldl_cons]
theorem mrn_nil {fe : Nat → Int32} {m : pM} : mrn fe m [] = m := by
  unfold mrn
  rw [List.foldl_nil]
theorem mrn_cg (h : ∀ j, j < 6 → fc j = fd j) (L : List Nat) (m : pM) : mrn fc m L = mrn fd m L := by
  induction L generalizing m with
  | nil => rw [mrn_nil, mrn_nil]
  | cons k L ih => rw [mrn_cons, mrn_cons, mst_cg h, ih]
theorem hld_cg (h : ∀ j, j < 6 → fc j = fd j) (L : List Nat) : hld fc L = hld fd L := by
  unfold hld
  rw [mrn_cg h]
theorem tot_cg (h : ∀ j, j < 6 → fc j = fd j) (w : Nat) : ∀ C : List pCla, tot fc w C = tot fd w C
  | [] => rfl
  | c :: C => by
    show (if hld fc c.2.2 = true then (if c.1 = w then nI c.2.1 else 0) else 0) + tot fc w C = (if hld fd c.2.2 = true then (if c.1 = w then nI c.2.1 else 0) else 0) + tot fd w C
    rw [hld_cg h, tot_cg h w C]
theorem sTt_cg (h : ∀ j, j < 6 → fc j = fd j) (C : List pCla) : sTt fc C = sTt fd C := by
  rw [sTt_eq, sTt_eq, tot_cg h, tot_cg h]
end
/-! the reference's pile of truths, as its row of numbers says them -/
noncomputable def tvOf (f : Nat → Int32) : Nat → Bool := fun j => decide (¬ f j = 0)
noncomputable def bI (b : Bool) : Int32 := if b = true then 1 else 0
theorem nar_bI (b : Bool) : decide (¬ vp_nar .boolean (bI b) = 0) = b := by cases b <;> first | rfl | decide
theorem tvOf_upd {f : Nat → Int32} {k : Nat} {b : Bool} : tvOf (upd f k (vp_nar .boolean (bI b))) = tvU (tvOf f) k b := by
  funext j
  by_cases e : j = k
  · subst e
    show decide (¬ upd f j (vp_nar .boolean (bI b)) j = 0) = tvU (tvOf f) j b j
    rw [pk_us, tv_s]
    exact nar_bI b
  · show decide (¬ upd f k (vp_nar .boolean (bI b)) j = 0) = tvU (tvOf f) k b j
    rw [pk_un e, tv_n e]
    rfl
section
variable {f : Nat → Int32} {k a b : Nat}
theorem tv_z (h : f k = 0) : ¬ tvOf f k = true := fun e => by
  have e2 : decide (¬ f k = 0) = true := e
  exact of_decide_eq_true e2 h
theorem tv_p (h : ¬ f k = 0) : tvOf f k = true := show decide (¬ f k = 0) = true from decide_eq_true h
theorem tv_f (h : f k = 0) : tvOf f k = false := show decide (¬ f k = 0) = false from decide_eq_false (fun z => z h)
theorem bn_1 (h : f k = 0) : 1 = bI (!tvOf f k) := by rw [tv_f h]; rfl
theorem bn_0 (h : ¬ f k = 0) : 0 = bI (!tvOf f k) := by rw [tv_p h]; rfl
theorem ba_x (h : f a = 0) : 0 = bI (tvOf f a && tvOf f b) := by rw [tv_f h]; rfl
theorem ba_y (h : ¬ f a = 0) (h2 : f b = 0) : 0 = bI (tvOf f a && tvOf f b) := by rw [tv_p h, tv_f h2]; rfl
theorem ba_1 (h : ¬ f a = 0) (h2 : ¬ f b = 0) : 1 = bI (tvOf f a && tvOf f b) := by rw [tv_p h, tv_p h2]; rfl
theorem bo_x (h : ¬ f a = 0) : 1 = bI (tvOf f a || tvOf f b) := by rw [tv_p h]; rfl
theorem bo_y (h : f a = 0) (h2 : ¬ f b = 0) : 1 = bI (tvOf f a || tvOf f b) := by rw [tv_f h, tv_p h2]; rfl
theorem bo_0 (h : f a = 0) (h2 : f b = 0) : 0 = bI (tvOf f a || tvOf f b) := by rw [tv_f h, tv_f h2]; rfl
end
section
variable {fc : Nat → Int32} {k : Nat}
theorem ts_a1 (h0 : k / 100 % 3 = 0) (h : ¬ nI (k % 100) ≤ fc (k / 300)) : 1 = bI (tsB fc k) := by rw [tsB, if_pos h0, decide_eq_true (Int32.not_le.mp h)]; rfl
theorem ts_a0 (h0 : k / 100 % 3 = 0) (h : nI (k % 100) ≤ fc (k / 300)) : 0 = bI (tsB fc k) := by rw [tsB, if_pos h0, decide_eq_false (Int32.not_lt.mpr h)]; rfl
theorem ts_b1 (h0 : ¬ k / 100 % 3 = 0) (h1 : k / 100 % 3 = 1) (h : fc (k / 300) = nI (k % 100)) : 1 = bI (tsB fc k) := by rw [tsB, if_neg h0, if_pos h1, decide_eq_true h]; rfl
theorem ts_b0 (h0 : ¬ k / 100 % 3 = 0) (h1 : k / 100 % 3 = 1) (h : ¬ fc (k / 300) = nI (k % 100)) : 0 = bI (tsB fc k) := by rw [tsB, if_neg h0, if_pos h1, decide_eq_false h]; rfl
theorem ts_c1 (h0 : ¬ k / 100 % 3 = 0) (h1 : ¬ k / 100 % 3 = 1) (h : ¬ fc (k / 300) ≤ nI (k % 100)) : 1 = bI (tsB fc k) := by rw [tsB, if_neg h0, if_neg h1, decide_eq_true (Int32.not_le.mp h)]; rfl
theorem ts_c0 (h0 : ¬ k / 100 % 3 = 0) (h1 : ¬ k / 100 % 3 = 1) (h : fc (k / 300) ≤ nI (k % 100)) : 0 = bI (tsB fc k) := by rw [tsB, if_neg h0, if_neg h1, decide_eq_false (Int32.not_lt.mpr h)]; rfl
end
section
variable {fc f : Nat → Int32} {tv : Nat → Bool} {d k v : Nat} {se dn : Int32}
theorem rst_t (h : k < 1800) : rst fc ((d, tvOf f), se, dn) k = ((d + 1, tvOf (upd f d (vp_nar .boolean (bI (tsB fc k))))), se, dn) := by
  rw [tvOf_upd]
  show (if k < 2000 then (mst fc (d, tvOf f) k, se, dn) else _) = _
  rw [if_pos (by omega), mst, if_pos h]
  try rfl
theorem rst_n : rst fc ((d, tvOf f), se, dn) 1801 = ((d, tvOf (upd f (d - 1) (vp_nar .boolean (bI (!tvOf f (d - 1)))))), se, dn) := by
  rw [tvOf_upd]
  show (if 1801 < 2000 then (mst fc (d, tvOf f) 1801, se, dn) else _) = _
  rw [if_pos (by decide), mst, if_neg (by decide), if_pos rfl]
  try rfl
theorem rst_a : rst fc ((d, tvOf f), se, dn) 1802 = ((d - 1, tvOf (upd f (d - 1 - 1) (vp_nar .boolean (bI (tvOf f (d - 1 - 1) && tvOf f (d - 1)))))), se, dn) := by
  rw [tvOf_upd, show d - 1 - 1 = d - 2 by omega]
  show (if 1802 < 2000 then (mst fc (d, tvOf f) 1802, se, dn) else _) = _
  rw [if_pos (by decide), mst, if_neg (by decide), if_neg (by decide), if_pos rfl]
  try rfl
theorem rst_o : rst fc ((d, tvOf f), se, dn) 1803 = ((d - 1, tvOf (upd f (d - 1 - 1) (vp_nar .boolean (bI (tvOf f (d - 1 - 1) || tvOf f (d - 1)))))), se, dn) := by
  rw [tvOf_upd, show d - 1 - 1 = d - 2 by omega]
  show (if 1803 < 2000 then (mst fc (d, tvOf f) 1803, se, dn) else _) = _
  rw [if_pos (by decide), mst, if_neg (by decide), if_neg (by decide), if_neg (by decide)]
  try rfl
theorem rst_k {w : Nat} (hv : v ≤ 99) : rst fc ((d, tv), se, dn) (2000 + 100 * w + v) = ((0, tv), se + (if tv 0 = true then (if w = 0 then nI v else if w = 1 then 0 - nI v else 0) else 0), dn + (if tv 0 = true then (if w = 3 then nI v else 0) else 0)) := by
  rw [rst, if_neg (by omega), show (2000 + 100 * w + v - 2000) / 100 = w by omega, show (2000 + 100 * w + v - 2000) % 100 = v by omega]
  try rfl
theorem rst_e0 (hv : v ≤ 99) : rst fc ((d, tv), se, dn) (2000 + 100 * 0 + v) = ((0, tv), se + (if tv 0 = true then nI v else 0), dn + 0) := by
  rw [rst_k hv, show (if tv 0 = true then (if 0 = 3 then nI v else 0) else 0) = (0 : Int32) by split <;> rfl]
  try rfl
theorem rst_e1 (hv : v ≤ 99) : rst fc ((d, tv), se, dn) (2000 + 100 * 1 + v) = ((0, tv), se + (if tv 0 = true then 0 - nI v else 0), dn + 0) := by
  rw [rst_k hv, show (if tv 0 = true then (if 1 = 3 then nI v else 0) else 0) = (0 : Int32) by split <;> rfl]
  try rfl
theorem rst_e3 (hv : v ≤ 99) : rst fc ((d, tv), se, dn) (2000 + 100 * 3 + v) = ((0, tv), se + 0, dn + (if tv 0 = true then nI v else 0)) := by
  rw [rst_k hv, show (if tv 0 = true then (if 3 = 0 then nI v else if 3 = 1 then 0 - nI v else 0) else 0) = (0 : Int32) by split <;> rfl]
  try rfl
end
theorem rce0 : ∀ v, v < 100 → rcd (2000 + 100 * 0 + v) < 0 ∧ ¬ rcd (2000 + 100 * 0 + v) = -1 ∧ rcd (2000 + 100 * 0 + v) ≤ -10 ∧ -400 < rcd (2000 + 100 * 0 + v) ∧ ¬ rcd (2000 + 100 * 0 + v) ≤ -200 ∧ -10 - rcd (2000 + 100 * 0 + v) = nI v := by decide +kernel
theorem rce1 : ∀ v, v < 100 → rcd (2000 + 100 * 1 + v) < 0 ∧ ¬ rcd (2000 + 100 * 1 + v) = -1 ∧ rcd (2000 + 100 * 1 + v) ≤ -10 ∧ -400 < rcd (2000 + 100 * 1 + v) ∧ rcd (2000 + 100 * 1 + v) ≤ -200 ∧ rcd (2000 + 100 * 1 + v) - (-200) = 0 - nI v := by decide +kernel
theorem rce3 : ∀ v, v < 100 → rcd (2000 + 100 * 3 + v) < 0 ∧ ¬ rcd (2000 + 100 * 3 + v) = -1 ∧ rcd (2000 + 100 * 3 + v) ≤ -10 ∧ ¬ -400 < rcd (2000 + 100 * 3 + v) ∧ -400 - rcd (2000 + 100 * 3 + v) = nI v := by decide +kernel
theorem rcd_g {b r v X : Nat} (hb : b < 6) (hr : r < 3) (hv : v < 100) (eX : X = b + 8 * r + 32 * v) : X % 8 = b ∧ X / 8 % 4 = r ∧ X / 32 = v ∧ X < 4000 := by
  have e8 : X / 8 = r + 4 * v := by omega
  exact ⟨by omega, by omega, by omega, by omega⟩
theorem rcd_f {k : Nat} {x : Int32} (h : k < 1800) (e : x = rcd k) : ¬ x < 0 ∧ x - x / 8 * 8 = nI (k / 300) ∧ x / 8 - x / 8 / 4 * 4 = nI (k / 100 % 3) ∧ x / 32 = nI (k % 100) := by
  obtain ⟨X, eX⟩ : ∃ q : Nat, q = k / 300 + 8 * (k / 100 % 3) + 32 * (k % 100) := ⟨_, rfl⟩
  have ex : x = nI X := by rw [e, rcd, if_pos h, eX]
  obtain ⟨q1, q2, q3, q4⟩ := rcd_g (show k / 300 < 6 by omega) (show k / 100 % 3 < 3 by omega) (show k % 100 < 100 by omega) eX
  subst ex
  have d8 : nI X / nI 8 = nI (X / 8) := pk_div (a := X) (d := 8) (by omega) (by omega) (by omega)
  have d32 : nI X / nI 32 = nI (X / 32) := pk_div (a := X) (d := 32) (by omega) (by omega) (by omega)
  have r8 : nI X - nI X / nI 8 * nI 8 = nI (X % 8) := pk_rem (a := X) (d := 8) (by omega) (by omega) (by omega)
  have r4 : nI (X / 8) - nI (X / 8) / nI 4 * nI 4 = nI (X / 8 % 4) := pk_rem (a := X / 8) (d := 4) (by omega) (by omega) (by omega)
  rw [← d8] at r4
  exact ⟨nI_pos (by omega), r8.trans (congrArg nI q1), r4.trans (congrArg nI q2), d32.trans (congrArg nI q3)⟩
/-- what a token of a hill may be -/
noncomputable def tOk2 (k : Nat) : Prop := k < 1800 ∨ k = 1801 ∨ k = 1802 ∨ k = 1803 ∨ ∃ w v : Nat, (w = 0 ∨ w = 1 ∨ w = 3) ∧ v ≤ 99 ∧ k = 2000 + 100 * w + v
theorem fl_ok : ∀ C : List pCla, WfC C → ∀ k, k ∈ flC C → tOk2 k
  | [], _, k, h => absurd (show k ∈ ([] : List Nat) from h) (by simp)
  | c :: C, hw, k, h => by
    have h : k ∈ fl1 c ++ flC C := h
    rcases List.mem_append.mp h with q | q
    · obtain ⟨h4, hv, hg⟩ := hw c (by simp)
      by_cases h2 : c.1 = 2
      · rw [fl1, if_pos h2] at q
        exact absurd q (by simp)
      · rw [fl1, if_neg h2] at q
        rcases List.mem_append.mp q with z | z
        · obtain ⟨b, g⟩ := hg h2 (fun _ => 0)
          rcases g.1 k z with a | a | a | a
          · exact Or.inl a
          · exact Or.inr (Or.inl a)
          · exact Or.inr (Or.inr (Or.inl a))
          · exact Or.inr (Or.inr (Or.inr (Or.inl a)))
        · exact Or.inr (Or.inr (Or.inr (Or.inr ⟨c.1, c.2.1, by omega, hv, List.mem_singleton.mp z⟩)))
    · exact fl_ok C (fun d hd => hw d (List.mem_cons_of_mem _ hd)) k q
theorem gd_mem {L : List Nat} {i : Nat} (h : i < L.length) : L.getD i 0 ∈ L := by
  rw [List.getD_eq_getElem?_getD, List.getElem?_eq_getElem h]
  exact List.getElem_mem h
theorem gd_take {L : List Nat} {i : Nat} (h : i < L.length) : L.take (i + 1) = L.take i ++ [L.getD i 0] := by
  rw [List.take_succ_eq_append_getElem h, List.getD_eq_getElem?_getD, List.getElem?_eq_getElem h, Option.getD_some]
theorem rr_step {fc : Nat → Int32} {s t t2 : rS} {L : List Nat} {i k : Nat} (h : rrn fc s (L.take i) = t) (hi : i < L.length) (e : k = L.getD i 0) (h2 : rst fc t k = t2) : rrn fc s (L.take (i + 1)) = t2 := by
  rw [gd_take hi, rrn_add, h, ← e]
  exact h2
/-- the hill that is set, by its clauses -/
noncomputable def hol (f : Nat → Int32) (C : List pCla) : Prop := WfC C ∧ ((f 5 = -1 ∧ C = []) ∨ ∃ h : Nat, h < 5 ∧ f 5 = nI h ∧ okP f h ∧ CDh f h C)
theorem hol_of {f g : Nat → Int32} {C : List pCla} (h : hol f C) (he : ∀ i, i < 901 → (i = 5 ∨ 191 ≤ i) → g i = f i) : hol g C := by
  obtain ⟨hw, h | ⟨k, hk, h1, ⟨n, hn, h2, h3⟩, h4⟩⟩ := h
  · exact ⟨hw, Or.inl ⟨(he 5 (by omega) (Or.inl rfl)).trans h.1, h.2⟩⟩
  · refine ⟨hw, Or.inr ⟨k, hk, (he 5 (by omega) (Or.inl rfl)).trans h1, ⟨n, hn, (he _ (by omega) (Or.inr (by omega))).trans h2, ?_⟩, CDh_of h4 (fun i hi => he i (by omega) (Or.inr (by omega)))⟩⟩
    rw [sdep_cong (f := fun i => f (201 + 140 * k + i)) (fun i hi => he _ (by omega) (Or.inr (by omega)))]; exact h3
/-- the six facts, in the order of their letters -/
noncomputable def fct (x y z m s : Int32) : Nat → Int32 := fun j => if j = 0 then x else if j = 1 then y else if j = 2 then z / 6 else if j = 3 then z - z / 6 * 6 else if j = 4 then m else s
theorem fct_of {f : Nat → Int32} {x y z m s : Int32} : ∀ j, j < 6 → upd (upd (upd (upd (upd (upd f 0 x) 1 y) 2 (z / 6)) 3 (z - z / 6 * 6)) 4 m) 5 s j = fct x y z m s j := fun j hj => by
  rcases (show j = 0 ∨ j = 1 ∨ j = 2 ∨ j = 3 ∨ j = 4 ∨ j = 5 by omega) with rfl | rfl | rfl | rfl | rfl | rfl <;> rfl
theorem lk_end {fc fd : Nat → Int32} {tv tw : Nat → Bool} {se dn : Int32} {C : List pCla} {i d : Nat} (hw : WfC C) (hR : rrn fc ((0, tv), 0, 0) ((flC C).take i) = ((d, tw), se, dn)) (hi : (flC C).length ≤ i) (hcg : ∀ j, j < 6 → fc j = fd j) : se = sTt fd C ∧ dn = tot fd 3 C := by
  rw [List.take_of_length_le hi] at hR
  obtain ⟨t2, e⟩ := rrn_C (fc := fc) C hw tv 0 0
  rw [e, Int32.zero_add, Int32.zero_add] at hR
  have e1 : sTt fc C = se := congrArg (fun z : rS => z.2.1) hR
  have e2 : tot fc 3 C = dn := congrArg (fun z : rS => z.2.2) hR
  exact ⟨by rw [← e1, sTt_cg hcg], by rw [← e2, tot_cg hcg]⟩
/-! how far: the reference's way of saying it -/
noncomputable def szR (v : Int32) : Int32 := if 0 ≤ v then v else -v
noncomputable def apR (x y : Int32) : Int32 := if szR (x / 6 - y / 6) ≤ szR (x - x / 6 * 6 - (y - y / 6 * 6)) then szR (x - x / 6 * 6 - (y - y / 6 * 6)) else szR (x / 6 - y / 6)
noncomputable def rc1 (kd v : Int32) : Int32 := if kd = 1 then v / 3 else if kd = 4 then v / 3 else if kd = 2 then -1 else if kd = 5 then -1 else 0
noncomputable def rc2 (p kd v s : Int32) : Int32 := if p < 0 then 0 else if kd = 5 then (if s ≤ v then p else 0) else p
noncomputable def rc3 (p kd : Int32) : Int32 := if kd = 6 then (if p ≤ 1 then p else 1) else p
noncomputable def RV (C : List pCla) (mi sn : Int32) (h : Nat) (kd v c : Int32) : Int32 := rc3 (rc2 (nI (sgC C) + sTt (fct (nI h) kd c mi sn) C - mi + rc1 kd v) kd v sn) kd
noncomputable def RR (f : Nat → Int32) (C : List pCla) (h : Nat) : Int32 := RV C (f 6) (f 7) h (f (10 + h)) (f (19 + h)) (f (28 + h))
/-- bits of what is seen: as far as A i, seen as far as R i -/
noncomputable def sbR (A R : Nat → Int32) : Nat → Int32
  | 0 => 0
  | i + 1 => if R i < A i then sbR A R i else sbR A R i ||| (1 <<< (nI i &&& 31))
theorem or_z32 (q : Int32) : q ||| 0 = q := by
  apply b_ext
  intro i _
  rw [b_or, b_0, Bool.or_false]
theorem sb_1 {A R : Nat → Int32} {i : Nat} {q : Int32} (h : q = sbR A R i) (h2 : ¬ R i < A i) : q ||| (1 <<< (nI i &&& 31)) = sbR A R (i + 1) := by
  rw [h]; exact (if_neg h2).symm
theorem sb_0 {A R : Nat → Int32} {i : Nat} {q : Int32} (h : q = sbR A R i) (h2 : R i < A i) : q ||| 0 = sbR A R (i + 1) := by
  rw [or_z32, h]; exact (if_pos h2).symm
theorem sb_n {A R : Nat → Int32} {i : Nat} {q : Int32} (h : q = sbR A R i) (h2 : R i < A i) : q = sbR A R (i + 1) := by
  rw [h]; exact (if_pos h2).symm
theorem sb_cg {A R B S : Nat → Int32} : ∀ n : Nat, (∀ i, i < n → A i = B i ∧ R i = S i) → sbR A R n = sbR B S n
  | 0, _ => rfl
  | n + 1, h => by
    show (if R n < A n then sbR A R n else sbR A R n ||| (1 <<< (nI n &&& 31))) = (if S n < B n then sbR B S n else sbR B S n ||| (1 <<< (nI n &&& 31)))
    rw [sb_cg n (fun i hi => h i (by omega)), (h n (by omega)).1, (h n (by omega)).2]
/-- where such bits are seen from -/
noncomputable def whB (S : Nat → Int32) (x : Int32) : Nat → Int64
  | 0 => 0
  | i + 1 => if S i = x then whB S x i ||| (1 <<< ((nI i).toInt64 &&& 63)) else whB S x i
theorem or_z64 (q : Int64) : q ||| 0 = q := Int64.toBitVec_inj.mp (by rw [Int64.toBitVec_or]; exact BitVec.or_zero)
theorem wh_1 {S : Nat → Int32} {x : Int32} {i : Nat} {q : Int64} (h : q = whB S x i) (h2 : S i = x) : q ||| (1 <<< ((nI i).toInt64 &&& 63)) = whB S x (i + 1) := by
  rw [h]; exact (if_pos h2).symm
theorem wh_0 {S : Nat → Int32} {x : Int32} {i : Nat} {q : Int64} (h : q = whB S x i) (h2 : ¬ S i = x) : q ||| 0 = whB S x (i + 1) := by
  rw [or_z64, h]; exact (if_neg h2).symm
theorem wh_n {S : Nat → Int32} {x : Int32} {i : Nat} {q : Int64} (h : q = whB S x i) (h2 : ¬ S i = x) : q = whB S x (i + 1) := by
  rw [h]; exact (if_neg h2).symm
/-- how far one drifts on a cell -/
noncomputable def DRV (C : List pCla) (mi sn x : Int32) : Int32 := if tot (fct 99 99 x mi sn) 3 C ≤ 5 then tot (fct 99 99 x mi sn) 3 C else 5
theorem dr_a {C : List pCla} {mi sn x d : Int32} (e : d = tot (fct 99 99 x mi sn) 3 C) (h : d ≤ 5) : d = DRV C mi sn x := by
  rw [DRV, ← e, if_pos h]
theorem dr_b {C : List pCla} {mi sn x d : Int32} (e : d = tot (fct 99 99 x mi sn) 3 C) (h : ¬ d ≤ 5) : 5 = DRV C mi sn x := by
  rw [DRV, ← e, if_neg h]
theorem rc_eq {C : List pCla} {mi sn kd v c rs se : Int32} {h : Nat} (h1 : rs = nI (sgC C)) (h2 : se = sTt (fct (nI h) kd c mi sn) C) : rc3 (rc2 (rs + se - mi + rc1 kd v) kd v sn) kd = RV C mi sn h kd v c := by
  rw [h1, h2, RV]
theorem sb_end {A R : Nat → Int32} {i n : Nat} {q : Int32} (h : q = sbR A R i) (e : i = n) : q = sbR A R n := e ▸ h
theorem wh_end {S : Nat → Int32} {x : Int32} {i n : Nat} {q : Int64} (h : q = whB S x i) (e : i = n) : q = whB S x n := e ▸ h
noncomputable def ccd (k : Nat) : Int32 := if k < 1800 then nI k else nI 1800 - nI k
/-- the class's row of tokens of clauses -/
noncomputable def tkC : List pCla → List Nat
  | [] => []
  | c :: C => c.2.2 ++ tkC C
theorem tkC_add {C : List pCla} {c : pCla} : tkC (C ++ [c]) = tkC C ++ c.2.2 := by
  induction C with
  | nil => simp [tkC]
  | cons d C ih => simp only [List.cons_append, tkC, ih, List.append_assoc]
noncomputable def dfC : pCla := (0, 0, [])
/-- a hill of the class holds these clauses -/
noncomputable def HC (cl : Nat) (sg : Int32) (fW fA fE fC : Nat → Int32) (C : List pCla) : Prop := C.length = cl ∧ sg = nI (sgC C) ∧ (∀ i, i < cl → fW i = nI (C.getD i dfC).1 ∧ fA i = nI (C.getD i dfC).2.1 ∧ fE i = nI (tkC (C.take (i + 1))).length) ∧ (tkC C).length ≤ 100 ∧ ∀ i, i < (tkC C).length → fC i = ccd ((tkC C).getD i 0)
theorem gC_l {L M : List pCla} {k : Nat} (h : k < L.length) : (L ++ M).getD k dfC = L.getD k dfC := by
  rw [List.getD_eq_getElem?_getD, List.getElem?_append_left h, ← List.getD_eq_getElem?_getD]
theorem gC_r {L : List pCla} {b : pCla} : (L ++ [b]).getD L.length dfC = b := by
  rw [List.getD_eq_getElem?_getD, List.getElem?_append_right (Nat.le_refl _), Nat.sub_self]; rfl
/-! the class's hills: their rows -/
theorem gC_mem {C : List pCla} {j : Nat} (h : j < C.length) : C.getD j dfC ∈ C := by
  rw [List.getD_eq_getElem?_getD, List.getElem?_eq_getElem h]
  exact List.getElem_mem h
theorem gC_take {C : List pCla} {j : Nat} (h : j < C.length) : C.take (j + 1) = C.take j ++ [C.getD j dfC] := by
  rw [List.take_succ_eq_append_getElem h, List.getD_eq_getElem?_getD, List.getElem?_eq_getElem h, Option.getD_some]
theorem gC_drop {C : List pCla} {j : Nat} (h : j < C.length) : C.drop j = C.getD j dfC :: C.drop (j + 1) := by
  rw [List.drop_eq_getElem_cons h, List.getD_eq_getElem?_getD, List.getElem?_eq_getElem h, Option.getD_some]
theorem tkC_app : ∀ C D : List pCla, tkC (C ++ D) = tkC C ++ tkC D
  | [], _ => rfl
  | c :: C, D => by
    show c.2.2 ++ tkC (C ++ D) = (c.2.2 ++ tkC C) ++ tkC D
    rw [tkC_app C D, List.append_assoc]
theorem tk_all {C : List pCla} {j : Nat} (h : j < C.length) : tkC C = tkC (C.take j) ++ ((C.getD j dfC).2.2 ++ tkC (C.drop (j + 1))) := by
  have e2 : tkC C = tkC (C.take j) ++ tkC (C.drop j) := by rw [← tkC_app, List.take_append_drop]
  have e3 : tkC (C.drop j) = (C.getD j dfC).2.2 ++ tkC (C.drop (j + 1)) := by
    rw [gC_drop h]
    try rfl
  exact e2.trans (congrArg _ e3)
theorem tk_get {C : List pCla} {j t : Nat} (h : j < C.length) (ht : t < (C.getD j dfC).2.2.length) : (tkC (C.take j)).length + t < (tkC C).length ∧ (tkC C).getD ((tkC (C.take j)).length + t) 0 = (C.getD j dfC).2.2.getD t 0 := by
  rw [tk_all h]
  refine ⟨?_, ?_⟩
  · rw [List.length_append, List.length_append]; omega
  · rw [List.getD_eq_getElem?_getD, List.getElem?_append_right (by omega), Nat.add_sub_cancel_left, List.getElem?_append_left ht, ← List.getD_eq_getElem?_getD]
theorem hd_pre {cl j : Nat} {sg : Int32} {fW fA fE fC : Nat → Int32} {C : List pCla} (hH : HC cl sg fW fA fE fC C ∧ WfC C) (hj : j < cl) (h2 : ¬ (C.getD j dfC).1 = 2) (fc : Nat → Int32) : ∃ a : Nat, (j = 0 → a = 0) ∧ (¬ j = 0 → fE (j - 1) = nI a) ∧ fE j = nI (a + (C.getD j dfC).2.2.length) ∧ (∀ t, t < (C.getD j dfC).2.2.length → fC (a + t) = ccd ((C.getD j dfC).2.2.getD t 0)) ∧ a + (C.getD j dfC).2.2.length ≤ 100 ∧ ∃ b, Gd fc (C.getD j dfC).2.2 13 b := by
  obtain ⟨⟨e1, e2, e3, e4, e5⟩, hw⟩ := hH
  have hj2 : j < C.length := by omega
  have hl : (tkC (C.take (j + 1))).length = (tkC (C.take j)).length + (C.getD j dfC).2.2.length := by rw [gC_take hj2, tkC_add, List.length_append]
  refine ⟨(tkC (C.take j)).length, fun z => ?_, fun z => ?_, ?_, fun t ht => ?_, ?_, (hw _ (gC_mem hj2)).2.2 h2 fc⟩
  · subst z; rfl
  · have e := (e3 (j - 1) (by omega)).2.2
    rw [show j - 1 + 1 = j by omega] at e
    exact e
  · rw [(e3 j hj).2.2, hl]
  · have q := tk_get hj2 ht
    rw [e5 _ q.1, q.2]
  · have q : (tkC C).length = (tkC (C.take j)).length + ((C.getD j dfC).2.2.length + (tkC (C.drop (j + 1))).length) := by rw [tk_all hj2, List.length_append, List.length_append]
    omega
theorem nI_ngv {n : Nat} {y : Int32} (h : n < 2 ^ 31) (hy : y < 0) : ¬ nI n = y := fun e => absurd hy (by rw [← e]; exact nI_pos h)
section
variable {fc : Nat → Int32} {q q2 : Int32} {L : List Nat} {t k : Nat}
theorem pr_st (h : q = prn fc 0 (L.take t)) (ht : t < L.length) (e : k = L.getD t 0) (h2 : pst fc q k = q2) : q2 = prn fc 0 (L.take (t + 1)) := by
  rw [gd_take ht, prn_add, ← h, ← e, ← h2]
  try rfl
theorem ps_n : pst fc q 1801 = q ^^^ 1 := by rw [pst, if_neg (by decide), if_pos rfl]
theorem ps_a : pst fc q 1802 = q >>> (1 &&& 31) &&& (q ||| (-2)) := by rw [pst, if_neg (by decide), if_neg (by decide), if_pos rfl]
theorem ps_o : pst fc q 1803 = q >>> (1 &&& 31) ||| (q &&& 1) := by rw [pst, if_neg (by decide), if_neg (by decide), if_neg (by decide)]
theorem ps_0 (h : k < 1800) (hb : tsB fc k = false) : pst fc q k = q <<< (1 &&& 31) ||| 0 := by
  rw [pst, if_pos h, hb]
  try rfl
theorem ps_1 (h : k < 1800) (hb : tsB fc k = true) : pst fc q k = q <<< (1 &&& 31) ||| 1 := by
  rw [pst, if_pos h, hb]
  try rfl
theorem hd_1 (g : ∃ b, Gd fc L 13 b) (hq : q = prn fc 0 (L.take t)) (ht : L.length ≤ t) (h : q &&& 1 = 1) : 1 = bI (hld fc L) := by
  obtain ⟨b, g⟩ := g
  rw [List.take_of_length_le ht] at hq
  rw [hq, a1_bt, hld_bt g (by omega)] at h
  rw [h]; rfl
theorem hd_0 (g : ∃ b, Gd fc L 13 b) (hq : q = prn fc 0 (L.take t)) (ht : L.length ≤ t) (h : ¬ q &&& 1 = 1) : 0 = bI (hld fc L) := by
  obtain ⟨b, g⟩ := g
  rw [List.take_of_length_le ht] at hq
  rw [hq, a1_bt, hld_bt g (by omega)] at h
  rcases hz : hld fc L with _ | _
  · rfl
  · exact absurd hz h
end
section
variable {fc : Nat → Int32} {q T : Int32} {C : List pCla} {i w : Nat}
theorem tt_c (h : q + tot fc w (C.drop i) = T) (hi : i < C.length) : q + ((if hld fc (C.getD i dfC).2.2 = true then (if (C.getD i dfC).1 = w then nI (C.getD i dfC).2.1 else 0) else 0) + tot fc w (C.drop (i + 1))) = T := by
  rw [gC_drop hi] at h
  exact h
theorem tt_n (h : q + tot fc w (C.drop i) = T) (hi : i < C.length) (hw : ¬ (C.getD i dfC).1 = w) : q + tot fc w (C.drop (i + 1)) = T := by
  have h := tt_c h hi
  by_cases hb : hld fc (C.getD i dfC).2.2 = true
  · rw [if_pos hb, if_neg hw, Int32.zero_add] at h; exact h
  · rw [if_neg hb, Int32.zero_add] at h; exact h
theorem tt_0 (h : q + tot fc w (C.drop i) = T) (hi : i < C.length) (hb : hld fc (C.getD i dfC).2.2 = false) : q + tot fc w (C.drop (i + 1)) = T := by
  have h := tt_c h hi
  rw [if_neg (by rw [hb]; decide), Int32.zero_add] at h; exact h
theorem tt_1 (h : q + tot fc w (C.drop i) = T) (hi : i < C.length) (hw : (C.getD i dfC).1 = w) (hb : hld fc (C.getD i dfC).2.2 = true) : q + nI (C.getD i dfC).2.1 + tot fc w (C.drop (i + 1)) = T := by
  have h := tt_c h hi
  rw [if_pos hb, if_pos hw, ← Int32.add_assoc] at h; exact h
theorem tt_e (h : q + tot fc w (C.drop i) = T) (hi : C.length ≤ i) : q = T := by
  rw [List.drop_eq_nil_of_le hi] at h
  exact (Int32.add_zero q).symm.trans h
end
/-! how far: the class's way of saying it -/
theorem ab_sz (v : Int32) : (if 0 ≤ v then v else 0 - v) = szR v := by rw [szR, Int32.zero_sub]
theorem mx_ap (a b : Int32) : (if a < b then b else a) = (if a ≤ b then b else a) := by
  by_cases h : a < b
  · rw [if_pos h, if_pos (Int32.le_of_lt h)]
  · rw [if_neg h]
    by_cases h2 : a ≤ b
    · rw [if_pos h2]; exact Int32.le_antisymm h2 (Int32.not_lt.mp h)
    · rw [if_neg h2]
noncomputable def mx0 (x : Int32) : Int32 := if 0 < x then x else 0
theorem mx0_eq (p : Int32) : mx0 p = if p < 0 then 0 else p := by
  by_cases h : p < 0
  · rw [mx0, if_pos h, if_neg (show ¬ 0 < p from fun z => Int32.lt_irrefl (Int32.lt_trans h z))]
  · rw [if_neg h, mx0]
    by_cases h2 : 0 < p
    · rw [if_pos h2]
    · rw [if_neg h2]; exact Int32.le_antisymm (Int32.not_lt.mp h) (Int32.not_lt.mp h2)
theorem rc1_0 (v : Int32) : rc1 0 v = 0 := by rw [rc1, if_neg (by decide), if_neg (by decide), if_neg (by decide), if_neg (by decide)]
theorem rc1_3 (v : Int32) : rc1 3 v = 0 := by rw [rc1, if_neg (by decide), if_neg (by decide), if_neg (by decide), if_neg (by decide)]
theorem rc1_6 (v : Int32) : rc1 6 v = 0 := by rw [rc1, if_neg (by decide), if_neg (by decide), if_neg (by decide), if_neg (by decide)]
theorem rc1_1 (v : Int32) : rc1 1 v = v / 3 := by rw [rc1, if_pos rfl]
theorem rc1_4 (v : Int32) : rc1 4 v = v / 3 := by rw [rc1, if_neg (by decide), if_pos rfl]
theorem rc1_2 (v : Int32) : rc1 2 v = -1 := by rw [rc1, if_neg (by decide), if_neg (by decide), if_pos rfl]
theorem rc1_5 (v : Int32) : rc1 5 v = -1 := by rw [rc1, if_neg (by decide), if_neg (by decide), if_neg (by decide), if_pos rfl]
section
variable {F : Nat → Int32} {C : List pCla} {mi sn kd v c sg t0 t1 r : Int32} {i : Nat}
theorem rv_p (hF : ∀ j, j < 6 → F j = fct (nI i) kd c mi sn j) (h0 : t0 = tot F 0 C) (h1 : t1 = tot F 1 C) (hs : sg = nI (sgC C)) : sg + t0 - t1 - mi = nI (sgC C) + sTt (fct (nI i) kd c mi sn) C - mi := by
  rw [h0, h1, hs, tot_cg hF, tot_cg hF, sTt_eq, Int32.sub_eq_add_neg (nI (sgC C) + tot (fct (nI i) kd c mi sn) 0 C), Int32.sub_eq_add_neg (tot (fct (nI i) kd c mi sn) 0 C), Int32.add_assoc]
theorem rv_0 (hP : ∃ p : Int32, p = nI (sgC C) + sTt (fct (nI i) kd c mi sn) C - mi ∧ r = mx0 p) (hk : kd = 0) : r = RV C mi sn i kd v c := by
  obtain ⟨p, e, hr⟩ := hP
  rw [RV, ← e, hr, hk, rc3, if_neg (show ¬ (0 : Int32) = 6 by decide), rc2, if_neg (show ¬ (0 : Int32) = 5 by decide), rc1_0, Int32.add_zero, mx0_eq]
theorem rv_3 (hP : ∃ p : Int32, p = nI (sgC C) + sTt (fct (nI i) kd c mi sn) C - mi ∧ r = mx0 p) (hk : kd = 3) : r = RV C mi sn i kd v c := by
  obtain ⟨p, e, hr⟩ := hP
  rw [RV, ← e, hr, hk, rc3, if_neg (show ¬ (3 : Int32) = 6 by decide), rc2, if_neg (show ¬ (3 : Int32) = 5 by decide), rc1_3, Int32.add_zero, mx0_eq]
theorem rv_1 (hP : ∃ p : Int32, p = nI (sgC C) + sTt (fct (nI i) kd c mi sn) C - mi ∧ r = mx0 (p + v / 3)) (hk : kd = 1) : r = RV C mi sn i kd v c := by
  obtain ⟨p, e, hr⟩ := hP
  rw [RV, ← e, hr, hk, rc3, if_neg (show ¬ (1 : Int32) = 6 by decide), rc2, if_neg (show ¬ (1 : Int32) = 5 by decide), rc1_1, mx0_eq]
theorem rv_4 (hP : ∃ p : Int32, p = nI (sgC C) + sTt (fct (nI i) kd c mi sn) C - mi ∧ r = mx0 (p + v / 3)) (hk : kd = 4) : r = RV C mi sn i kd v c := by
  obtain ⟨p, e, hr⟩ := hP
  rw [RV, ← e, hr, hk, rc3, if_neg (show ¬ (4 : Int32) = 6 by decide), rc2, if_neg (show ¬ (4 : Int32) = 5 by decide), rc1_4, mx0_eq]
theorem rv_2 (hP : ∃ p : Int32, p = nI (sgC C) + sTt (fct (nI i) kd c mi sn) C - mi ∧ r = mx0 (p - 1)) (hk : kd = 2) : r = RV C mi sn i kd v c := by
  obtain ⟨p, e, hr⟩ := hP
  rw [RV, ← e, hr, hk, rc3, if_neg (show ¬ (2 : Int32) = 6 by decide), rc2, if_neg (show ¬ (2 : Int32) = 5 by decide), rc1_2, Int32.sub_eq_add_neg p 1, mx0_eq]
theorem rv_5 (hP : ∃ p : Int32, p = nI (sgC C) + sTt (fct (nI i) kd c mi sn) C - mi ∧ r = if sn ≤ v then mx0 (p - 1) else 0) (hk : kd = 5) : r = RV C mi sn i kd v c := by
  obtain ⟨p, e, hr⟩ := hP
  rw [RV, ← e, hr, hk, rc3, if_neg (show ¬ (5 : Int32) = 6 by decide), rc2, if_pos (rfl : (5 : Int32) = 5), rc1_5, Int32.sub_eq_add_neg p 1, mx0_eq]
  by_cases h : sn ≤ v
  · rw [if_pos h, if_pos h]
  · rw [if_neg h, if_neg h]; split <;> rfl
theorem rv_6 (hP : ∃ p : Int32, p = nI (sgC C) + sTt (fct (nI i) kd c mi sn) C - mi ∧ r = if mx0 p < 1 then mx0 p else 1) (hk : kd = 6) : r = RV C mi sn i kd v c := by
  obtain ⟨p, e, hr⟩ := hP
  rw [RV, ← e, hr, hk, rc3, if_pos (rfl : (6 : Int32) = 6), rc2, if_neg (show ¬ (6 : Int32) = 5 by decide), rc1_6, Int32.add_zero, ← mx0_eq]
  by_cases h : mx0 p < 1
  · rw [if_pos h, if_pos (Int32.le_of_lt h)]
  · rw [if_neg h]
    by_cases h2 : mx0 p ≤ 1
    · rw [if_pos h2]; exact Int32.le_antisymm (Int32.not_lt.mp h) h2
    · rw [if_neg h2]
theorem drv_c {x t : Int32} (hF : ∀ j, j < 6 → F j = fct 99 99 x mi sn j) (h : t = tot F 3 C) : (if t < 5 then t else 5) = DRV C mi sn x := by
  rw [DRV, ← tot_cg hF, ← h]
  by_cases h1 : t < 5
  · rw [if_pos h1, if_pos (Int32.le_of_lt h1)]
  · rw [if_neg h1]
    by_cases h2 : t ≤ 5
    · rw [if_pos h2]; exact Int32.le_antisymm (Int32.not_lt.mp h1) h2
    · rw [if_neg h2]
end
theorem me_up {f g : Nat → Int32} {i : Nat} (h : ∀ k, k < i → f k = g k) : ∀ k, k < i + 1 → upd f i (g i) k = g k := by
  intro k hk
  by_cases e : k = i
  · subst e; rw [pk_us]
  · rw [pk_un e]; exact h k (by omega)
theorem sw3_0 {k : Nat} (h : nI (k / 100 % 3) = 0) : k / 100 % 3 = 0 := (nI_eq (b := 0) (by omega) (by omega)).mp h
theorem sw3_1 {k : Nat} (h : nI (k / 100 % 3) = 1) : k / 100 % 3 = 1 := (nI_eq (b := 1) (by omega) (by omega)).mp h
theorem sw3_m {k : Nat} (h : ¬ nI (k / 100 % 3) = 0) : ¬ k / 100 % 3 = 0 := fun e => h (by rw [e]; rfl)
theorem sw3_n {k : Nat} (h : ¬ nI (k / 100 % 3) = 1) : ¬ k / 100 % 3 = 1 := fun e => h (by rw [e]; rfl)
/-! answers by what is visible: of, sees, where, drift -/
noncomputable def ofR (n : Nat) (yk yv yc : Nat → Int32) (C : List pCla) (mi sn x y : Int32) : Int32 := @ite Int32 (hh n x) (Classical.propDecidable _) (if y = 0 then yk x.toNatClampNeg else if y = 1 then yv x.toNatClampNeg else if y = 2 then yc x.toNatClampNeg else if y = 3 then RV C mi sn x.toNatClampNeg (yk x.toNatClampNeg) (yv x.toNatClampNeg) (yc x.toNatClampNeg) else -1) (-1)
section
variable {n j h : Nat} {yk yv yc : Nat → Int32} {C : List pCla} {mi sn x y : Int32} {f : Nat → Int32}
theorem of_no (h : ∀ j : Nat, j < n → x ≠ nI j) : -1 = ofR n yk yv yc C mi sn x y := by rw [ofR, if_neg (hh_no h)]
theorem of_at (hn : n ≤ 8) (hj : j < n) : ofR n yk yv yc C mi sn (nI j) y = if y = 0 then yk j else if y = 1 then yv j else if y = 2 then yc j else if y = 3 then RV C mi sn j (yk j) (yv j) (yc j) else -1 := by rw [ofR, if_pos (hh_yes hj), nI_clamp (by omega)]
theorem of_k (hn : n ≤ 8) (hj : j < n) (h0 : y = 0) : yk j = ofR n yk yv yc C mi sn (nI j) y := by rw [of_at hn hj, if_pos h0]
theorem of_v (hn : n ≤ 8) (hj : j < n) (h0 : y = 1) : yv j = ofR n yk yv yc C mi sn (nI j) y := by rw [of_at hn hj, if_neg (show ¬ y = 0 by rw [h0]; decide), if_pos h0]
theorem of_c (hn : n ≤ 8) (hj : j < n) (h0 : y = 2) : yc j = ofR n yk yv yc C mi sn (nI j) y := by rw [of_at hn hj, if_neg (show ¬ y = 0 by rw [h0]; decide), if_neg (show ¬ y = 1 by rw [h0]; decide), if_pos h0]
theorem of_r (hn : n ≤ 8) (hj : j < n) (h0 : y = 3) : RV C mi sn j (yk j) (yv j) (yc j) = ofR n yk yv yc C mi sn (nI j) y := by rw [of_at hn hj, if_neg (show ¬ y = 0 by rw [h0]; decide), if_neg (show ¬ y = 1 by rw [h0]; decide), if_neg (show ¬ y = 2 by rw [h0]; decide), if_pos h0]
theorem of_x (hn : n ≤ 8) (hj : j < n) (h0 : ¬ y = 0) (h1 : ¬ y = 1) (h2 : ¬ y = 2) (h3 : ¬ y = 3) : -1 = ofR n yk yv yc C mi sn (nI j) y := by rw [of_at hn hj, if_neg h0, if_neg h1, if_neg h2, if_neg h3]
theorem of_y (hn : n ≤ 8) (hj : j < n) (h : y < 0 ∨ 3 < y) : -1 = ofR n yk yv yc C mi sn (nI j) y := by
  have e : ∀ k : Int32, ¬ (k < 0 ∨ 3 < k) → ¬ y = k := fun k hk z => hk (z ▸ h)
  exact of_x hn hj (e 0 (by decide)) (e 1 (by decide)) (e 2 (by decide)) (e 3 (by decide))
theorem RR_eq (hj : j < n) (zk : ∀ k, k < n → f (10 + k) = yk k) (zv : ∀ k, k < n → f (19 + k) = yv k) (zc : ∀ k, k < n → f (28 + k) = yc k) (zm : f 6 = mi) (zs : f 7 = sn) : RR f C j = RV C mi sn j (yk j) (yv j) (yc j) := by rw [RR, zk j hj, zv j hj, zc j hj, zm, zs]
theorem of_3 (hn : n ≤ 8) (hj : j < n) (zk : ∀ k, k < n → f (10 + k) = yk k) (zv : ∀ k, k < n → f (19 + k) = yv k) (zc : ∀ k, k < n → f (28 + k) = yc k) (zm : f 6 = mi) (zs : f 7 = sn) : RR f C j = ofR n yk yv yc C mi sn (nI j) (nI 3) := by rw [RR_eq hj zk zv zc zm zs]; exact of_r hn hj rfl
theorem of_m (hn : n ≤ 8) (hj : j < n) (hh : h ≤ 3) (h3 : ¬ h = 3) (zk : ∀ k, k < n → f (10 + k) = yk k) (zv : ∀ k, k < n → f (19 + k) = yv k) (zc : ∀ k, k < n → f (28 + k) = yc k) : f (10 + 9 * h + j) = ofR n yk yv yc C mi sn (nI j) (nI h) := by
  rcases (show h = 0 ∨ h = 1 ∨ h = 2 by omega) with rfl | rfl | rfl
  · exact (zk j hj).trans (of_k hn hj rfl)
  · exact (zv j hj).trans (of_v hn hj rfl)
  · exact (zc j hj).trans (of_c hn hj rfl)
noncomputable def seV (n : Nat) (yk yv yc : Nat → Int32) (C : List pCla) (mi sn x : Int32) : Int32 := sbR (fun k => apR x (yc k)) (fun k => RV C mi sn k (yk k) (yv k) (yc k)) n
noncomputable def seR (n : Nat) (yk yv yc : Nat → Int32) (C : List pCla) (mi sn x : Int32) : Int32 := if x < 0 ∨ 35 < x then -1 else seV n yk yv yc C mi sn x
theorem seV_m (zk : ∀ k, k < n → f (10 + k) = yk k) (zv : ∀ k, k < n → f (19 + k) = yv k) (zc : ∀ k, k < n → f (28 + k) = yc k) (zm : f 6 = mi) (zs : f 7 = sn) : sbR (fun i => apR x (f (28 + i))) (fun i => RR f C i) n = seV n yk yv yc C mi sn x := sb_cg n (fun i hi => ⟨by show apR x (f (28 + i)) = apR x (yc i); rw [zc i hi], RR_eq hi zk zv zc zm zs⟩)
theorem se_no (h : x < 0 ∨ 35 < x) : -1 = seR n yk yv yc C mi sn x := (if_pos h).symm
theorem se_m (h1 : ¬ x < 0) (h2 : ¬ 35 < x) (zk : ∀ k, k < n → f (10 + k) = yk k) (zv : ∀ k, k < n → f (19 + k) = yv k) (zc : ∀ k, k < n → f (28 + k) = yc k) (zm : f 6 = mi) (zs : f 7 = sn) : sbR (fun i => apR x (f (28 + i))) (fun i => RR f C i) n = seR n yk yv yc C mi sn x := by
  rw [seV_m zk zv zc zm zs, seR, if_neg (show ¬ (x < 0 ∨ 35 < x) from fun q => q.elim h1 h2)]
theorem cell_no (h : x < 0 ∨ 36 ≤ x) : x < 0 ∨ 35 < x := h.elim Or.inl (fun q => Or.inr (Int32.lt_of_lt_of_le (by decide) q))
theorem cell_yes (hj : j < 36) : ¬ (nI j < 0 ∨ 35 < nI j) := fun q => q.elim (nI_pos (by omega)) (nI_nlt (a := 35) (by omega) (by omega))
theorem se_x (hj : j < 36) (hm : ∀ k, k < n → f k = RV C mi sn k (yk k) (yv k) (yc k)) : sbR (fun k => apR (nI j) (yc k)) f n = seR n yk yv yc C mi sn (nI j) := by
  rw [seR, if_neg (cell_yes hj), seV]
  exact sb_cg n (fun i hi => ⟨rfl, hm i hi⟩)
noncomputable def whR (n : Nat) (yk yv yc : Nat → Int32) (C : List pCla) (mi sn x : Int32) : Int64 := if x < 0 ∨ ¬ x >>> (nI n &&& 31) = 0 then (-9223372036854775808) else whB (fun i => seV n yk yv yc C mi sn (nI i)) x 36
theorem whB_cg {S T : Nat → Int32} (m : Nat) (h : ∀ i, S i = T i) : whB S x m = whB T x m := by rw [show S = T from funext h]
theorem wh_a (h : x < 0) : (-9223372036854775808) = whR n yk yv yc C mi sn x := (if_pos (Or.inl h)).symm
theorem wh_b (h : ¬ x >>> (nI n &&& 31) = 0) : (-9223372036854775808) = whR n yk yv yc C mi sn x := (if_pos (Or.inr h)).symm
theorem wh_m (h1 : ¬ x < 0) (h2 : x >>> (nI n &&& 31) = 0) (zk : ∀ k, k < n → f (10 + k) = yk k) (zv : ∀ k, k < n → f (19 + k) = yv k) (zc : ∀ k, k < n → f (28 + k) = yc k) (zm : f 6 = mi) (zs : f 7 = sn) {q : Int64} (hq : q = whB (fun i => sbR (fun k => apR (nI i) (f (28 + k))) (fun k => RR f C k) n) x 36) : q = whR n yk yv yc C mi sn x := by
  rw [hq, whR, if_neg (show ¬ (x < 0 ∨ ¬ x >>> (nI n &&& 31) = 0) from fun q => q.elim h1 (fun z => z h2))]
  exact whB_cg 36 (fun i => seV_m zk zv zc zm zs)
theorem sh_1 : ∀ n, n < 9 → (1 : Int32) <<< (nI n &&& 31) = nI (2 ^ n) ∧ 2 ^ n ≤ 256 := by decide +kernel
theorem wh_iff (hn : n ≤ 8) (h1 : ¬ x < 0) : x >>> (nI n &&& 31) = 0 ↔ x < 1 <<< (nI n &&& 31) := by
  obtain ⟨m, hm, rfl⟩ := nI_of h1
  obtain ⟨e1, e2⟩ := sh_1 n (by omega)
  have hb9 : ∀ i, bt (nI m) i = m.testBit i := fun i => by
    show (BitVec.ofNat 32 m).toNat.testBit i = m.testBit i
    rw [BitVec.toNat_ofNat, Nat.mod_eq_of_lt (by omega)]
  rw [e1, nI_ltI (by omega) (by omega)]
  constructor
  · intro h
    apply Nat.lt_pow_two_of_testBit
    intro i hi
    rcases Nat.lt_or_ge i 32 with q | q
    · have e := b_sshr n (by omega) (nI m) (i := i - n) (by omega)
      rw [h, b_0, if_pos (show n + (i - n) < 32 by omega), show n + (i - n) = i by omega, hb9] at e
      exact e.symm
    · exact Nat.testBit_lt_two_pow (Nat.lt_of_lt_of_le hm (Nat.le_trans (by decide) (Nat.pow_le_pow_right (by decide) q)))
  · intro h
    apply b_ext
    intro i hi
    have z : ∀ k, n ≤ k → bt (nI m) k = false := fun k hk => by
      rw [hb9]
      exact Nat.testBit_lt_two_pow (Nat.lt_of_lt_of_le h (Nat.pow_le_pow_right (by decide) hk))
    rw [b_sshr n (by omega) (nI m) hi, b_0]
    split
    · exact z _ (by omega)
    · exact z _ (by omega)
theorem wh_c (hn : n ≤ 8) (h1 : ¬ x < 0) (h : ¬ x < 1 <<< (nI n &&& 31)) : (-9223372036854775808) = whR n yk yv yc C mi sn x := wh_b (fun z => h ((wh_iff hn h1).mp z))
theorem wh_x (hn : n ≤ 8) (h1 : ¬ x < 0) (h : x < 1 <<< (nI n &&& 31)) (hm : ∀ k, k < n → f k = RV C mi sn k (yk k) (yv k) (yc k)) {q : Int64} (hq : q = whB (fun i => sbR (fun k => apR (nI i) (yc k)) f n) x 36) : q = whR n yk yv yc C mi sn x := by
  rw [hq, whR, if_neg (show ¬ (x < 0 ∨ ¬ x >>> (nI n &&& 31) = 0) from fun q => q.elim h1 (fun z => z ((wh_iff hn h1).mpr h)))]
  exact whB_cg 36 (fun i => sb_cg n (fun k hk => ⟨rfl, hm k hk⟩))
noncomputable def drR (C : List pCla) (mi sn x : Int32) : Int32 := if x < 0 ∨ 35 < x then -1 else DRV C mi sn x
theorem drR_no (h : x < 0 ∨ 35 < x) : -1 = drR C mi sn x := (if_pos h).symm
theorem drR_m (h1 : ¬ x < 0) (h2 : ¬ 35 < x) (zm : f 6 = mi) (zs : f 7 = sn) : DRV C (f 6) (f 7) x = drR C mi sn x := by
  rw [drR, if_neg (show ¬ (x < 0 ∨ 35 < x) from fun q => q.elim h1 h2), zm, zs]
theorem drR_x (hj : j < 36) : DRV C mi sn (nI j) = drR C mi sn (nI j) := (if_neg (cell_yes hj)).symm
end
/-! a line of people -/
noncomputable def mb (x : Int32) : Prop := ∃ m : Nat, m ≤ 9 ∧ x = nI m
theorem sz_neg (v : Int32) : szR (-v) = szR v := by
  have l1 := Int32.le_toInt v
  have l2 := Int32.toInt_lt v
  have e : (-v).toInt = (-v.toInt).bmod 4294967296 := Int32.toInt_neg v
  by_cases m : v.toInt = -2147483648
  · have hv : v = -2147483648 := Int32.toInt_inj.mp (by rw [m]; first | decide | rfl)
    rw [hv]; decide
  · have e2 : (-v.toInt).bmod 4294967296 = -v.toInt := Int.bmod_eq_of_le (by omega) (by omega)
    have k1 : (0 : Int32) ≤ -v ↔ v.toInt ≤ 0 := by
      rw [Int32.le_iff_toInt_le, e, e2, show (0 : Int32).toInt = 0 from rfl]
      omega
    have k2 : (0 : Int32) ≤ v ↔ 0 ≤ v.toInt := by
      rw [Int32.le_iff_toInt_le, show (0 : Int32).toInt = 0 from rfl]
    by_cases a : v.toInt ≤ 0
    · by_cases b : 0 ≤ v.toInt
      · have hv : v = 0 := Int32.toInt_inj.mp (by rw [show (0 : Int32).toInt = 0 from rfl]; omega)
        rw [hv]; decide
      · rw [szR, szR, if_pos (k1.mpr a), if_neg (fun z => b (k2.mp z))]
    · have b : 0 ≤ v.toInt := by omega
      rw [szR, szR, if_neg (fun z => a (k1.mp z)), if_pos (k2.mpr b), Int32.neg_neg]
theorem sz_sub (a b : Int32) : szR (a - b) = szR (b - a) := (congrArg szR (Int32.neg_sub (a := b) (b := a)).symm).trans (sz_neg (b - a))
theorem ap_sym (x y : Int32) : apR x y = apR y x := by
  rw [apR, apR, sz_sub (x / 6) (y / 6), sz_sub (x - x / 6 * 6) (y - y / 6 * 6)]
theorem sg_fl : ∀ (C : List pCla) (a : Nat), a ≤ 99 → WfC C → C.foldl (fun a c => if c.1 = 2 then c.2.1 else a) a ≤ 99
  | [], a, h, _ => h
  | c :: C, a, h, hw => by
    rw [List.foldl_cons]
    refine sg_fl C _ ?_ (fun d hd => hw d (List.mem_cons_of_mem _ hd))
    split
    · exact (hw c List.mem_cons_self).2.1
    · exact h
theorem sgC_le {C : List pCla} (h : WfC C) : sgC C ≤ 99 := sg_fl C 3 (by decide) h
noncomputable def lnE (sg : Nat) (mi : Int32) : Int32 := if mi ≤ nI sg then nI sg - mi else 0
theorem ln_mx {s : Nat} {mi : Int32} (h : mb mi) (hs : s ≤ 99) : (if 0 < nI s - mi then nI s - mi else 0) = lnE s mi := by
  obtain ⟨m, hm, rfl⟩ := h
  have hd : ∀ s, s < 100 → ∀ m, m < 10 → (if (0 : Int32) < nI s - nI m then nI s - nI m else 0) = (if nI m ≤ nI s then nI s - nI m else 0) := by decide +kernel
  exact hd s (by omega) m (by omega)
noncomputable def lnB (A : Nat → Int32) (j : Nat) (F : Int32) : Nat → Int32
  | 0 => 0
  | i + 1 => if i = j ∨ F < A i then lnB A j F i else lnB A j F i ||| (1 <<< (nI i &&& 31))
section
variable {A B : Nat → Int32} {j i n : Nat} {F q : Int32}
theorem ln_s {G : Nat → Int32} (hG : G = lnB A j F) (h : q = G i) (h2 : i = j ∨ F < A i) : q = G (i + 1) := by
  rw [h, hG]
  exact (if_pos h2).symm
theorem ln_s0 {G : Nat → Int32} (hG : G = lnB A j F) (h : q = G i) (h2 : i = j ∨ F < A i) : q ||| 0 = G (i + 1) := by
  rw [Int32.or_zero]
  exact ln_s hG h h2
theorem ln_1 {G : Nat → Int32} (hG : G = lnB A j F) (h : q = G i) (h2 : ¬ i = j) (h3 : ¬ F < A i) : q ||| (1 <<< (nI i &&& 31)) = G (i + 1) := by
  rw [h, hG]
  exact (if_neg (show ¬ (i = j ∨ F < A i) from fun z => z.elim h2 h3)).symm
theorem lnB_cg : ∀ n : Nat, (∀ i, i < n → A i = B i) → lnB A j F n = lnB B j F n
  | 0, _ => rfl
  | n + 1, h => by
    show (if n = j ∨ F < A n then lnB A j F n else lnB A j F n ||| (1 <<< (nI n &&& 31))) = (if n = j ∨ F < B n then lnB B j F n else lnB B j F n ||| (1 <<< (nI n &&& 31)))
    rw [lnB_cg n (fun i hi => h i (by omega)), h n (by omega)]
end
noncomputable def lnR (n : Nat) (yc : Nat → Int32) (sg : Nat) (mi x y : Int32) : Int32 := @ite Int32 (hh n x) (Classical.propDecidable _) (if y < 1 ∨ 9 < y then -2 else lnB (fun k => apR (yc x.toNatClampNeg) (yc k)) x.toNatClampNeg ((y - 1) * lnE sg mi) n) (-1)
section
variable {n j i sg : Nat} {yc f : Nat → Int32} {mi x y q : Int32} {G : Nat → Int32}
theorem ln_no (h : ∀ j : Nat, j < n → x ≠ nI j) : -1 = lnR n yc sg mi x y := by rw [lnR, if_neg (hh_no h)]
theorem ln_at (hn : n ≤ 8) (hj : j < n) : lnR n yc sg mi (nI j) y = if y < 1 ∨ 9 < y then -2 else lnB (fun k => apR (yc j) (yc k)) j ((y - 1) * lnE sg mi) n := by rw [lnR, if_pos (hh_yes hj), nI_clamp (by omega)]
theorem ln_bad (hn : n ≤ 8) (hj : j < n) (h : y < 1 ∨ 9 < y) : -2 = lnR n yc sg mi (nI j) y := by rw [ln_at hn hj, if_pos h]
theorem ln_ok (hn : n ≤ 8) (hj : j < n) (h1 : ¬ y < 1) (h2 : ¬ 9 < y) (hG : G = lnB (fun k => apR (yc j) (yc k)) j ((y - 1) * lnE sg mi)) (hq : q = G i) (hi : i = n) : q = lnR n yc sg mi (nI j) y := by
  rw [ln_at hn hj, if_neg (show ¬ (y < 1 ∨ 9 < y) from fun z => z.elim h1 h2), hq, hG, hi]
theorem ln_m (hn : n ≤ 8) (hj : j < n) (h1 : ¬ y < 1) (h2 : ¬ 9 < y) (zc : ∀ k, k < n → f (28 + k) = yc k) (zm : f 6 = mi) (hG : G = lnB (fun k => apR (f (28 + k)) (f (28 + j))) j ((y - 1) * lnE sg (f 6))) (hq : q = G i) (hi : i = n) : q = lnR n yc sg mi (nI j) y := by
  rw [ln_at hn hj, if_neg (show ¬ (y < 1 ∨ 9 < y) from fun z => z.elim h1 h2), hq, hG, hi, zm]
  exact lnB_cg n (fun k hk => by
    show apR (f (28 + k)) (f (28 + j)) = apR (yc j) (yc k)
    rw [zc k hk, zc j hj, ap_sym])
theorem st_mb (h : mb mi) : mb (if x < 0 then mi else if 1 < x then mi else if y < 0 then mi else if 9 < y then mi else if x = 0 then y else mi) := by
  split
  · exact h
  · split
    · exact h
    · split
      · exact h
      · split
        · exact h
        · split
          · rename_i h3 h4 h5
            obtain ⟨k, hk, e⟩ := nI_of2 (n := 9) (M := 9) (x := y) rfl h3 (Int32.not_lt.mp h4)
            exact ⟨k, by omega, e⟩
          · exact h
end
/-! from heap to heap: rows of bits -/
noncomputable abbrev tB (s y : Int32) : Prop := s >>> (y &&& 31) &&& 1 = 1
theorem b1_z : ∀ i, i < 32 → ¬ i = 0 → bt 1 i = false := by decide +kernel
theorem bm_1 : ∀ i, i < 32 → bt (-1) i = true := by decide +kernel
theorem tb_iff {s : Int32} {j : Nat} (hj : j < 32) : tB s (nI j) ↔ bt s j = true := by
  have e0 : bt (s >>> (nI j &&& 31) &&& 1) 0 = bt s j := by
    rw [b_and, b_sshr j hj s (show 0 < 32 by decide), if_pos (show j + 0 < 32 by omega), show bt 1 0 = true from by decide, Bool.and_true, Nat.add_zero]
  constructor
  · intro h
    rw [← e0, show s >>> (nI j &&& 31) &&& 1 = 1 from h]
    decide
  · intro h
    show s >>> (nI j &&& 31) &&& 1 = 1
    apply b_ext
    intro i hi
    by_cases q : i = 0
    · subst q
      rw [e0, h]
      decide
    · rw [b_and, b1_z i hi q, Bool.and_false]
noncomputable def spI (g : Nat → Int32) (s : Int32) : Nat → Int32
  | 0 => s
  | i + 1 => if tB s (nI i) then spI g s i ||| g i else spI g s i
noncomputable def owI (g : Nat → Int32) (s : Int32) : Nat → Int32
  | 0 => 0
  | i + 1 => if tB s (nI i) then owI g s i ||| g i else owI g s i
section
variable {g : Nat → Int32} {s q : Int32} {i n : Nat}
theorem sp_t (h : q = spI g s i) (h2 : tB s (nI i)) : q ||| g i = spI g s (i + 1) := by
  rw [h]
  exact (if_pos h2).symm
theorem sp_f (h : q = spI g s i) (h2 : ¬ tB s (nI i)) : q ||| 0 = spI g s (i + 1) := by
  rw [Int32.or_zero, h]
  exact (if_neg h2).symm
theorem sp_e (h : q = spI g s i) (e : i = n) : q = spI g s n := e ▸ h
theorem ow_t (h : q = owI g s i) (h2 : tB s (nI i)) : q ||| g i = owI g s (i + 1) := by
  rw [h]
  exact (if_pos h2).symm
theorem ow_f (h : q = owI g s i) (h2 : ¬ tB s (nI i)) : q = owI g s (i + 1) := by
  rw [h]
  exact (if_neg h2).symm
theorem ow_e (h : q = owI g s i) (e : i = n) : q = owI g s n := e ▸ h
theorem sp_bt : ∀ n : Nat, n ≤ 32 → ∀ j, bt (spI g s n) j = true ↔ bt s j = true ∨ ∃ i, i < n ∧ bt s i = true ∧ bt (g i) j = true
  | 0, _, j => ⟨fun h => Or.inl h, fun h => h.elim id (fun ⟨i, hi, _⟩ => absurd hi (Nat.not_lt_zero i))⟩
  | n + 1, hn, j => by
    by_cases h : tB s (nI n)
    · have h' := (tb_iff (show n < 32 by omega)).mp h
      rw [show spI g s (n + 1) = spI g s n ||| g n from if_pos h, b_or, Bool.or_eq_true, sp_bt n (by omega) j]
      constructor
      · rintro ((a | ⟨i, hi, b, c⟩) | a)
        · exact Or.inl a
        · exact Or.inr ⟨i, by omega, b, c⟩
        · exact Or.inr ⟨n, by omega, h', a⟩
      · rintro (a | ⟨i, hi, b, c⟩)
        · exact Or.inl (Or.inl a)
        · by_cases e : i = n
          · subst e; exact Or.inr c
          · exact Or.inl (Or.inr ⟨i, by omega, b, c⟩)
    · rw [show spI g s (n + 1) = spI g s n from if_neg h, sp_bt n (by omega) j]
      constructor
      · rintro (a | ⟨i, hi, b, c⟩)
        · exact Or.inl a
        · exact Or.inr ⟨i, by omega, b, c⟩
      · rintro (a | ⟨i, hi, b, c⟩)
        · exact Or.inl a
        · by_cases e : i = n
          · subst e; exact absurd ((tb_iff (show i < 32 by omega)).mpr b) h
          · exact Or.inr ⟨i, by omega, b, c⟩
theorem ow_bt : ∀ n : Nat, n ≤ 32 → ∀ j, bt (owI g s n) j = true ↔ ∃ i, i < n ∧ bt s i = true ∧ bt (g i) j = true
  | 0, _, j => ⟨fun h => by rw [show owI g s 0 = 0 from rfl, b_0] at h; exact absurd h (by decide), fun ⟨i, hi, _⟩ => absurd hi (Nat.not_lt_zero i)⟩
  | n + 1, hn, j => by
    by_cases h : tB s (nI n)
    · have h' := (tb_iff (show n < 32 by omega)).mp h
      rw [show owI g s (n + 1) = owI g s n ||| g n from if_pos h, b_or, Bool.or_eq_true, ow_bt n (by omega) j]
      constructor
      · rintro (⟨i, hi, b, c⟩ | a)
        · exact ⟨i, by omega, b, c⟩
        · exact ⟨n, by omega, h', a⟩
      · rintro ⟨i, hi, b, c⟩
        by_cases e : i = n
        · subst e; exact Or.inr c
        · exact Or.inl ⟨i, by omega, b, c⟩
    · rw [show owI g s (n + 1) = owI g s n from if_neg h, ow_bt n (by omega) j]
      constructor
      · rintro ⟨i, hi, b, c⟩
        exact ⟨i, by omega, b, c⟩
      · rintro ⟨i, hi, b, c⟩
        by_cases e : i = n
        · subst e; exact absurd ((tb_iff (show i < 32 by omega)).mpr b) h
        · exact ⟨i, by omega, b, c⟩
end
/-- the reference's sets, its answer; the class's -/
noncomputable def SI (g : Nat → Int32) (n : Nat) (x z : Int32) : Nat → Int32
  | 0 => 1 <<< (x &&& 31)
  | k + 1 => spI g (SI g n x z k) n &&& (z ^^^ (-1))
noncomputable def fsF (S : Nat → Int32) (y : Int32) : Nat → Nat → Int32
  | 0, _ => -5
  | m + 1, k => if tB (S k) y then nI k else fsF S y m (k + 1)
noncomputable def fsR (g : Nat → Int32) (n : Nat) (x y z : Int32) : Int32 := fsF (SI g n x z) y 10 0
noncomputable def cwJ (g : Nat → Int32) (n : Nat) (x z : Int32) : Nat → Int32 × Int32
  | 0 => (1 <<< (x &&& 31), 1 <<< (x &&& 31))
  | k + 1 => ((cwJ g n x z k).1 ||| (owI g (cwJ g n x z k).2 n &&& (((cwJ g n x z k).1 ||| z) ^^^ (-1))), owI g (cwJ g n x z k).2 n &&& (((cwJ g n x z k).1 ||| z) ^^^ (-1)))
noncomputable def fwF (P : Nat → Int32 × Int32) (y : Int32) : Nat → Nat → Int32
  | 0, _ => -5
  | m + 1, k => if (P k).2 = 0 then -5 else if tB (P (k + 1)).2 y then nI (k + 1) else fwF P y m (k + 1)
noncomputable def fwR (g : Nat → Int32) (n : Nat) (x y z : Int32) : Int32 := if x = y then 0 else fwF (cwJ g n x z) y 7 0
section
variable {S : Nat → Int32} {P : Nat → Int32 × Int32} {y q q2 A : Int32} {i : Nat}
theorem fs_hit (h : A = fsF S y (10 - i) i) (hi : ¬ 10 ≤ i) (hq : q = S i) (ht : tB q y) : nI i = A := by
  rw [h, show 10 - i = (9 - i) + 1 by omega]
  subst hq
  exact (if_pos ht).symm
theorem fs_next (h : A = fsF S y (10 - i) i) (hi : ¬ 10 ≤ i) (hq : q = S i) (ht : ¬ tB q y) : A = fsF S y (10 - (i + 1)) (i + 1) := by
  rw [h, show 10 - i = (10 - (i + 1)) + 1 by omega]
  subst hq
  exact if_neg ht
theorem fs_end (h : A = fsF S y (10 - i) i) (hi : 10 ≤ i) : -5 = A := by
  rw [h, show 10 - i = 0 by omega]
  rfl
theorem fw_hit (h : A = fwF P y (8 - i) (i - 1)) (hi : 1 ≤ i ∧ i ≤ 8) (h8 : ¬ 8 ≤ i) (hn : q2 = (P (i - 1)).2) (h0 : ¬ q2 = 0) (hq : q = (P (i - 1 + 1)).2) (ht : tB q y) : nI i = A := by
  obtain ⟨k, rfl⟩ : ∃ k : Nat, i = k + 1 := ⟨i - 1, by omega⟩
  rw [Nat.add_sub_cancel] at h hn hq
  rw [h, show 8 - (k + 1) = (6 - k) + 1 by omega]
  subst hn
  subst hq
  exact ((if_neg h0).trans (if_pos ht)).symm
theorem fw_next (h : A = fwF P y (8 - i) (i - 1)) (hi : 1 ≤ i ∧ i ≤ 8) (h8 : ¬ 8 ≤ i) (hn : q2 = (P (i - 1)).2) (h0 : ¬ q2 = 0) (hq : q = (P (i - 1 + 1)).2) (ht : ¬ tB q y) : A = fwF P y (8 - (i + 1)) (i + 1 - 1) := by
  obtain ⟨k, rfl⟩ : ∃ k : Nat, i = k + 1 := ⟨i - 1, by omega⟩
  rw [Nat.add_sub_cancel] at h hn hq
  rw [h, show 8 - (k + 1) = (8 - (k + 1 + 1)) + 1 by omega, Nat.add_sub_cancel]
  subst hn
  subst hq
  exact (if_neg h0).trans (if_neg ht)
theorem fw_zero (h : A = fwF P y (8 - i) (i - 1)) (hi : 1 ≤ i ∧ i ≤ 8) (h8 : ¬ 8 ≤ i) (hn : q2 = (P (i - 1)).2) (h0 : q2 = 0) : -5 = A := by
  rw [h, show 8 - i = (7 - i) + 1 by omega]
  subst hn
  exact (if_pos h0).symm
theorem fw_end (h : A = fwF P y (8 - i) (i - 1)) (h8 : 8 ≤ i) : -5 = A := by
  rw [h, show 8 - i = 0 by omega]
  rfl
theorem fw_v {g : Nat → Int32} {n : Nat} {x z : Int32} {c : Int32} (hi : 1 ≤ i ∧ i ≤ 8) (hc : c = (cwJ g n x z (i - 1)).1) (hn : q2 = (cwJ g n x z (i - 1)).2) : owI g q2 n &&& ((c ||| z) ^^^ (-1)) = (cwJ g n x z (i - 1 + 1)).2 := by
  rw [hc, hn]
  rfl
theorem fw_w {g : Nat → Int32} {n : Nat} {x z : Int32} {c : Int32} (hi : 1 ≤ i ∧ i ≤ 8) (hc : c = (cwJ g n x z (i - 1)).1) (hn : q2 = (cwJ g n x z (i - 1)).2) : owI g q2 n &&& ((c ||| z) ^^^ (-1)) = (cwJ g n x z (i + 1 - 1)).2 := by
  rw [show i + 1 - 1 = i - 1 + 1 by omega]
  exact fw_v hi hc hn
theorem fw_c {g : Nat → Int32} {n : Nat} {x z : Int32} {c : Int32} (hi : 1 ≤ i ∧ i ≤ 8) (hc : c = (cwJ g n x z (i - 1)).1) (hn : q2 = (cwJ g n x z (i - 1)).2) : c ||| (owI g q2 n &&& ((c ||| z) ^^^ (-1))) = (cwJ g n x z (i + 1 - 1)).1 := by
  rw [show i + 1 - 1 = i - 1 + 1 by omega, hc, hn]
  rfl
theorem fs_nev : ∀ (m k : Nat), (∀ l, k ≤ l → ¬ tB (S l) y) → fsF S y m k = -5
  | 0, _, _ => rfl
  | m + 1, k, h => (if_neg (h k (Nat.le_refl k))).trans (fs_nev m (k + 1) (fun l hl => h l (by omega)))
end
/-- how many of the first n -/
noncomputable def pcN (s : Nat → Bool) : Nat → Nat
  | 0 => 0
  | i + 1 => pcN s i + (if s i = true then 1 else 0)
section
variable {s t : Nat → Bool}
theorem pc_le : ∀ n : Nat, pcN s n ≤ n
  | 0 => Nat.le_refl 0
  | n + 1 => by
    have h := pc_le n
    show pcN s n + (if s n = true then 1 else 0) ≤ n + 1
    split <;> omega
theorem pc_mono : ∀ n : Nat, (∀ j, j < n → s j = true → t j = true) → pcN s n ≤ pcN t n
  | 0, _ => Nat.le_refl 0
  | n + 1, h => by
    have h1 := pc_mono n (fun j hj => h j (by omega))
    show pcN s n + (if s n = true then 1 else 0) ≤ pcN t n + (if t n = true then 1 else 0)
    by_cases q : s n = true
    · rw [if_pos q, if_pos (h n (by omega) q)]; omega
    · rw [if_neg q]; omega
theorem pc_lt : ∀ n : Nat, (∀ j, j < n → s j = true → t j = true) → (∃ j, j < n ∧ t j = true ∧ ¬ s j = true) → pcN s n < pcN t n
  | 0, _, ⟨j, hj, _⟩ => absurd hj (Nat.not_lt_zero j)
  | n + 1, h, ⟨j, hj, h2, h3⟩ => by
    show pcN s n + (if s n = true then 1 else 0) < pcN t n + (if t n = true then 1 else 0)
    by_cases e : j = n
    · subst e
      have h1 := pc_mono (s := s) (t := t) j (fun j hj => h j (by omega))
      rw [if_neg h3, if_pos h2]; omega
    · have h1 := pc_lt n (fun j hj => h j (by omega)) ⟨j, by omega, h2, h3⟩
      by_cases q : s n = true
      · rw [if_pos q, if_pos (h n (by omega) q)]; omega
      · rw [if_neg q]; omega
theorem pc_all : ∀ n : Nat, n ≤ pcN s n → ∀ j, j < n → s j = true
  | 0, _, j, hj => absurd hj (Nat.not_lt_zero j)
  | n + 1, h, j, hj => by
    have h9 : n + 1 ≤ pcN s n + (if s n = true then 1 else 0) := h
    have hl := pc_le (s := s) n
    by_cases q : s n = true
    · rw [if_pos q] at h9
      by_cases e : j = n
      · rw [e]; exact q
      · exact pc_all n (by omega) j (by omega)
    · rw [if_neg q] at h9
      omega
theorem pc_pos : ∀ (n j : Nat), j < n → s j = true → 1 ≤ pcN s n
  | 0, j, hj, _ => absurd hj (Nat.not_lt_zero j)
  | n + 1, j, hj, h => by
    show 1 ≤ pcN s n + (if s n = true then 1 else 0)
    by_cases e : j = n
    · rw [← e, if_pos h]; omega
    · have := pc_pos n j (by omega) h
      omega
end
/-- S: what has been come to; A, N: the same by what is newest -/
noncomputable def WayH (S A N G : Nat → Nat → Bool) (Z : Nat → Bool) (n j1 : Nat) : Prop := (∀ j, j < n → (S 0 j = true ↔ j = j1)) ∧ (∀ j, j < n → (A 0 j = true ↔ j = j1)) ∧ (∀ j, j < n → (N 0 j = true ↔ j = j1)) ∧ (∀ k j, j < n → (S (k + 1) j = true ↔ (S k j = true ∨ ∃ i, i < n ∧ S k i = true ∧ G i j = true) ∧ Z j = false)) ∧ (∀ k j, j < n → (N (k + 1) j = true ↔ (∃ i, i < n ∧ N k i = true ∧ G i j = true) ∧ A k j = false ∧ Z j = false)) ∧ (∀ k j, j < n → (A (k + 1) j = true ↔ A k j = true ∨ N (k + 1) j = true)) ∧ Z j1 = false
section
variable {S A N G : Nat → Nat → Bool} {Z : Nat → Bool} {n j1 : Nat}
theorem way_inv (H : WayH S A N G Z n j1) : ∀ k : Nat, (∀ j, j < n → (A k j = true ↔ S k j = true)) ∧ (∀ j, j < n → S k j = true → Z j = false) ∧ (∀ i, i < n → ∀ j, j < n → S k i = true → ¬ N k i = true → G i j = true → Z j = false → S k j = true) ∧ (∀ j, j < n → N k j = true → S k j = true)
  | 0 => by
    obtain ⟨s0, a0, n0, sk, nk, ak, z1⟩ := H
    refine ⟨fun j hj => (a0 j hj).trans (s0 j hj).symm, fun j hj q => ?_, fun i hi j hj q q2 _ _ => ?_, fun j hj q => (s0 j hj).mpr ((n0 j hj).mp q)⟩
    · rw [(s0 j hj).mp q]; exact z1
    · exact absurd ((n0 i hi).mpr ((s0 i hi).mp q)) q2
  | k + 1 => by
    obtain ⟨a, b, c, d⟩ := way_inv H k
    obtain ⟨s0, a0, n0, sk, nk, ak, z1⟩ := H
    have hd : ∀ j, j < n → N (k + 1) j = true → S (k + 1) j = true := fun j hj q => by
      obtain ⟨⟨i, hi, q1, q2⟩, q3, q4⟩ := (nk k j hj).mp q
      exact (sk k j hj).mpr ⟨Or.inr ⟨i, hi, d i hi q1, q2⟩, q4⟩
    have hm : ∀ j, j < n → S k j = true → S (k + 1) j = true := fun j hj q => (sk k j hj).mpr ⟨Or.inl q, b j hj q⟩
    have ha : ∀ j, j < n → (A (k + 1) j = true ↔ S (k + 1) j = true) := fun j hj => by
      constructor
      · intro q
        rcases (ak k j hj).mp q with q | q
        · exact hm j hj ((a j hj).mp q)
        · exact hd j hj q
      · intro q
        apply (ak k j hj).mpr
        by_cases q1 : S k j = true
        · exact Or.inl ((a j hj).mpr q1)
        · obtain ⟨q2, q3⟩ := (sk k j hj).mp q
          rcases q2 with q2 | ⟨i, hi, q4, q5⟩
          · exact absurd q2 q1
          · by_cases q6 : N k i = true
            · refine Or.inr ((nk k j hj).mpr ⟨⟨i, hi, q6, q5⟩, ?_, q3⟩)
              cases hA : A k j with
              | false => rfl
              | true => exact absurd ((a j hj).mp hA) q1
            · exact absurd (c i hi j hj q4 q6 q5 q3) q1
    refine ⟨ha, fun j hj q => ((sk k j hj).mp q).2, fun i hi j hj q q2 q3 q4 => ?_, hd⟩
    rcases (ak k i hi).mp ((ha i hi).mpr q) with q5 | q5
    · exact (sk k j hj).mpr ⟨Or.inr ⟨i, hi, (a i hi).mp q5, q3⟩, q4⟩
    · exact absurd q5 q2
theorem way_mono (H : WayH S A N G Z n j1) (k : Nat) {j : Nat} (hj : j < n) (q : S k j = true) : S (k + 1) j = true := (H.2.2.2.1 k j hj).mpr ⟨Or.inl q, (way_inv H k).2.1 j hj q⟩
noncomputable def StB (S : Nat → Nat → Bool) (n k : Nat) : Prop := ∀ j, j < n → S (k + 1) j = true → S k j = true
theorem st_next (H : WayH S A N G Z n j1) {k : Nat} (h : StB S n k) : StB S n (k + 1) := fun j hj q => by
  obtain ⟨q1, q2⟩ := (H.2.2.2.1 (k + 1) j hj).mp q
  rcases q1 with q1 | ⟨i, hi, q3, q4⟩
  · exact q1
  · exact (H.2.2.2.1 k j hj).mpr ⟨Or.inr ⟨i, hi, h i hi q3, q4⟩, q2⟩
theorem st_more (H : WayH S A N G Z n j1) {k : Nat} (h : StB S n k) : ∀ m : Nat, StB S n (k + m)
  | 0 => h
  | m + 1 => st_next H (st_more H h m)
theorem st_all (H : WayH S A N G Z n j1) {k : Nat} (h : StB S n k) {j : Nat} (hj : j < n) : ∀ m : Nat, S (k + m) j = true → S k j = true
  | 0, q => q
  | m + 1, q => st_all H h hj m (st_more H h m j hj q)
theorem way_cnt (H : WayH S A N G Z n j1) (h1 : j1 < n) : ∀ k : Nat, (∃ k', k' < k ∧ StB S n k') ∨ k + 1 ≤ pcN (S k) n
  | 0 => Or.inr (pc_pos n j1 h1 ((H.1 j1 h1).mpr rfl))
  | k + 1 => by
    rcases way_cnt H h1 k with ⟨k', hk, h⟩ | h
    · exact Or.inl ⟨k', by omega, h⟩
    · by_cases q : StB S n k
      · exact Or.inl ⟨k, by omega, q⟩
      · have q2 : ∃ j, j < n ∧ S (k + 1) j = true ∧ ¬ S k j = true := Classical.byContradiction fun z => q (fun j hj a => Classical.byContradiction fun b => z ⟨j, hj, a, b⟩)
        have h3 := pc_lt (s := S k) (t := S (k + 1)) n (fun j hj a => way_mono H k hj a) q2
        exact Or.inr (by omega)
theorem way_7 (H : WayH S A N G Z n j1) (hn : n ≤ 8) (h1 : j1 < n) {j : Nat} (hj : j < n) (h : ¬ S 7 j = true) (m : Nat) : ¬ S (7 + m) j = true := fun q => by
  rcases way_cnt H h1 7 with ⟨k', hk, h2⟩ | h2
  · have e : 7 + m = k' + (7 - k' + m) := by omega
    rw [e] at q
    have q2 := st_all H h2 hj _ q
    have q3 : ∀ m, S (k' + m) j = true := fun m => by
      induction m with
      | zero => exact q2
      | succ m ih => exact way_mono H (k' + m) hj ih
    have q4 := q3 (7 - k')
    rw [show k' + (7 - k') = 7 by omega] at q4
    exact h q4
  · exact h (pc_all n (by omega) j hj)
end
section
variable {g h : Nat → Int32} {n j1 j2 : Nat} {z x : Int32}
theorem b_nz (z : Int32) {j : Nat} (hj : j < 32) : bt (z ^^^ (-1)) j = true ↔ bt z j = false := by
  rw [b_xor, bm_1 j hj]
  cases bt z j <;> decide
theorem S0_bt (hj1 : j1 < 32) {j : Nat} (hj : j < 32) : bt (1 <<< (nI j1 &&& 31)) j = true ↔ j = j1 := by
  rw [b_shl j1 hj1 1 hj, Bool.and_eq_true, decide_eq_true_iff]
  constructor
  · rintro ⟨a, b⟩
    by_cases q : j - j1 = 0
    · omega
    · rw [b1_z (j - j1) (by omega) q] at b
      exact absurd b (by decide)
  · rintro rfl
    exact ⟨Nat.le_refl _, by rw [Nat.sub_self]; decide⟩
theorem S1_bt (hn : n ≤ 32) {k j : Nat} (hj : j < 32) : bt (SI g n x z (k + 1)) j = true ↔ (bt (SI g n x z k) j = true ∨ ∃ i, i < n ∧ bt (SI g n x z k) i = true ∧ bt (g i) j = true) ∧ bt z j = false := by
  rw [show SI g n x z (k + 1) = spI g (SI g n x z k) n &&& (z ^^^ (-1)) from rfl, b_and, Bool.and_eq_true, sp_bt n hn j, b_nz z hj]
theorem P2_bt (hn : n ≤ 32) {k j : Nat} (hj : j < 32) : bt (cwJ h n x z (k + 1)).2 j = true ↔ (∃ i, i < n ∧ bt (cwJ h n x z k).2 i = true ∧ bt (h i) j = true) ∧ bt (cwJ h n x z k).1 j = false ∧ bt z j = false := by
  rw [show (cwJ h n x z (k + 1)).2 = owI h (cwJ h n x z k).2 n &&& (((cwJ h n x z k).1 ||| z) ^^^ (-1)) from rfl, b_and, Bool.and_eq_true, ow_bt n hn j, b_nz _ hj, b_or, Bool.or_eq_false_iff]
theorem P1_bt {k j : Nat} : bt (cwJ h n x z (k + 1)).1 j = true ↔ bt (cwJ h n x z k).1 j = true ∨ bt (cwJ h n x z (k + 1)).2 j = true := by
  rw [show (cwJ h n x z (k + 1)).1 = (cwJ h n x z k).1 ||| (cwJ h n x z (k + 1)).2 from rfl, b_or, Bool.or_eq_true]
theorem P21_bt : ∀ {k j : Nat}, bt (cwJ h n x z k).2 j = true → bt (cwJ h n x z k).1 j = true
  | 0, _, q => q
  | _ + 1, _, q => P1_bt.mpr (Or.inr q)
theorem way_of (hn : n ≤ 8) (h1 : j1 < n) (hz : bt z j1 = false) (hg : ∀ i, i < n → ∀ j, j < n → ¬ i = j → bt (h i) j = bt (g i) j) : WayH (fun k j => bt (SI g n (nI j1) z k) j) (fun k j => bt (cwJ h n (nI j1) z k).1 j) (fun k j => bt (cwJ h n (nI j1) z k).2 j) (fun i j => bt (g i) j) (fun j => bt z j) n j1 := by
  have h0 : ∀ j, j < n → (bt (1 <<< (nI j1 &&& 31)) j = true ↔ j = j1) := fun j hj => S0_bt (by omega) (by omega)
  have e1 : SI g n (nI j1) z 0 = 1 <<< (nI j1 &&& 31) := rfl
  have e2 : (cwJ h n (nI j1) z 0).1 = 1 <<< (nI j1 &&& 31) := rfl
  have e3 : (cwJ h n (nI j1) z 0).2 = 1 <<< (nI j1 &&& 31) := rfl
  refine ⟨fun j hj => ?_, fun j hj => ?_, fun j hj => ?_, fun k j hj => ?_, fun k j hj => ?_, fun k j hj => ?_, hz⟩
  · show bt (SI g n (nI j1) z 0) j = true ↔ j = j1
    rw [e1]; exact h0 j hj
  · show bt (cwJ h n (nI j1) z 0).1 j = true ↔ j = j1
    rw [e2]; exact h0 j hj
  · show bt (cwJ h n (nI j1) z 0).2 j = true ↔ j = j1
    rw [e3]; exact h0 j hj
  · exact S1_bt (g := g) (n := n) (x := nI j1) (z := z) (k := k) (j := j) (by omega) (by omega)
  · show bt (cwJ h n (nI j1) z (k + 1)).2 j = true ↔ (∃ i, i < n ∧ bt (cwJ h n (nI j1) z k).2 i = true ∧ bt (g i) j = true) ∧ bt (cwJ h n (nI j1) z k).1 j = false ∧ bt z j = false
    rw [P2_bt (by omega) (by omega)]
    have hne : ∀ i, bt (cwJ h n (nI j1) z k).2 i = true → bt (cwJ h n (nI j1) z k).1 j = false → ¬ i = j := fun i q1 q2 e => by
      subst e
      rw [P21_bt q1] at q2
      exact absurd q2 (by decide)
    constructor
    · rintro ⟨⟨i, hi, a, b⟩, c, d⟩
      exact ⟨⟨i, hi, a, by rw [← hg i hi j hj (hne i a c)]; exact b⟩, c, d⟩
    · rintro ⟨⟨i, hi, a, b⟩, c, d⟩
      exact ⟨⟨i, hi, a, by rw [hg i hi j hj (hne i a c)]; exact b⟩, c, d⟩
  · exact P1_bt (h := h) (n := n) (x := nI j1) (z := z) (k := k) (j := j)
theorem fw_go (hn : n ≤ 8) (h1 : j1 < n) (h2 : j2 < n) (hz : bt z j1 = false) (hg : ∀ i, i < n → ∀ j, j < n → ¬ i = j → bt (h i) j = bt (g i) j) : ∀ m k : Nat, m + k = 7 → ¬ bt (SI g n (nI j1) z k) j2 = true → fwF (cwJ h n (nI j1) z) (nI j2) m k = fsF (SI g n (nI j1) z) (nI j2) (m + 2) (k + 1)
  | 0, k, hk, hs => by
    have H := way_of hn h1 hz hg
    obtain rfl : k = 7 := by omega
    have h7 := way_7 H hn h1 h2 hs
    refine (fs_nev 2 8 (fun l hl t => ?_)).symm
    have q := h7 (l - 7)
    rw [show 7 + (l - 7) = l by omega] at q
    exact q ((tb_iff (by omega)).mp t)
  | m + 1, k, hk, hs => by
    have H := way_of hn h1 hz hg
    by_cases z0 : (cwJ h n (nI j1) z k).2 = 0
    · have hst : StB (fun k j => bt (SI g n (nI j1) z k) j) n k := fun j hj q => by
        have q1 := ((way_inv H (k + 1)).1 j hj).mpr q
        rcases (H.2.2.2.2.2.1 k j hj).mp q1 with q2 | q2
        · exact ((way_inv H k).1 j hj).mp q2
        · obtain ⟨⟨i, hi, q3, -⟩, -⟩ := (H.2.2.2.2.1 k j hj).mp q2
          have q4 : bt (cwJ h n (nI j1) z k).2 i = true := q3
          rw [z0, b_0] at q4
          exact absurd q4 (by decide)
      rw [show fwF (cwJ h n (nI j1) z) (nI j2) (m + 1) k = -5 from if_pos z0]
      refine (fs_nev (m + 1 + 2) (k + 1) (fun l hl t => ?_)).symm
      have q := st_all H hst h2 (l - k)
      rw [show k + (l - k) = l by omega] at q
      exact hs (q ((tb_iff (by omega)).mp t))
    · have hk2 : bt (cwJ h n (nI j1) z (k + 1)).2 j2 = true ↔ bt (SI g n (nI j1) z (k + 1)) j2 = true := by
        constructor
        · exact fun q => (way_inv H (k + 1)).2.2.2 j2 h2 q
        · intro q
          rcases (H.2.2.2.2.2.1 k j2 h2).mp (((way_inv H (k + 1)).1 j2 h2).mpr q) with q2 | q2
          · exact absurd (((way_inv H k).1 j2 h2).mp q2) hs
          · exact q2
      rw [show fwF (cwJ h n (nI j1) z) (nI j2) (m + 1) k = if tB (cwJ h n (nI j1) z (k + 1)).2 (nI j2) then nI (k + 1) else fwF (cwJ h n (nI j1) z) (nI j2) m (k + 1) from if_neg z0, show fsF (SI g n (nI j1) z) (nI j2) (m + 1 + 2) (k + 1) = if tB (SI g n (nI j1) z (k + 1)) (nI j2) then nI (k + 1) else fsF (SI g n (nI j1) z) (nI j2) (m + 2) (k + 1 + 1) from rfl]
      by_cases t : bt (SI g n (nI j1) z (k + 1)) j2 = true
      · rw [if_pos ((tb_iff (by omega)).mpr (hk2.mpr t)), if_pos ((tb_iff (by omega)).mpr t)]
      · rw [if_neg (fun q => t (hk2.mp ((tb_iff (by omega)).mp q))), if_neg (fun q => t ((tb_iff (by omega)).mp q))]
        exact fw_go hn h1 h2 hz hg m (k + 1) (by omega) t
/-- both find the same -/
theorem fw_fs (hn : n ≤ 8) (h1 : j1 < n) (h2 : j2 < n) (hz : bt z j1 = false) (hg : ∀ i, i < n → ∀ j, j < n → ¬ i = j → bt (h i) j = bt (g i) j) : fwR h n (nI j1) (nI j2) z = fsR g n (nI j1) (nI j2) z := by
  by_cases e : j1 = j2
  · subst e
    rw [fwR, if_pos rfl, fsR]
    exact (if_pos ((tb_iff (by omega)).mpr ((S0_bt (by omega) (by omega)).mpr rfl))).symm
  · have hs : ¬ bt (SI g n (nI j1) z 0) j2 = true := fun q => e ((S0_bt (by omega) (by omega)).mp q).symm
    rw [fwR, if_neg (fun q => e ((nI_eq (by omega) (by omega)).mp q)), fw_go hn h1 h2 hz hg 7 0 (by omega) hs, fsR]
    exact (if_neg (fun t => hs ((tb_iff (by omega)).mp t))).symm
end
/-! which heap one goes to from which -/
noncomputable def rwR (x : Int32) : Int32 := if x = 7 then -1 else if 2 ≤ x then (if x ≤ 2 then 0 else if 6 ≤ x then 0 else 1) else -1
noncomputable def clR (x : Int32) : Int32 := if x < 1 ∨ 3 < x then (if x ≤ 4 then 0 else -1) else 1
noncomputable def sdR (x y z : Int32) : Prop := x = 0 ∨ (x < 0 ∧ z < y) ∨ (0 < x ∧ y < z)
section
variable {x y z : Int32}
theorem rw_a (h : x = 7) : -1 = rwR x := by rw [rwR, if_pos h]
theorem rw_b (h : ¬ x = 7) (h2 : ¬ 2 ≤ x) : -1 = rwR x := by rw [rwR, if_neg h, if_neg h2]
theorem rw_c (h : ¬ x = 7) (h2 : 2 ≤ x) (h3 : x ≤ 2) : 0 = rwR x := by rw [rwR, if_neg h, if_pos h2, if_pos h3]
theorem rw_d (h : ¬ x = 7) (h2 : 2 ≤ x) (h3 : ¬ x ≤ 2) (h4 : 6 ≤ x) : 0 = rwR x := by rw [rwR, if_neg h, if_pos h2, if_neg h3, if_pos h4]
theorem rw_e (h : ¬ x = 7) (h2 : 2 ≤ x) (h3 : ¬ x ≤ 2) (h4 : ¬ 6 ≤ x) : 1 = rwR x := by rw [rwR, if_neg h, if_pos h2, if_neg h3, if_neg h4]
theorem cl_a (h : ¬ x < 1) (h2 : ¬ 3 < x) : 1 = clR x := by rw [clR, if_neg (show ¬ (x < 1 ∨ 3 < x) from fun q => q.elim h h2)]
theorem cl_b (h : x < 1 ∨ 3 < x) (h2 : x ≤ 4) : 0 = clR x := by rw [clR, if_pos h, if_pos h2]
theorem cl_c (h : x < 1 ∨ 3 < x) (h2 : ¬ x ≤ 4) : -1 = clR x := by rw [clR, if_pos h, if_neg h2]
theorem sd_a (h : x = 0) : sdR x y z := Or.inl h
theorem sd_b (h : ¬ 0 ≤ x) (h2 : z < y) : sdR x y z := Or.inr (Or.inl ⟨Int32.not_le.mp h, h2⟩)
theorem sd_c (h : ¬ x ≤ 0) (h2 : ¬ z ≤ y) : sdR x y z := Or.inr (Or.inr ⟨Int32.not_le.mp h, Int32.not_le.mp h2⟩)
theorem sd_f (h : ¬ x = 0) (h1 : 0 ≤ x ∨ ¬ z < y) (h2 : x ≤ 0 ∨ z ≤ y) : ¬ sdR x y z := by
  rintro (q | ⟨q1, q2⟩ | ⟨q1, q2⟩)
  · exact h q
  · exact h1.elim (fun a => absurd q1 (Int32.not_lt.mpr a)) (fun a => a q2)
  · exact h2.elim (fun a => absurd q1 (Int32.not_lt.mpr a)) (fun a => absurd q2 (Int32.not_lt.mpr a))
end
/-- a heap of kind 4 looks that way -/
noncomputable def ldP (v c x : Int32) : Prop := sdR (rwR (v - v / 8 * 8)) (c / 6) (x / 6) ∧ sdR (clR (v - v / 8 * 8)) (c - c / 6 * 6) (x - x / 6 * 6)
/-- from one of kind k, number v, cell c to one on cell cb that is seen so far as r -/
noncomputable def goV (k v c cb r : Int32) : Prop := ¬ k = 3 ∧ ¬ k = 6 ∧ ¬ r < apR c cb ∧ (k = 4 → ldP v c cb)
noncomputable def goP (C : List pCla) (mi sn : Int32) (yk yv yc : Nat → Int32) (a b : Nat) : Prop := ¬ a = b ∧ goV (yk a) (yv a) (yc a) (yc b) (RV C mi sn b (yk b) (yv b) (yc b))
theorem goP_cg {C : List pCla} {mi sn : Int32} {yk yv yc zk zv zc : Nat → Int32} {a b : Nat} (ka : yk a = zk a) (va : yv a = zv a) (ca : yc a = zc a) (kb : yk b = zk b) (vb : yv b = zv b) (cb : yc b = zc b) : goP C mi sn yk yv yc a b ↔ goP C mi sn zk zv zc a b := by
  unfold goP
  rw [ka, va, ca, kb, vb, cb]
/-- the reference's -/
noncomputable def goF (f : Nat → Int32) (C : List pCla) (a b : Nat) : Prop := goP C (f 6) (f 7) (fun k => f (10 + k)) (fun k => f (19 + k)) (fun k => f (28 + k)) a b
section
variable {f : Nat → Int32} {C : List pCla} {a b : Nat}
theorem go_eq (h : a = b) : ¬ goF f C a b := fun q => q.1 h
theorem go_3 (h : f (10 + a) = 3) : ¬ goF f C a b := fun q => q.2.1 h
theorem go_6 (h : f (10 + a) = 6) : ¬ goF f C a b := fun q => q.2.2.1 h
theorem go_un (h : RR f C b < apR (f (28 + a)) (f (28 + b))) : ¬ goF f C a b := fun q => q.2.2.2.1 h
theorem go_yes (h1 : ¬ a = b) (h2 : ¬ f (10 + a) = 3) (h3 : ¬ f (10 + a) = 6) (h4 : ¬ RR f C b < apR (f (28 + a)) (f (28 + b))) (h5 : ¬ f (10 + a) = 4) : goF f C a b := ⟨h1, h2, h3, h4, fun q => absurd q h5⟩
theorem go_yes4 (h1 : ¬ a = b) (h2 : ¬ f (10 + a) = 3) (h3 : ¬ f (10 + a) = 6) (h4 : ¬ RR f C b < apR (f (28 + a)) (f (28 + b))) (h6 : sdR (rwR (f (19 + a) - f (19 + a) / 8 * 8)) (f (28 + a) / 6) (f (28 + b) / 6)) (h7 : sdR (clR (f (19 + a) - f (19 + a) / 8 * 8)) (f (28 + a) - f (28 + a) / 6 * 6) (f (28 + b) - f (28 + b) / 6 * 6)) : goF f C a b := ⟨h1, h2, h3, h4, fun _ => ⟨h6, h7⟩⟩
theorem go_r (h5 : f (10 + a) = 4) (h6 : ¬ sdR (rwR (f (19 + a) - f (19 + a) / 8 * 8)) (f (28 + a) / 6) (f (28 + b) / 6)) : ¬ goF f C a b := fun q => h6 (q.2.2.2.2 h5).1
theorem go_c (h5 : f (10 + a) = 4) (h6 : ¬ sdR (clR (f (19 + a) - f (19 + a) / 8 * 8)) (f (28 + a) - f (28 + a) / 6 * 6) (f (28 + b) - f (28 + b) / 6 * 6)) : ¬ goF f C a b := fun q => h6 (q.2.2.2.2 h5).2
end
noncomputable def gbI (P : Nat → Prop) : Nat → Int32
  | 0 => 0
  | b + 1 => @ite Int32 (P b) (Classical.propDecidable _) (gbI P b ||| (1 <<< (nI b &&& 31))) (gbI P b)
section
variable {P Q : Nat → Prop} {q : Int32} {i n : Nat}
theorem gb_t (h : q = gbI P i) (h2 : P i) : q ||| (1 <<< (nI i &&& 31)) = gbI P (i + 1) := by
  rw [h]
  exact (@if_pos _ (Classical.propDecidable _) h2 _ _ _).symm
theorem gb_f (h : q = gbI P i) (h2 : ¬ P i) : q ||| 0 = gbI P (i + 1) := by
  rw [h, Int32.or_zero]
  exact (@if_neg _ (Classical.propDecidable _) h2 _ _ _).symm
theorem gb_cg : ∀ n : Nat, (∀ i, i < n → (P i ↔ Q i)) → gbI P n = gbI Q n
  | 0, _ => rfl
  | n + 1, h => by
    have e := gb_cg n (fun i hi => h i (by omega))
    by_cases q : Q n
    · rw [← gb_t rfl q, ← gb_t rfl ((h n (by omega)).mpr q), e]
    · rw [← gb_f rfl q, ← gb_f rfl (fun z => q ((h n (by omega)).mp z)), e]
theorem gb_bt : ∀ n : Nat, n ≤ 32 → ∀ j, j < 32 → (bt (gbI P n) j = true ↔ j < n ∧ P j)
  | 0, _, j, _ => ⟨fun h => by rw [show gbI P 0 = 0 from rfl, b_0] at h; exact absurd h (by decide), fun h => absurd h.1 (Nat.not_lt_zero j)⟩
  | n + 1, hn, j, hj => by
    by_cases q : P n
    · rw [← gb_t rfl q, b_or, Bool.or_eq_true, gb_bt n (by omega) j hj, S0_bt (by omega) hj]
      constructor
      · rintro (⟨a, b⟩ | a)
        · exact ⟨by omega, b⟩
        · subst a; exact ⟨by omega, q⟩
      · rintro ⟨a, b⟩
        by_cases e : j = n
        · exact Or.inr e
        · exact Or.inl ⟨by omega, b⟩
    · rw [← gb_f rfl q, Int32.or_zero, gb_bt n (by omega) j hj]
      constructor
      · rintro ⟨a, b⟩
        exact ⟨by omega, b⟩
      · rintro ⟨a, b⟩
        by_cases e : j = n
        · subst e; exact absurd b q
        · exact ⟨by omega, b⟩
end
/-- all rows -/
noncomputable def gRow (n : Nat) (yk yv yc : Nat → Int32) (C : List pCla) (mi sn : Int32) (a : Nat) : Int32 := gbI (goP C mi sn yk yv yc a) n
section
variable {g h : Nat → Int32} {n : Nat} {s x y z : Int32}
theorem spI_cg : ∀ m : Nat, (∀ i, i < m → g i = h i) → spI g s m = spI h s m
  | 0, _ => rfl
  | m + 1, e => by
    show (if tB s (nI m) then spI g s m ||| g m else spI g s m) = (if tB s (nI m) then spI h s m ||| h m else spI h s m)
    rw [spI_cg m (fun i hi => e i (by omega)), e m (by omega)]
theorem SI_cg (e : ∀ i, i < n → g i = h i) : ∀ k : Nat, SI g n x z k = SI h n x z k
  | 0 => rfl
  | k + 1 => by
    show spI g (SI g n x z k) n &&& (z ^^^ (-1)) = spI h (SI h n x z k) n &&& (z ^^^ (-1))
    rw [SI_cg e k, spI_cg n e]
theorem fsR_cg (e : ∀ i, i < n → g i = h i) : fsR g n x y z = fsR h n x y z := by
  rw [fsR, fsR, show SI g n x z = SI h n x z from funext (SI_cg e)]
end
theorem go_up {g F : Nat → Int32} {i : Nat} (h : ∀ k, k < i → g k = F k) (h2 : g i = F i) : ∀ k, k < i + 1 → g k = F k := fun k hk => by
  by_cases e : k = i
  · subst e; exact h2
  · exact h k (by omega)
theorem gb_e {P : Nat → Prop} {q : Int32} {i n : Nat} (h : q = gbI P i) (e : i = n) : q = gbI P n := e ▸ h
/-- of two heaps -/
noncomputable def twR (n : Nat) (x y A : Int32) : Int32 := @ite Int32 (hh n x ∧ hh n y) (Classical.propDecidable _) A (-1)
noncomputable def stR_ (n : Nat) (yk yv yc : Nat → Int32) (C : List pCla) (mi sn x y : Int32) : Int32 := twR n x y (fsR (gRow n yk yv yc C mi sn) n (nI x.toNatClampNeg) (nI y.toNatClampNeg) 0)
section
variable {n i : Nat} {f yk yv yc g h : Nat → Int32} {C : List pCla} {mi sn x y q A B : Int32}
theorem two_no1 (h : ∀ j : Nat, j < n → x ≠ nI j) : -1 = twR n x y A := (@if_neg _ (Classical.propDecidable _) (fun q => hh_no h q.1) _ _ _).symm
theorem two_no2 (h : ∀ j : Nat, j < n → y ≠ nI j) : -1 = twR n x y A := (@if_neg _ (Classical.propDecidable _) (fun q => hh_no h q.2) _ _ _).symm
theorem two_yes {j1 j2 : Nat} (h1 : j1 < n) (h2 : j2 < n) : twR n (nI j1) (nI j2) A = A := @if_pos _ (Classical.propDecidable _) ⟨hh_yes h1, hh_yes h2⟩ _ _ _
theorem row_m (hg : ∀ k, k < n → g k = gbI (goF f C k) n) (zk : ∀ k, k < n → f (10 + k) = yk k) (zv : ∀ k, k < n → f (19 + k) = yv k) (zc : ∀ k, k < n → f (28 + k) = yc k) (zm : f 6 = mi) (zs : f 7 = sn) : ∀ k, k < n → g k = gRow n yk yv yc C mi sn k := fun k hk => by
  rw [hg k hk, gRow]
  refine gb_cg n (fun b hb => ?_)
  rw [goF, zm, zs]
  exact goP_cg (zk k hk) (zv k hk) (zc k hk) (zk b hb) (zv b hb) (zc b hb)
end
/-- the first of which P holds -/
noncomputable def fiF (P : Nat → Prop) : Nat → Nat → Int32
  | 0, _ => -5
  | m + 1, i => @ite Int32 (P i) (Classical.propDecidable _) (nI i) (fiF P m (i + 1))
section
variable {P Q : Nat → Prop} {A : Int32} {n i : Nat}
theorem fi_next (h : A = fiF P (n - i) i) (hi : ¬ n ≤ i) (hp : ¬ P i) : A = fiF P (n - (i + 1)) (i + 1) := by
  rw [h, show n - i = (n - (i + 1)) + 1 by omega]
  exact @if_neg _ (Classical.propDecidable _) hp _ _ _
theorem fi_hit (h : A = fiF P (n - i) i) (hi : ¬ n ≤ i) (hp : P i) : A = nI i := by
  rw [h, show n - i = (n - (i + 1)) + 1 by omega]
  exact @if_pos _ (Classical.propDecidable _) hp _ _ _
theorem fi_end (h : A = fiF P (n - i) i) (hi : n ≤ i) : A = -5 := by
  rw [h, show n - i = 0 by omega]
  rfl
theorem fi_cg : ∀ m i : Nat, (∀ k, i ≤ k → k < i + m → (P k ↔ Q k)) → fiF P m i = fiF Q m i
  | 0, _, _ => rfl
  | m + 1, i, h => by
    have e := fi_cg m (i + 1) (fun k h1 h2 => h k (by omega) (by omega))
    by_cases q : Q i
    · rw [show fiF P (m + 1) i = nI i from @if_pos _ (Classical.propDecidable _) ((h i (by omega) (by omega)).mpr q) _ _ _, show fiF Q (m + 1) i = nI i from @if_pos _ (Classical.propDecidable _) q _ _ _]
    · rw [show fiF P (m + 1) i = fiF P m (i + 1) from @if_neg _ (Classical.propDecidable _) (fun z => q ((h i (by omega) (by omega)).mp z)) _ _ _, show fiF Q (m + 1) i = fiF Q m (i + 1) from @if_neg _ (Classical.propDecidable _) q _ _ _, e]
end
noncomputable def viP (g : Nat → Int32) (n j : Nat) (y : Int32) (i : Nat) : Prop := tB (g j) (nI i) ∧ fsR g n (nI i) y 0 = fsR g n (nI j) y 0 - 1
noncomputable def viR (g : Nat → Int32) (n j : Nat) (y : Int32) : Int32 := if fsR g n (nI j) y 0 ≤ 0 then -5 else fiF (viP g n j y) n 0
noncomputable def viR_ (n : Nat) (yk yv yc : Nat → Int32) (C : List pCla) (mi sn x y : Int32) : Int32 := twR n x y (viR (gRow n yk yv yc C mi sn) n x.toNatClampNeg (nI y.toNatClampNeg))
section
variable {g h : Nat → Int32} {n j i : Nat} {y q A : Int32} {V : Nat → Prop}
theorem vi_0 (h : fsR g n (nI j) y 0 ≤ 0) : -5 = viR g n j y := (if_pos h).symm
theorem vi_5 (hV : V = viP g n j y) (hA : A = fiF V n 0) (h : A = -5) : -5 = viR g n j y := by
  rw [viR, ← hV, ← hA, h]
  split
  · rfl
  · rfl
theorem vi_h (hV : V = viP g n j y) (hA : A = fiF V n 0) (h0 : ¬ fsR g n (nI j) y 0 ≤ 0) (h : A = q) : q = viR g n j y := by
  rw [viR, ← hV, ← hA, h, if_neg h0]
theorem viR_cg (hj : j < n) (e : ∀ k, k < n → g k = h k) : viR g n j y = viR h n j y := by
  rw [viR, viR, fsR_cg e]
  by_cases q : fsR h n (nI j) y 0 ≤ 0
  · rw [if_pos q, if_pos q]
  · rw [if_neg q, if_neg q]
    exact fi_cg n 0 (fun k _ hk => by rw [viP, viP, fsR_cg e, fsR_cg e, e j hj])
end
noncomputable def cuP (g : Nat → Int32) (n j1 j2 i : Nat) : Prop := ¬ i = j1 ∧ ¬ i = j2 ∧ fsR g n (nI j1) (nI j2) (1 <<< (nI i &&& 31)) = -5
noncomputable def cuR (g : Nat → Int32) (n j1 j2 : Nat) : Int32 := if fsR g n (nI j1) (nI j2) 0 = -5 then 0 else gbI (cuP g n j1 j2) n
noncomputable def cuR_ (n : Nat) (yk yv yc : Nat → Int32) (C : List pCla) (mi sn x y : Int32) : Int32 := twR n x y (cuR (gRow n yk yv yc C mi sn) n x.toNatClampNeg y.toNatClampNeg)
section
variable {g h : Nat → Int32} {n j1 j2 i : Nat} {q : Int32} {P : Nat → Prop} {B : Nat → Int32}
theorem cu_t (hB : B = gbI P) (h : q = B i) (h2 : P i) : q ||| (1 <<< (nI i &&& 31)) = B (i + 1) := by
  rw [hB] at h ⊢
  exact gb_t h h2
theorem cu_f (hB : B = gbI P) (h : q = B i) (h2 : ¬ P i) : q ||| 0 = B (i + 1) := by
  rw [hB] at h ⊢
  exact gb_f h h2
theorem cu_s (hB : B = gbI P) (h : q = B i) (h2 : ¬ P i) : q = B (i + 1) := (Int32.or_zero (a := q)).symm.trans (cu_f hB h h2)
theorem cu_0 (h : fsR g n (nI j1) (nI j2) 0 = -5) : 0 = cuR g n j1 j2 := (if_pos h).symm
theorem cu_n (h : ¬ fsR g n (nI j1) (nI j2) 0 = -5) (hB : B = gbI (cuP g n j1 j2)) (hq : q = B i) (e : i = n) : q = cuR g n j1 j2 := by
  rw [cuR, if_neg h, hq, hB, e]
theorem cuR_cg (e : ∀ k, k < n → g k = h k) : cuR g n j1 j2 = cuR h n j1 j2 := by
  rw [cuR, cuR, fsR_cg e]
  by_cases q : fsR h n (nI j1) (nI j2) 0 = -5
  · rw [if_pos q, if_pos q]
  · rw [if_neg q, if_neg q]
    exact gb_cg n (fun k hk => by rw [cuP, cuP, fsR_cg e])
end
/-- the last of which P holds -/
noncomputable def beF (P : Nat → Prop) : Nat → Int32
  | 0 => -5
  | i + 1 => @ite Int32 (P i) (Classical.propDecidable _) (nI i) (beF P i)
section
variable {P : Nat → Prop} {B : Nat → Int32} {i m : Nat} {q A : Int32}
theorem be_y (hB : B = beF P) (h : q = B i) (h2 : P i) : nI i = B (i + 1) := by
  rw [hB]
  exact (@if_pos _ (Classical.propDecidable _) h2 _ _ _).symm
theorem be_n (hB : B = beF P) (h : q = B i) (h2 : ¬ P i) : q = B (i + 1) := by
  rw [h, hB]
  exact (@if_neg _ (Classical.propDecidable _) h2 _ _ _).symm
theorem be_e (hB : B = beF P) (h : q = B i) (e : i = m) : q = beF P m := by rw [h, hB, e]
/-- from the top down -/
theorem be_dn (h : A = beF P (i + 1)) (h2 : ¬ P i) : A = beF P i := h.trans (@if_neg _ (Classical.propDecidable _) h2 _ _ _)
theorem be_up (h : A = beF P (i + 1)) (h2 : P i) : nI i = A := (h.trans (@if_pos _ (Classical.propDecidable _) h2 _ _ _)).symm
theorem be_z (h : A = beF P 0) : -5 = A := h.symm
end
noncomputable def beR_ (n : Nat) (yk yv yc : Nat → Int32) (C : List pCla) (mi x y : Int32) : Int32 := twR n x y (beF (fun k => ¬ fsR (gRow n yk yv yc C mi (nI k)) n (nI x.toNatClampNeg) (nI y.toNatClampNeg) 0 = -5) 10)
section
variable {n j1 j2 : Nat} {yk yv yc g : Nat → Int32} {C : List pCla} {mi sn q : Int32}
theorem st_m (hn : n ≤ 8) (h1 : j1 < n) (h2 : j2 < n) (e : ∀ k, k < n → g k = gRow n yk yv yc C mi sn k) : fsR g n (nI j1) (nI j2) 0 = stR_ n yk yv yc C mi sn (nI j1) (nI j2) := by
  rw [stR_, two_yes h1 h2, nI_clamp (by omega), nI_clamp (by omega)]
  exact fsR_cg e
theorem vi_m (hn : n ≤ 8) (h1 : j1 < n) (h2 : j2 < n) (e : ∀ k, k < n → g k = gRow n yk yv yc C mi sn k) (hq : q = viR g n j1 (nI j2)) : q = viR_ n yk yv yc C mi sn (nI j1) (nI j2) := by
  rw [viR_, two_yes h1 h2, nI_clamp (by omega), nI_clamp (by omega), hq]
  exact viR_cg h1 e
theorem cu_m (hn : n ≤ 8) (h1 : j1 < n) (h2 : j2 < n) (e : ∀ k, k < n → g k = gRow n yk yv yc C mi sn k) (hq : q = cuR g n j1 j2) : q = cuR_ n yk yv yc C mi sn (nI j1) (nI j2) := by
  rw [cuR_, two_yes h1 h2, nI_clamp (by omega), nI_clamp (by omega), hq]
  exact cuR_cg e
theorem be_m (hn : n ≤ 8) (h1 : j1 < n) (h2 : j2 < n) (hq : q = beF (fun k => ¬ fsR (gRow n yk yv yc C mi (nI k)) n (nI j1) (nI j2) 0 = -5) 10) : q = beR_ n yk yv yc C mi (nI j1) (nI j2) := by
  rw [beR_, two_yes h1 h2, nI_clamp (by omega), nI_clamp (by omega)]
  exact hq
end
/-! the class's rows -/
theorem ld_v : ∀ v : Nat, v < 10 → rwR (nI v - nI v / 8 * 8) = fDown (v % 8) ∧ clR (nI v - nI v / 8 * 8) = fRight (v % 8) := by decide +kernel
theorem ld_6 : ∀ k : Nat, k < 36 → nI k / 6 = nI (k / 6) ∧ nI k - nI k / 6 * 6 = nI (k % 6) := by decide +kernel
theorem ld_s1 : ∀ a : Nat, a < 6 → ∀ b : Nat, b < 6 → (0 < (1 : Int32) * (nI b - nI a) ↔ nI a < nI b) := by decide +kernel
theorem ld_sm : ∀ a : Nat, a < 6 → ∀ b : Nat, b < 6 → (0 < (-1 : Int32) * (nI b - nI a) ↔ nI b < nI a) := by decide +kernel
theorem ld_w : ∀ w : Nat, w < 8 → (fDown w = 0 ∨ fDown w = 1 ∨ fDown w = -1) ∧ (fRight w = 0 ∨ fRight w = 1 ∨ fRight w = -1) := by decide +kernel
theorem ld_g {s : Int32} {a b : Nat} (hs : s = 0 ∨ s = 1 ∨ s = -1) (ha : a < 6) (hb : b < 6) : (s = 0 ∨ 0 < s * (nI b - nI a)) ↔ sdR s (nI a) (nI b) := by
  rcases hs with rfl | rfl | rfl
  · exact ⟨fun _ => Or.inl rfl, fun _ => Or.inl rfl⟩
  · rw [ld_s1 a ha b hb]
    exact ⟨fun z => z.elim (fun e => absurd e (by decide)) (fun q => Or.inr (Or.inr ⟨by decide, q⟩)), fun z => z.elim (fun e => absurd e (by decide)) (fun z => z.elim (fun q => absurd q.1 (by decide)) (fun q => Or.inr q.2))⟩
  · rw [ld_sm a ha b hb]
    exact ⟨fun z => z.elim (fun e => absurd e (by decide)) (fun q => Or.inr (Or.inl ⟨by decide, q⟩)), fun z => z.elim (fun e => absurd e (by decide)) (fun z => z.elim (fun q => Or.inr q.2) (fun q => absurd q.1 (by decide)))⟩
section
variable {v : Nat} {c x : Int32}
theorem ld_r (hv : v ≤ 9) (hc : ∃ k : Nat, k < 36 ∧ c = nI k) (hx : ∃ k : Nat, k < 36 ∧ x = nI k) : (fDown (v % 8) = 0 ∨ 0 < fDown (v % 8) * (x / 6 - c / 6)) ↔ sdR (rwR (nI v - nI v / 8 * 8)) (c / 6) (x / 6) := by
  obtain ⟨k, hk, rfl⟩ := hc
  obtain ⟨m, hm, rfl⟩ := hx
  rw [(ld_v v (by omega)).1, (ld_6 k hk).1, (ld_6 m hm).1]
  exact ld_g (ld_w (v % 8) (Nat.mod_lt _ (by decide))).1 (by omega) (by omega)
theorem ld_c (hv : v ≤ 9) (hc : ∃ k : Nat, k < 36 ∧ c = nI k) (hx : ∃ k : Nat, k < 36 ∧ x = nI k) : (fRight (v % 8) = 0 ∨ 0 < fRight (v % 8) * (x - x / 6 * 6 - (c - c / 6 * 6))) ↔ sdR (clR (nI v - nI v / 8 * 8)) (c - c / 6 * 6) (x - x / 6 * 6) := by
  obtain ⟨k, hk, rfl⟩ := hc
  obtain ⟨m, hm, rfl⟩ := hx
  rw [(ld_v v (by omega)).2, (ld_6 k hk).2, (ld_6 m hm).2]
  exact ld_g (ld_w (v % 8) (Nat.mod_lt _ (by decide))).2 (Nat.mod_lt _ (by decide)) (Nat.mod_lt _ (by decide))
end
/-- q9 is q with its bit j as G says -/
noncomputable def tgB (G : Prop) (q : Int32) (j : Nat) (q9 : Int32) : Prop := ∀ b : Nat, b < 32 → (bt q9 b = true ↔ (b = j ∧ G) ∨ (¬ b = j ∧ bt q b = true))
noncomputable def goK (R yk yv yc : Nat → Int32) (a b : Nat) : Prop := ¬ a = b ∧ goV (yk a) (yv a) (yc a) (yc b) (R b)
section
variable {G : Prop} {q q9 k v c cb r : Int32} {j a b : Nat}
theorem tgB_t (hj : j < 32) (h : G) : tgB G q j (q ||| (1 <<< (nI j &&& 31))) := fun b hb => by
  rw [b_or, Bool.or_eq_true, S0_bt hj hb]
  constructor
  · rintro (z | z)
    · by_cases e : b = j
      · exact Or.inl ⟨e, h⟩
      · exact Or.inr ⟨e, z⟩
    · exact Or.inl ⟨z, h⟩
  · rintro (⟨z, _⟩ | ⟨_, z⟩)
    · exact Or.inr z
    · exact Or.inl z
theorem tgB_f (hj : j < 32) (h : ¬ G) : tgB G q j (q &&& ((1 <<< (nI j &&& 31)) ^^^ (-1))) := fun b hb => by
  rw [b_and, Bool.and_eq_true, b_nz _ hb]
  have e0 : bt (1 <<< (nI j &&& 31)) b = false ↔ ¬ b = j := by
    constructor
    · intro z e
      rw [(S0_bt hj hb).mpr e] at z
      exact absurd z (by decide)
    · intro e
      cases hq : bt (1 <<< (nI j &&& 31)) b with
      | false => rfl
      | true => exact absurd ((S0_bt hj hb).mp hq) e
  rw [e0]
  constructor
  · rintro ⟨z1, z2⟩
    exact Or.inr ⟨z2, z1⟩
  · rintro (⟨_, z⟩ | ⟨z1, z2⟩)
    · exact absurd z h
    · exact ⟨z2, z1⟩
theorem tg_up {K : Nat → Prop} (h : ∀ b, b < j → (bt q b = true ↔ K b)) (hq : tgB (K j) q j q9) (hj : j < 32) : ∀ b, b < j + 1 → (bt q9 b = true ↔ K b) := fun b hb => by
  rw [hq b (by omega)]
  by_cases e : b = j
  · subst e
    constructor
    · rintro (⟨_, z⟩ | ⟨z, _⟩)
      · exact z
      · exact absurd rfl z
    · exact fun z => Or.inl ⟨rfl, z⟩
  · rw [← h b (by omega)]
    constructor
    · rintro (⟨z, _⟩ | ⟨_, z⟩)
      · exact absurd z e
      · exact z
    · exact fun z => Or.inr ⟨e, z⟩
theorem tg_at (hq : tgB G q j q9) (hj : j < 32) : bt q9 j = true ↔ G := by
  rw [hq j hj]
  constructor
  · rintro (⟨_, z⟩ | ⟨z, _⟩)
    · exact z
    · exact absurd rfl z
  · exact fun z => Or.inl ⟨rfl, z⟩
theorem tg_off (hq : tgB G q j q9) (hb : b < 32) (e : ¬ b = j) : bt q9 b = true ↔ bt q b = true := by
  rw [hq b hb]
  constructor
  · rintro (⟨z, _⟩ | ⟨_, z⟩)
    · exact absurd z e
    · exact z
  · exact fun z => Or.inr ⟨e, z⟩
theorem gv_y (h : ¬ r < apR c cb) (hk : k = 0 ∨ k = 1 ∨ k = 2 ∨ k = 5) : goV k v c cb r := by
  refine ⟨?_, ?_, h, fun z => ?_⟩
  · rcases hk with e | e | e | e <;> rw [e] <;> decide
  · rcases hk with e | e | e | e <;> rw [e] <;> decide
  · rcases hk with e | e | e | e <;> rw [e] at z <;> exact absurd z (by decide)
theorem gv_4 (h : ¬ r < apR c cb) (hk : k = 4) (hd : ldP v c cb) : goV k v c cb r := ⟨by rw [hk]; decide, by rw [hk]; decide, h, fun _ => hd⟩
theorem gv_far (h : r < apR c cb) : ¬ goV k v c cb r := fun z => z.2.2.1 h
theorem gv_3 (hk : k = 3) : ¬ goV k v c cb r := fun z => z.1 hk
theorem gv_6 (hk : k = 6) : ¬ goV k v c cb r := fun z => z.2.1 hk
theorem gv_4n (hk : k = 4) (hd : ¬ ldP v c cb) : ¬ goV k v c cb r := fun z => hd (z.2.2.2 hk)
end
/-- all rows, but for what a row says of itself -/
noncomputable def rwB (h : Nat → Int32) (n : Nat) (P : Nat → Nat → Prop) : Prop := ∀ i, i < n → ∀ j, j < n → ¬ i = j → (bt (h i) j = true ↔ P i j)
noncomputable def rwF (h : Nat → Int32) (n : Nat) (P : Nat → Nat → Prop) : Prop := ∀ i, i < n → ∀ j, j < n → (bt (h i) j = true ↔ P i j)
section
variable {h R yk yv yc : Nat → Int32} {n j1 j2 : Nat} {C : List pCla} {mi sn z x : Int32} {P : Nat → Nat → Prop}
theorem rwF.B (hr : rwF h n P) : rwB h n P := fun i hi j hj _ => hr i hi j hj
theorem fw_row (hn : n ≤ 8) (h1 : j1 < n) (h2 : j2 < n) (hz : bt z j1 = false) (hr : rwB h n (goP C mi sn yk yv yc)) : fwR h n (nI j1) (nI j2) z = fsR (gRow n yk yv yc C mi sn) n (nI j1) (nI j2) z :=
  fw_fs hn h1 h2 hz (fun i hi j hj e => by
    have q1 := hr i hi j hj e
    have q2 := gb_bt (P := goP C mi sn yk yv yc i) n (by omega) j (by omega)
    have q3 : bt (h i) j = true ↔ bt (gRow n yk yv yc C mi sn i) j = true := q1.trans ⟨fun z9 => q2.mpr ⟨hj, z9⟩, fun z9 => (q2.mp z9).2⟩
    cases ha : bt (h i) j with
    | true => exact (q3.mp ha).symm
    | false =>
      cases hb : bt (gRow n yk yv yc C mi sn i) j with
      | false => rfl
      | true => rw [q3.mpr hb] at ha; exact absurd ha (by decide))
theorem row_k (hR : ∀ k0, k0 < n → R k0 = RV C mi sn k0 (yk k0) (yv k0) (yc k0)) (hr : rwF h n (goK R yk yv yc)) : rwF h n (goP C mi sn yk yv yc) := fun i hi j hj => by
  rw [hr i hi j hj, goK, goP, hR j hj]
end
/-- the class's answers by its rows -/
noncomputable def vxP (h : Nat → Int32) (n j : Nat) (y : Int32) (i : Nat) : Prop := tB (h j) (nI i) ∧ fwR h n (nI i) y 0 = fwR h n (nI j) y 0 - 1
noncomputable def vxR (h : Nat → Int32) (n j : Nat) (y : Int32) : Int32 := if fwR h n (nI j) y 0 = -5 then -5 else if fwR h n (nI j) y 0 = 0 then -5 else fiF (vxP h n j y) n 0
noncomputable def cxP (h : Nat → Int32) (n j1 j2 i : Nat) : Prop := ¬ i = j1 ∧ ¬ i = j2 ∧ fwR h n (nI j1) (nI j2) (1 <<< (nI i &&& 31)) = -5
noncomputable def cxR (h : Nat → Int32) (n j1 j2 : Nat) : Int32 := if fwR h n (nI j1) (nI j2) 0 = -5 then 0 else gbI (cxP h n j1 j2) n
theorem fs_rng {S : Nat → Int32} {y : Int32} : ∀ m k : Nat, fsF S y m k = -5 ∨ ∃ l, l < k + m ∧ fsF S y m k = nI l
  | 0, _ => Or.inl rfl
  | m + 1, k => by
    by_cases t : tB (S k) y
    · exact Or.inr ⟨k, by omega, if_pos t⟩
    · rcases fs_rng m (k + 1) with q | ⟨l, hl, q⟩
      · exact Or.inl ((if_neg t).trans q)
      · exact Or.inr ⟨l, by omega, (if_neg t).trans q⟩
theorem fs_le0 {g : Nat → Int32} {n : Nat} {x y z : Int32} : fsR g n x y z ≤ 0 ↔ (fsR g n x y z = -5 ∨ fsR g n x y z = 0) := by
  rcases fs_rng (S := SI g n x z) (y := y) 10 0 with q | ⟨l, hl, q⟩
  · rw [show fsR g n x y z = -5 from q]; decide
  · rw [show fsR g n x y z = nI l from q]
    exact (by decide +kernel : ∀ l, l < 10 → (nI l ≤ 0 ↔ (nI l = -5 ∨ nI l = 0))) l (by omega)
section
variable {h yk yv yc : Nat → Int32} {n j1 j2 i : Nat} {C : List pCla} {mi sn q A : Int32} {V : Nat → Prop}
theorem vx_5 (h5 : fwR h n (nI j1) (nI j2) 0 = -5) : -5 = vxR h n j1 (nI j2) := (if_pos h5).symm
theorem vx_0 (h5 : ¬ fwR h n (nI j1) (nI j2) 0 = -5) (h0 : fwR h n (nI j1) (nI j2) 0 = 0) : -5 = vxR h n j1 (nI j2) := by rw [vxR, if_neg h5, if_pos h0]
theorem vx_h (h5 : ¬ fwR h n (nI j1) (nI j2) 0 = -5) (h0 : ¬ fwR h n (nI j1) (nI j2) 0 = 0) (hV : V = vxP h n j1 (nI j2)) (hA : A = fiF V n 0) (hq : A = q) : q = vxR h n j1 (nI j2) := by rw [vxR, if_neg h5, if_neg h0, ← hV, ← hA, hq]
theorem vx_vi (hn : n ≤ 8) (h1 : j1 < n) (h2 : j2 < n) (hr : rwF h n (goP C mi sn yk yv yc)) : vxR h n j1 (nI j2) = viR (gRow n yk yv yc C mi sn) n j1 (nI j2) := by
  have e : ∀ i, i < n → fwR h n (nI i) (nI j2) 0 = fsR (gRow n yk yv yc C mi sn) n (nI i) (nI j2) 0 := fun i hi => fw_row hn hi h2 (b_0 _) hr.B
  rw [vxR, viR, e j1 h1]
  by_cases q : fsR (gRow n yk yv yc C mi sn) n (nI j1) (nI j2) 0 ≤ 0
  · rw [if_pos q]
    rcases fs_le0.mp q with q5 | q0
    · rw [if_pos q5]
    · by_cases q5 : fsR (gRow n yk yv yc C mi sn) n (nI j1) (nI j2) 0 = -5
      · rw [if_pos q5]
      · rw [if_neg q5, if_pos q0]
  · rw [if_neg q, if_neg (fun z => q (fs_le0.mpr (Or.inl z))), if_neg (fun z => q (fs_le0.mpr (Or.inr z)))]
    refine fi_cg n 0 (fun k _ hk => ?_)
    rw [vxP, viP, e k (by omega), e j1 h1, tb_iff (by omega), tb_iff (by omega), hr j1 h1 k (by omega), gRow, gb_bt n (by omega) k (by omega)]
    exact ⟨fun z => ⟨⟨by omega, z.1⟩, z.2⟩, fun z => ⟨z.1.2, z.2⟩⟩
theorem cx_cu (hn : n ≤ 8) (h1 : j1 < n) (h2 : j2 < n) (hr : rwB h n (goP C mi sn yk yv yc)) : cxR h n j1 j2 = cuR (gRow n yk yv yc C mi sn) n j1 j2 := by
  rw [cxR, cuR, fw_row hn h1 h2 (b_0 _) hr]
  by_cases q5 : fsR (gRow n yk yv yc C mi sn) n (nI j1) (nI j2) 0 = -5
  · rw [if_pos q5, if_pos q5]
  · rw [if_neg q5, if_neg q5]
    refine gb_cg n (fun k hk => ?_)
    rw [cxP, cuP]
    refine and_congr_right fun e => ?_
    rw [fw_row hn h1 h2 ?_ hr]
    cases hq : bt (1 <<< (nI k &&& 31)) j1 with
    | false => rfl
    | true => exact absurd ((S0_bt (by omega) (by omega)).mp hq).symm e
theorem cx_0 (h5 : fwR h n (nI j1) (nI j2) 0 = -5) : 0 = cxR h n j1 j2 := (if_pos h5).symm
theorem cx_n {B : Nat → Int32} (h5 : ¬ fwR h n (nI j1) (nI j2) 0 = -5) (hB : B = gbI (cxP h n j1 j2)) (hq : q = B i) (e : i = n) : q = cxR h n j1 j2 := by rw [cxR, if_neg h5, hq, hB, e]
theorem st_x (hn : n ≤ 8) (h1 : j1 < n) (h2 : j2 < n) (hr : rwB h n (goP C mi sn yk yv yc)) : fwR h n (nI j1) (nI j2) 0 = stR_ n yk yv yc C mi sn (nI j1) (nI j2) := (fw_row hn h1 h2 (b_0 _) hr).trans (st_m hn h1 h2 (fun _ _ => rfl))
theorem vi_x (hn : n ≤ 8) (h1 : j1 < n) (h2 : j2 < n) (hr : rwF h n (goP C mi sn yk yv yc)) : vxR h n j1 (nI j2) = viR_ n yk yv yc C mi sn (nI j1) (nI j2) := vi_m hn h1 h2 (fun _ _ => rfl) (vx_vi hn h1 h2 hr)
theorem cu_x (hn : n ≤ 8) (h1 : j1 < n) (h2 : j2 < n) (hr : rwF h n (goP C mi sn yk yv yc)) : cxR h n j1 j2 = cuR_ n yk yv yc C mi sn (nI j1) (nI j2) := cu_m hn h1 h2 (fun _ _ => rfl) (cx_cu hn h1 h2 hr.B)
end
theorem two_no {n : Nat} {x y A : Int32} (h : (∀ j : Nat, j < n → x ≠ nI j) ∨ (∀ j : Nat, j < n → y ≠ nI j)) : -1 = twR n x y A := h.elim two_no1 two_no2
/-! where one should be built -/
noncomputable def up0 (f : Nat → Int32) (n : Nat) (v : Int32) : Nat → Int32 := fun k => if k = n then v else f k
theorem up0_n {f : Nat → Int32} {n : Nat} {v : Int32} : up0 f n v n = v := if_pos rfl
theorem up0_k {f : Nat → Int32} {n k : Nat} {v : Int32} (h : k < n) : up0 f n v k = f k := if_neg (by omega)
noncomputable def bcF (tk : Nat → Prop) (T : Nat → Int32) (s0 : Int32) : Nat → Int32 × Int32
  | 0 => (-5, s0)
  | c + 1 => @ite (Int32 × Int32) (tk c) (Classical.propDecidable _) (bcF tk T s0 c) (@ite (Int32 × Int32) (¬ T c = -5 ∧ ((bcF tk T s0 c).2 = -5 ∨ T c < (bcF tk T s0 c).2)) (Classical.propDecidable _) (nI c, T c) (bcF tk T s0 c))
section
variable {tk : Nat → Prop} {T : Nat → Int32} {s0 q q2 t : Int32} {G : Nat → Int32 × Int32} {i : Nat}
theorem bc_t (hG : G = bcF tk T s0) (h : q = (G i).1 ∧ q2 = (G i).2) (h1 : tk i) : q = (G (i + 1)).1 ∧ q2 = (G (i + 1)).2 := by
  have e : G (i + 1) = G i := by
    rw [hG]
    exact @if_pos _ (Classical.propDecidable _) h1 _ _ _
  rw [e]; exact h
theorem bc_n (hG : G = bcF tk T s0) (h : q = (G i).1 ∧ q2 = (G i).2) (h1 : ¬ tk i) (ht : t = T i) (h2 : t = -5 ∨ (¬ q2 = -5 ∧ ¬ t < q2)) : q = (G (i + 1)).1 ∧ q2 = (G (i + 1)).2 := by
  have h3 : ¬ (¬ T i = -5 ∧ ((G i).2 = -5 ∨ T i < (G i).2)) := by
    rw [← ht, ← h.2]
    rintro ⟨a, b⟩
    rcases h2 with c | ⟨c, d⟩
    · exact a c
    · exact b.elim c d
  have e : G (i + 1) = G i := by
    rw [hG] at h3 ⊢
    exact (@if_neg _ (Classical.propDecidable _) h1 _ _ _).trans (@if_neg _ (Classical.propDecidable _) h3 _ _ _)
  rw [e]; exact h
theorem bc_y (hG : G = bcF tk T s0) (h : q = (G i).1 ∧ q2 = (G i).2) (h1 : ¬ tk i) (ht : t = T i) (h2 : ¬ t = -5) (h4 : q2 = -5 ∨ t < q2) : nI i = (G (i + 1)).1 ∧ t = (G (i + 1)).2 := by
  have h3 : ¬ T i = -5 ∧ ((G i).2 = -5 ∨ T i < (G i).2) := by
    rw [← ht, ← h.2]
    exact ⟨h2, h4⟩
  have e : G (i + 1) = (nI i, T i) := by
    rw [hG] at h3 ⊢
    exact (@if_neg _ (Classical.propDecidable _) h1 _ _ _).trans (@if_pos _ (Classical.propDecidable _) h3 _ _ _)
  rw [e]; exact ⟨rfl, ht⟩
theorem bc_two : ∀ m : Nat, bcF tk T s0 m = (-5, s0) ∨ ∃ c, c < m ∧ bcF tk T s0 m = (nI c, T c)
  | 0 => Or.inl rfl
  | m + 1 => by
    have ih : bcF tk T s0 m = (-5, s0) ∨ ∃ c, c < m ∧ bcF tk T s0 m = (nI c, T c) := bc_two m
    have ih2 : bcF tk T s0 m = (-5, s0) ∨ ∃ c, c < m + 1 ∧ bcF tk T s0 m = (nI c, T c) := ih.elim Or.inl (fun ⟨c, hc, e⟩ => Or.inr ⟨c, by omega, e⟩)
    by_cases h1 : tk m
    · rw [show bcF tk T s0 (m + 1) = bcF tk T s0 m from @if_pos _ (Classical.propDecidable _) h1 _ _ _]
      exact ih2
    · by_cases h3 : ¬ T m = -5 ∧ ((bcF tk T s0 m).2 = -5 ∨ T m < (bcF tk T s0 m).2)
      · exact Or.inr ⟨m, by omega, (@if_neg _ (Classical.propDecidable _) h1 _ _ _).trans (@if_pos _ (Classical.propDecidable _) h3 _ _ _)⟩
      · rw [show bcF tk T s0 (m + 1) = bcF tk T s0 m from (@if_neg _ (Classical.propDecidable _) h1 _ _ _).trans (@if_neg _ (Classical.propDecidable _) h3 _ _ _)]
        exact ih2
end
/-- the steps with one more on cell c -/
noncomputable def bdT (n : Nat) (yk yv yc : Nat → Int32) (C : List pCla) (mi sn x y : Int32) (c : Nat) : Int32 := fsR (gRow (n + 1) (up0 yk n 0) (up0 yv n 0) (up0 yc n (nI c)) C mi sn) (n + 1) x y 0
noncomputable def bdP (n : Nat) (yk yv yc : Nat → Int32) (C : List pCla) (mi sn x y : Int32) : Nat → Int32 × Int32 := bcF (fun c => ∃ k, k < n ∧ yc k = nI c) (bdT n yk yv yc C mi sn x y) (fsR (gRow n yk yv yc C mi sn) n x y 0)
noncomputable def bdR (n : Nat) (yk yv yc : Nat → Int32) (C : List pCla) (mi sn x y z : Int32) : Int32 := @ite Int32 (hh n x ∧ hh n y ∧ ¬ (z < 0 ∨ 1 < z)) (Classical.propDecidable _) (if n = 8 then -5 else if (bdP n yk yv yc C mi sn x y 36).1 = -5 ∨ z = 0 then (bdP n yk yv yc C mi sn x y 36).1 else (bdP n yk yv yc C mi sn x y 36).2) (-1)
section
variable {n j1 j2 i : Nat} {yk yv yc f f9 fS : Nat → Int32} {C : List pCla} {mi sn x y z q q2 : Int32} {G : Nat → Int32 × Int32}
theorem bd_no1 (h : ∀ j : Nat, j < n → x ≠ nI j) : -1 = bdR n yk yv yc C mi sn x y z := (@if_neg _ (Classical.propDecidable _) (fun q => hh_no h q.1) _ _ _).symm
theorem bd_no2 (h : ∀ j : Nat, j < n → y ≠ nI j) : -1 = bdR n yk yv yc C mi sn x y z := (@if_neg _ (Classical.propDecidable _) (fun q => hh_no h q.2.1) _ _ _).symm
theorem bd_no3 (h : z < 0 ∨ 1 < z) : -1 = bdR n yk yv yc C mi sn x y z := (@if_neg _ (Classical.propDecidable _) (fun q => q.2.2 h) _ _ _).symm
theorem bd_yes (h1 : j1 < n) (h2 : j2 < n) (h3 : ¬ z < 0) (h4 : ¬ 1 < z) : bdR n yk yv yc C mi sn (nI j1) (nI j2) z = if n = 8 then -5 else if (bdP n yk yv yc C mi sn (nI j1) (nI j2) 36).1 = -5 ∨ z = 0 then (bdP n yk yv yc C mi sn (nI j1) (nI j2) 36).1 else (bdP n yk yv yc C mi sn (nI j1) (nI j2) 36).2 := @if_pos _ (Classical.propDecidable _) ⟨hh_yes h1, hh_yes h2, fun q => q.elim h3 h4⟩ _ _ _
theorem bd_8 (h1 : j1 < n) (h2 : j2 < n) (h3 : ¬ z < 0) (h4 : ¬ 1 < z) (h8 : n = 8) : -5 = bdR n yk yv yc C mi sn (nI j1) (nI j2) z := by rw [bd_yes h1 h2 h3 h4, if_pos h8]
theorem bd_a (h1 : j1 < n) (h2 : j2 < n) (h3 : ¬ z < 0) (h4 : ¬ 1 < z) (h8 : ¬ n = 8) (hG : G = bdP n yk yv yc C mi sn (nI j1) (nI j2)) (hq : q = (G i).1 ∧ q2 = (G i).2) (e : i = 36) (h5 : q = -5 ∨ z = 0) : q = bdR n yk yv yc C mi sn (nI j1) (nI j2) z := by
  subst e
  rw [hG] at hq
  rw [bd_yes h1 h2 h3 h4, if_neg h8, ← hq.1, if_pos h5]
theorem bd_b (h1 : j1 < n) (h2 : j2 < n) (h3 : ¬ z < 0) (h4 : ¬ 1 < z) (h8 : ¬ n = 8) (hG : G = bdP n yk yv yc C mi sn (nI j1) (nI j2)) (hq : q = (G i).1 ∧ q2 = (G i).2) (e : i = 36) (h5 : ¬ q = -5) (h6 : ¬ z = 0) : q2 = bdR n yk yv yc C mi sn (nI j1) (nI j2) z := by
  subst e
  rw [hG] at hq
  rw [bd_yes h1 h2 h3 h4, if_neg h8, ← hq.1, if_neg (show ¬ (q = -5 ∨ z = 0) from fun w => w.elim h5 h6), hq.2]
/-- the reference's numbers with one more -/
theorem put_row {a b c : Int32} (hn : n < 8) (e9 : f9 = upd (upd (upd (upd f (10 + n) a) (19 + n) b) (28 + n) c) 0 (nI (n + 1))) (zf : ∀ i, i ≠ 10 + n → i ≠ 19 + n → i ≠ 28 + n → f i = fS i) (zk : ∀ k, k < n → fS (10 + k) = yk k) (zv : ∀ k, k < n → fS (19 + k) = yv k) (zc : ∀ k, k < n → fS (28 + k) = yc k) (zm : fS 6 = mi) (zs : fS 7 = sn) : (∀ k, k < n + 1 → f9 (10 + k) = up0 yk n a k) ∧ (∀ k, k < n + 1 → f9 (19 + k) = up0 yv n b k) ∧ (∀ k, k < n + 1 → f9 (28 + k) = up0 yc n c k) ∧ f9 6 = mi ∧ f9 7 = sn := by
  have hw : ∀ i, i ≠ 0 → i ≠ 28 + n → i ≠ 19 + n → i ≠ 10 + n → f9 i = fS i := fun i d0 d1 d2 d3 => by rw [e9, pk_un d0, pk_un d1, pk_un d2, pk_un d3]; exact zf i d3 d2 d1
  refine ⟨fun k hk => ?_, fun k hk => ?_, fun k hk => ?_, (hw 6 (by omega) (by omega) (by omega) (by omega)).trans zm, (hw 7 (by omega) (by omega) (by omega) (by omega)).trans zs⟩
  · by_cases q : k = n
    · subst q
      rw [e9, pk_un (by omega), pk_un (by omega), pk_un (by omega), pk_us, up0_n]
    · rw [hw _ (by omega) (by omega) (by omega) (by omega), up0_k (by omega)]; exact zk k (by omega)
  · by_cases q : k = n
    · subst q
      rw [e9, pk_un (by omega), pk_un (by omega), pk_us, up0_n]
    · rw [hw _ (by omega) (by omega) (by omega) (by omega), up0_k (by omega)]; exact zv k (by omega)
  · by_cases q : k = n
    · subst q
      rw [e9, pk_un (by omega), pk_us, up0_n]
    · rw [hw _ (by omega) (by omega) (by omega) (by omega), up0_k (by omega)]; exact zc k (by omega)
theorem bd_T {g : Nat → Int32} (hs : ∀ k, k < n + 1 → g k = gbI (goF f9 C k) (n + 1)) (hp : (∀ k, k < n + 1 → f9 (10 + k) = up0 yk n 0 k) ∧ (∀ k, k < n + 1 → f9 (19 + k) = up0 yv n 0 k) ∧ (∀ k, k < n + 1 → f9 (28 + k) = up0 yc n (nI i) k) ∧ f9 6 = mi ∧ f9 7 = sn) : fsR g (n + 1) x y 0 = bdT n yk yv yc C mi sn x y i := fsR_cg (row_m hs hp.1 hp.2.1 hp.2.2.1 hp.2.2.2.1 hp.2.2.2.2)
/-- the class's rows with one more -/
theorem row_j {h R : Nat → Int32} (hn : n < 8) (hR : ∀ k0, k0 < n → R k0 = RV C mi sn k0 (yk k0) (yv k0) (yc k0)) (hRn : R n = RV C mi sn n 0 0 x) (hA : rwB h n (goP C mi sn yk yv yc)) (hB : ∀ a, a < n → (bt (h a) n = true ↔ ¬ a = n ∧ goV (yk a) (yv a) (yc a) x (R n))) (hC : ∀ b, b < n → (bt (h n) b = true ↔ ¬ n = b ∧ goV 0 0 x (yc b) (R b))) : rwB h (n + 1) (goP C mi sn (up0 yk n 0) (up0 yv n 0) (up0 yc n x)) := fun a ha b hb e => by
  by_cases qa : a = n
  · subst qa
    rw [hC b (by omega), goP, up0_n, up0_n, up0_n, up0_k (by omega), up0_k (by omega), up0_k (by omega), hR b (by omega)]
  · by_cases qb : b = n
    · subst qb
      rw [hB a (by omega), goP, up0_n, up0_n, up0_n, up0_k (by omega), up0_k (by omega), up0_k (by omega), hRn]
    · rw [hA a (by omega) b (by omega) e]
      exact (goP_cg (up0_k (by omega)) (up0_k (by omega)) (up0_k (by omega)) (up0_k (by omega)) (up0_k (by omega)) (up0_k (by omega))).symm
theorem bd_X {h : Nat → Int32} (hn : n < 8) (h1 : j1 < n) (h2 : j2 < n) (hr : rwB h (n + 1) (goP C mi sn (up0 yk n 0) (up0 yv n 0) (up0 yc n (nI i)))) : fwR h (n + 1) (nI j1) (nI j2) 0 = bdT n yk yv yc C mi sn (nI j1) (nI j2) i := fw_row (by omega) (by omega) (by omega) (b_0 _) hr
theorem bd_cell (hG : G = bdP n yk yv yc C mi sn x y) (hq : q = (G 36).1) (h5 : ¬ q = -5) : ∃ c : Nat, c < 36 ∧ q = nI c ∧ (G 36).2 = bdT n yk yv yc C mi sn x y c := by
  subst hG
  rcases bc_two (tk := fun c => ∃ k, k < n ∧ yc k = nI c) (T := bdT n yk yv yc C mi sn x y) (s0 := fsR (gRow n yk yv yc C mi sn) n x y 0) 36 with e | ⟨c, hc, e⟩
  · exact absurd (hq.trans (congrArg Prod.fst e)) h5
  · exact ⟨c, hc, hq.trans (congrArg Prod.fst e), congrArg Prod.snd e⟩
end
section
variable {n j1 j2 : Nat} {yk yv yc : Nat → Int32} {C : List pCla} {mi sn z q : Int32}
theorem bd_ax (h1 : j1 < n) (h2 : j2 < n) (h3 : ¬ z < 0) (h4 : ¬ 1 < z) (h8 : ¬ n = 8) (hr : q = (bdP n yk yv yc C mi sn (nI j1) (nI j2) 36).1) (h5 : q = -5 ∨ z = 0) : q = bdR n yk yv yc C mi sn (nI j1) (nI j2) z := bd_a (q2 := (bdP n yk yv yc C mi sn (nI j1) (nI j2) 36).2) h1 h2 h3 h4 h8 rfl ⟨hr, rfl⟩ rfl h5
theorem bd_bx (h1 : j1 < n) (h2 : j2 < n) (h3 : ¬ z < 0) (h4 : ¬ 1 < z) (h8 : ¬ n = 8) (hr : q = (bdP n yk yv yc C mi sn (nI j1) (nI j2) 36).1) (h5 : ¬ q = -5) (h6 : ¬ z = 0) : (bdP n yk yv yc C mi sn (nI j1) (nI j2) 36).2 = bdR n yk yv yc C mi sn (nI j1) (nI j2) z := bd_b h1 h2 h3 h4 h8 rfl ⟨hr, rfl⟩ rfl h5 h6
end
/-! where one is by chances -/
noncomputable def dwN (w : Nat) : Nat := [0, 0, 1, 2, 2, 2, 1, 0].getD w 0
noncomputable def rtN (w : Nat) : Nat := [1, 2, 2, 2, 1, 0, 0, 0].getD w 0
noncomputable def nxN (c w : Nat) : Nat := if 1 ≤ c / 6 + dwN w ∧ c / 6 + dwN w ≤ 6 ∧ 1 ≤ c % 6 + rtN w ∧ c % 6 + rtN w ≤ 6 then 6 * (c / 6 + dwN w - 1) + (c % 6 + rtN w - 1) else c
theorem nx_lt : ∀ c : Nat, c < 36 → ∀ w : Nat, w < 8 → nxN c w < 36 := by decide +kernel
theorem nx_i : ∀ c : Nat, c < 36 → ∀ w : Nat, w < 8 → (if nI (c / 6) + rwR (nI w) < 0 ∨ 5 < nI (c / 6) + rwR (nI w) ∨ nI (c % 6) + clR (nI w) < 0 ∨ 5 < nI (c % 6) + clR (nI w) then nI c else 6 * (nI (c / 6) + rwR (nI w)) + (nI (c % 6) + clR (nI w))) = nI (nxN c w) := by decide +kernel
theorem nx_x : ∀ c : Nat, c < 36 → ∀ w : Nat, w < 8 → (if nI c / 6 + fDown w < 0 ∨ 5 < nI c / 6 + fDown w ∨ nI c - nI c / 6 * 6 + fRight w < 0 ∨ 5 < nI c - nI c / 6 * 6 + fRight w then nI c else (nI c / 6 + fDown w) * 6 + (nI c - nI c / 6 * 6 + fRight w)) = nI (nxN c w) := by decide +kernel
section
variable {c w a b : Nat}
theorem nx_ri (hc : c < 36) (hw : w < 8) (h1 : ¬ nI (c / 6) + rwR (nI w) < 0) (h2 : ¬ 5 < nI (c / 6) + rwR (nI w)) (h3 : ¬ nI (c % 6) + clR (nI w) < 0) (h4 : ¬ 5 < nI (c % 6) + clR (nI w)) : 6 * (nI (c / 6) + rwR (nI w)) + (nI (c % 6) + clR (nI w)) = nI (nxN c w) := (if_neg (fun q => q.elim h1 (fun q => q.elim h2 (fun q => q.elim h3 h4)))).symm.trans (nx_i c hc w hw)
theorem nx_o1 (hc : c < 36) (hw : w < 8) (h : nI (c / 6) + rwR (nI w) < 0 ∨ 5 < nI (c / 6) + rwR (nI w)) : nI c = nI (nxN c w) := (if_pos (h.elim Or.inl (fun z => Or.inr (Or.inl z)))).symm.trans (nx_i c hc w hw)
theorem nx_o2 (hc : c < 36) (hw : w < 8) (h : nI (c % 6) + clR (nI w) < 0 ∨ 5 < nI (c % 6) + clR (nI w)) : nI c = nI (nxN c w) := (if_pos (Or.inr (Or.inr h))).symm.trans (nx_i c hc w hw)
theorem nx_xi (hc : c < 36) (hw : w < 8) (ga : a < 6) (gb : b < 6) (ea : nI c / 6 + fDown w = nI a) (eb : nI c - nI c / 6 * 6 + fRight w = nI b) : (nI c / 6 + fDown w) * 6 + (nI c - nI c / 6 * 6 + fRight w) = nI (nxN c w) := (if_neg (by
  rw [ea, eb]
  exact fun q => q.elim (nI_pos (by omega)) (fun q => q.elim (nI_nlt (a := 5) (by omega) (by omega)) (fun q => q.elim (nI_pos (by omega)) (nI_nlt (a := 5) (by omega) (by omega)))))).symm.trans (nx_x c hc w hw)
theorem nx_xo (hc : c < 36) (hw : w < 8) (h : (nI c / 6 + fDown w < 0 ∨ 6 ≤ nI c / 6 + fDown w) ∨ (nI c - nI c / 6 * 6 + fRight w < 0 ∨ 6 ≤ nI c - nI c / 6 * 6 + fRight w)) : nI c = nI (nxN c w) := by
  have l5 : ∀ v : Int32, 6 ≤ v → 5 < v := fun v hv => Int32.lt_of_lt_of_le (by decide) hv
  refine (if_pos ?_).symm.trans (nx_x c hc w hw)
  rcases h with (h | h) | (h | h)
  · exact Or.inl h
  · exact Or.inr (Or.inl (l5 _ h))
  · exact Or.inr (Or.inr (Or.inl h))
  · exact Or.inr (Or.inr (Or.inr (l5 _ h)))
end
noncomputable def adA (A : Nat → Nat) (i v : Nat) : Nat → Nat := fun k => if k = i then A k + v else A k
noncomputable def gsF (ed : Nat → Bool) (dr : Nat → Nat) (w : Nat) (T : Nat → Nat) : Nat → Nat → Nat
  | 0 => fun _ => 0
  | c + 1 => if T c = 0 then gsF ed dr w T c else if ed c = true then adA (gsF ed dr w T c) c (20 * T c) else adA (adA (adA (gsF ed dr w T c) (nxN c w) ((20 - 2 * dr c) * T c)) (nxN c ((w + 7) % 8)) (dr c * T c)) (nxN c ((w + 1) % 8)) (dr c * T c)
noncomputable def smN (A : Nat → Nat) : Nat → Nat
  | 0 => 0
  | i + 1 => smN A i + A i
section
variable {A B T : Nat → Nat} {ed : Nat → Bool} {dr : Nat → Nat} {w i v c n : Nat}
theorem sm_ad_hi : ∀ n : Nat, n ≤ i → smN (adA A i v) n = smN A n
  | 0, _ => rfl
  | n + 1, h => by
    show smN (adA A i v) n + adA A i v n = smN A n + A n
    rw [sm_ad_hi n (by omega), show adA A i v n = A n from if_neg (by omega)]
theorem sm_ad : ∀ n : Nat, i < n → smN (adA A i v) n = smN A n + v
  | 0, h => absurd h (Nat.not_lt_zero i)
  | n + 1, h => by
    show smN (adA A i v) n + adA A i v n = smN A n + A n + v
    by_cases e : i = n
    · subst e
      rw [sm_ad_hi i (Nat.le_refl i), show adA A i v i = A i + v from if_pos rfl]; omega
    · rw [sm_ad n (by omega), show adA A i v n = A n from if_neg (by omega)]; omega
theorem sm_0 : ∀ n : Nat, smN (fun _ => 0) n = 0
  | 0 => rfl
  | n + 1 => sm_0 n
theorem sm_le : ∀ n : Nat, i < n → A i ≤ smN A n
  | 0, h => absurd h (Nat.not_lt_zero i)
  | n + 1, h => by
    show A i ≤ smN A n + A n
    by_cases e : i = n
    · subst e; omega
    · have := sm_le n (by omega : i < n); omega
theorem gs_sum (hd : ∀ c, c < 36 → dr c ≤ 5) (hw : w < 8) : ∀ c : Nat, c ≤ 36 → smN (gsF ed dr w T c) 36 = 20 * smN T c
  | 0, _ => sm_0 36
  | c + 1, h => by
    have ih := gs_sum hd hw c (by omega)
    show smN (if T c = 0 then gsF ed dr w T c else if ed c = true then adA (gsF ed dr w T c) c (20 * T c) else adA (adA (adA (gsF ed dr w T c) (nxN c w) ((20 - 2 * dr c) * T c)) (nxN c ((w + 7) % 8)) (dr c * T c)) (nxN c ((w + 1) % 8)) (dr c * T c)) 36 = 20 * (smN T c + T c)
    by_cases z : T c = 0
    · rw [if_pos z, ih, z, Nat.add_zero]
    · rw [if_neg z]
      by_cases e : ed c = true
      · rw [if_pos e, sm_ad 36 (by omega), ih, Nat.mul_add]
      · rw [if_neg e, sm_ad 36 (nx_lt c (by omega) _ (Nat.mod_lt _ (by decide))), sm_ad 36 (nx_lt c (by omega) _ (Nat.mod_lt _ (by decide))), sm_ad 36 (nx_lt c (by omega) w hw), ih]
        have h5 := hd c (by omega)
        have e1 : (20 - 2 * dr c) * T c + dr c * T c + dr c * T c = 20 * T c := by
          rw [← Nat.add_mul, ← Nat.add_mul, show 20 - 2 * dr c + dr c + dr c = 20 by omega]
        omega
theorem gs_0 (z : T c = 0) : gsF ed dr w T (c + 1) = gsF ed dr w T c := if_pos z
theorem gs_e (z : ¬ T c = 0) (e : ed c = true) : gsF ed dr w T (c + 1) = adA (gsF ed dr w T c) c (20 * T c) := (if_neg z).trans (if_pos e)
theorem gs_n (z : ¬ T c = 0) (e : ¬ ed c = true) : gsF ed dr w T (c + 1) = adA (adA (adA (gsF ed dr w T c) (nxN c w) ((20 - 2 * dr c) * T c)) (nxN c ((w + 7) % 8)) (dr c * T c)) (nxN c ((w + 1) % 8)) (dr c * T c) := (if_neg z).trans (if_neg e)
/-- cells of longs hold A -/
noncomputable def lnA (f : Nat → Int64) (A : Nat → Nat) : Prop := ∀ k, k < 36 → f k = lN (A k)
theorem ln_ad {f : Nat → Int64} (h : lnA f A) (hi : i < 36) : lnA (vp_updL f i (f i + lN v)) (adA A i v) := fun k hk => by
  by_cases e : k = i
  · subst e
    rw [pk_uLs, h k hk, lN_add]
    exact congrArg lN (show A k + v = if k = k then A k + v else A k from (if_pos rfl).symm)
  · rw [pk_uLn e, h k hk]
    exact congrArg lN (show A k = if k = i then A k + v else A k from (if_neg e).symm)
end
/-- behind k steps -/
noncomputable def tmN (ed : Nat → Bool) (dr wy : Nat → Nat) (c0 : Nat) : Nat → Nat → Nat
  | 0 => fun k => if k = c0 then 1 else 0
  | k + 1 => gsF ed dr (wy k) (tmN ed dr wy c0 k) 36
theorem tm_sum {ed : Nat → Bool} {dr wy : Nat → Nat} {c0 : Nat} (hc : c0 < 36) (hd : ∀ c, c < 36 → dr c ≤ 5) (hw : ∀ k, wy k < 8) : ∀ k : Nat, smN (tmN ed dr wy c0 k) 36 = 20 ^ k
  | 0 => by
    have h : tmN ed dr wy c0 0 = adA (fun _ => 0) c0 1 := funext fun k => by
      show (if k = c0 then 1 else 0) = if k = c0 then 0 + 1 else 0
      rfl
    rw [h, sm_ad 36 hc, sm_0, Nat.pow_zero]
  | k + 1 => by
    show smN (gsF ed dr (wy k) (tmN ed dr wy c0 k) 36) 36 = 20 ^ (k + 1)
    rw [gs_sum hd (hw k) 36 (Nat.le_refl 36), tm_sum hc hd hw k, Nat.pow_succ, Nat.mul_comm]
theorem tw_p : ∀ k : Nat, k ≤ 6 → 20 ^ k ≤ 64000000 := fun k hk => by
  have : k = 0 ∨ k = 1 ∨ k = 2 ∨ k = 3 ∨ k = 4 ∨ k = 5 ∨ k = 6 := by omega
  rcases this with rfl | rfl | rfl | rfl | rfl | rfl | rfl <;> decide
/-- the sum over cells of which m holds -/
noncomputable def msN (m : Nat → Prop) (A : Nat → Nat) : Nat → Nat
  | 0 => 0
  | i + 1 => @ite Nat (m i) (Classical.propDecidable _) (msN m A i + A i) (msN m A i)
section
variable {m m2 : Nat → Prop} {A : Nat → Nat} {i n : Nat}
theorem ms_p (h : m i) : msN m A (i + 1) = msN m A i + A i := @if_pos _ (Classical.propDecidable _) h _ _ _
theorem ms_n (h : ¬ m i) : msN m A (i + 1) = msN m A i := @if_neg _ (Classical.propDecidable _) h _ _ _
theorem ms_le : ∀ n : Nat, msN m A n ≤ smN A n
  | 0 => Nat.le_refl 0
  | n + 1 => by
    have ih := ms_le n
    have e : smN A (n + 1) = smN A n + A n := rfl
    by_cases h : m n
    · rw [ms_p h]; omega
    · rw [ms_n h]; omega
theorem ms_cg : ∀ n : Nat, (∀ k, k < n → (m k ↔ m2 k)) → msN m A n = msN m2 A n
  | 0, _ => rfl
  | n + 1, h => by
    have ih := ms_cg n (fun k hk => h k (by omega))
    by_cases q : m n
    · rw [ms_p q, ms_p ((h n (by omega)).mp q), ih]
    · rw [ms_n q, ms_n (fun z => q ((h n (by omega)).mpr z)), ih]
theorem ms_one {c : Nat} (hm : ∀ k, k < n → (m k ↔ k = c)) : ∀ j : Nat, j ≤ n → msN m A j = if c < j then A c else 0
  | 0, _ => by rw [if_neg (Nat.not_lt_zero c)]; rfl
  | j + 1, h => by
    have ih := ms_one hm j (by omega)
    by_cases e : j = c
    · subst e
      rw [ms_p ((hm j (by omega)).mpr rfl), ih, if_neg (Nat.lt_irrefl j), if_pos (Nat.lt_succ_self j), Nat.zero_add]
    · rw [ms_n (fun z => e ((hm j (by omega)).mp z)), ih]
      by_cases q : c < j
      · rw [if_pos q, if_pos (by omega)]
      · rw [if_neg q, if_neg (by omega)]
theorem ms_t {q : Int64} (h : q = lN (msN m A i)) (h2 : m i) : q + lN (A i) = lN (msN m A (i + 1)) := by rw [h, lN_add, ms_p h2]
theorem ms_f {q : Int64} (h : q = lN (msN m A i)) (h2 : ¬ m i) : q = lN (msN m A (i + 1)) := by rw [h, ms_n h2]
theorem ms_f0 {q : Int64} (h : q = lN (msN m A i)) (h2 : ¬ m i) : q + 0 = lN (msN m A (i + 1)) := by rw [Int64.add_zero]; exact ms_f h h2
theorem ms_e {q : Int64} (h : q = lN (msN m A i)) (e : i = n) : q = lN (msN m A n) := e ▸ h
end
theorem l20 (t : Nat) : 20 * lN t = lN (20 * t) := by rw [show (20 : Int64) = lN 20 from rfl, lN_mul]
theorem l20r (t : Nat) : lN t * 20 = lN (20 * t) := by rw [show (20 : Int64) = lN 20 from rfl, lN_mul, Nat.mul_comm]
theorem tz_le {t : Nat} (h : t ≤ 64000000) : lg_cmp (lN t) 0 ≤ 0 ↔ t = 0 := by
  rw [lg_cmp_le, show (0 : Int64) = lN 0 from rfl, pk_lLE (by omega) (by omega)]
  omega
theorem tz_eq {t : Nat} (h : t < 2 ^ 63) : lg_cmp (lN t) 0 = 0 ↔ t = 0 := by
  rw [lg_cmp_eq, show (0 : Int64) = lN 0 from rfl, pk_lEQ (by omega) (by omega)]
theorem z_up {f : Nat → Int64} {i : Nat} (h : ∀ k, k < i → f k = 0) : ∀ k, k < i + 1 → vp_updL f i 0 k = 0 := fun k hk => by
  by_cases e : k = i
  · subst e; exact pk_uLs
  · rw [pk_uLn e]; exact h k (by omega)
theorem c_up {f g : Nat → Int64} {i : Nat} (h : ∀ k, k < i → f k = g k) : ∀ k, k < i + 1 → vp_updL f i (g i) k = g k := fun k hk => by
  by_cases e : k = i
  · subst e; exact pk_uLs
  · rw [pk_uLn e]; exact h k (by omega)
theorem bg_t {f : Nat → Int64} {i c0 : Nat} (h : ∀ k, k < i → f k = lN (if k = c0 then 1 else 0)) (e : i = c0) : ∀ k, k < i + 1 → vp_updL f i 1 k = lN (if k = c0 then 1 else 0) := fun k hk => by
  by_cases q : k = i
  · subst q; rw [pk_uLs, if_pos e]; rfl
  · rw [pk_uLn q]; exact h k (by omega)
theorem bg_f {f : Nat → Int64} {i c0 : Nat} (h : ∀ k, k < i → f k = lN (if k = c0 then 1 else 0)) (e : ¬ i = c0) : ∀ k, k < i + 1 → vp_updL f i 0 k = lN (if k = c0 then 1 else 0) := fun k hk => by
  by_cases q : k = i
  · subst q; rw [pk_uLs, if_neg e]; rfl
  · rw [pk_uLn q]; exact h k (by omega)
/-- two numbers' least words -/
noncomputable def ptR (up low : Nat) (z : Int32) : Int64 := lN ((if z = 0 then up else low) / Nat.gcd up low)
theorem gcd_st {a b : Nat} (h : ¬ b = 0) : Nat.gcd a b = Nat.gcd b (a % b) := by
  rw [Nat.gcd_comm a b, Nat.gcd_rec b a, Nat.gcd_comm]
/-- so many turns are enough -/
theorem gcd_tn {a b : Nat} (h : ¬ b = 0) (hab : b ≤ a) : a % b + b ≤ a := by
  have h1 := Nat.div_add_mod a b
  have h2 : 1 ≤ a / b := (Nat.one_le_div_iff (by omega)).mpr hab
  have h3 : b * 1 ≤ b * (a / b) := Nat.mul_le_mul_left b h2
  omega
theorem pq_0 {a b a1 b1 : Nat} {x : Int32} (hx : x = 0) (h : Nat.gcd a1 b1 = Nat.gcd a b) (hb : b1 = 0) : lN (a / a1) = ptR a b x := by
  rw [ptR, if_pos hx, ← h, hb, Nat.gcd_zero_right]
theorem pq_1 {a b a1 b1 : Nat} {x : Int32} (hx : ¬ x = 0) (h : Nat.gcd a1 b1 = Nat.gcd a b) (hb : b1 = 0) : lN (b / a1) = ptR a b x := by
  rw [ptR, if_neg hx, ← h, hb, Nat.gcd_zero_right]
/-! drifts are small numbers -/
noncomputable def w3 : List pCla → Nat
  | [] => 0
  | c :: C => (if c.1 = 3 then 1 else 0) + w3 C
theorem tot_nat {fc : Nat → Int32} : ∀ C : List pCla, WfC C → ∃ t : Nat, t ≤ 99 * w3 C ∧ tot fc 3 C = nI t
  | [], _ => ⟨0, Nat.le_refl _, rfl⟩
  | c :: C, h => by
    obtain ⟨t, ht, e⟩ := tot_nat C (fun d hd => h d (List.mem_cons_of_mem _ hd))
    have hc := (h c List.mem_cons_self).2.1
    have e2 : tot fc 3 (c :: C) = (if hld fc c.2.2 = true then (if c.1 = 3 then nI c.2.1 else 0) else 0) + tot fc 3 C := rfl
    have ew : w3 (c :: C) = (if c.1 = 3 then 1 else 0) + w3 C := rfl
    by_cases h3 : c.1 = 3
    · rw [if_pos h3] at ew e2
      by_cases hq : hld fc c.2.2 = true
      · refine ⟨c.2.1 + t, by omega, ?_⟩
        rw [e2, if_pos hq, e, nI_add]
      · refine ⟨t, by omega, ?_⟩
        rw [e2, if_neg hq, e, Int32.zero_add]
    · rw [if_neg h3] at ew e2
      refine ⟨t, by omega, ?_⟩
      rw [e2, show (if hld fc c.2.2 = true then (0 : Int32) else 0) = 0 from by split <;> rfl, e, Int32.zero_add]
theorem w3_len : ∀ C : List pCla, w3 C ≤ C.length
  | [] => Nat.le_refl 0
  | c :: C => by
    have := w3_len C
    show (if c.1 = 3 then 1 else 0) + w3 C ≤ C.length + 1
    split <;> omega
theorem w3_fl : ∀ C : List pCla, w3 C ≤ (flC C).length
  | [] => Nat.le_refl 0
  | c :: C => by
    have h := w3_fl C
    show (if c.1 = 3 then 1 else 0) + w3 C ≤ (fl1 c ++ flC C).length
    rw [List.length_append]
    by_cases h3 : c.1 = 3
    · have e : (fl1 c).length = c.2.2.length + 1 := by
        rw [fl1, if_neg (show ¬ c.1 = 2 by omega), List.length_append]
        rfl
      rw [if_pos h3]; omega
    · rw [if_neg h3]; omega
theorem dr_nat {C : List pCla} {mi sn x : Int32} (h : WfC C) (hl : w3 C ≤ 1000) : ∃ d : Nat, d ≤ 5 ∧ DRV C mi sn x = nI d := by
  obtain ⟨t, ht, e⟩ := tot_nat (fc := fct 99 99 x mi sn) C h
  by_cases q : t ≤ 5
  · exact ⟨t, q, by rw [DRV, e, if_pos (show nI t ≤ 5 from (nI_leI (a := t) (b := 5) (by omega) (by omega)).mpr q)]⟩
  · exact ⟨5, Nat.le_refl 5, by rw [DRV, e, if_neg (show ¬ nI t ≤ 5 from fun z => q ((nI_leI (a := t) (b := 5) (by omega) (by omega)).mp z))]; rfl⟩
noncomputable def drN (C : List pCla) (mi sn : Int32) (k : Nat) : Nat := (DRV C mi sn (nI k)).toNatClampNeg
theorem dr_ok {C : List pCla} {mi sn : Int32} (h : WfC C) (hl : w3 C ≤ 1000) (k : Nat) : DRV C mi sn (nI k) = nI (drN C mi sn k) ∧ drN C mi sn k ≤ 5 := by
  obtain ⟨d, hd, e⟩ := dr_nat (mi := mi) (sn := sn) (x := nI k) h hl
  rw [drN, e, nI_clamp (by omega)]
  exact ⟨rfl, hd⟩
theorem hol_w3 {f : Nat → Int32} {C : List pCla} (h : hol f C) : WfC C ∧ w3 C ≤ 1000 := by
  obtain ⟨h1, h2⟩ := h
  refine ⟨h1, ?_⟩
  rcases h2 with ⟨_, rfl⟩ | ⟨k, _, _, _, hc⟩
  · decide
  · have := w3_fl C
    have := hc.2.2.1
    omega
/-- the edges as bits -/
noncomputable def edB (ee : Nat) (k : Nat) : Bool := decide (ee / 2 ^ k % 2 = 1)
theorem ed_m {f : Nat → Int32} {ee : Nat} (h : ∀ k, k < 36 → f (37 + k) = nI (ee / 2 ^ k % 2)) : ∀ k, k < 36 → f (37 + k) = nI (if edB ee k = true then 1 else 0) := fun k hk => by
  rw [h k hk]
  have h2 : ee / 2 ^ k % 2 < 2 := Nat.mod_lt _ (by decide)
  by_cases q : ee / 2 ^ k % 2 = 1
  · rw [if_pos (show edB ee k = true from decide_eq_true q), q]
  · rw [if_neg (show ¬ edB ee k = true from fun z => q (of_decide_eq_true z)), show ee / 2 ^ k % 2 = 0 by omega]
theorem tm_b {ed : Nat → Bool} {dr wy : Nat → Nat} {c0 k : Nat} (hc : c0 < 36) (hd : ∀ c, c < 36 → dr c ≤ 5) (hw : ∀ k, wy k < 8) (hk : k ≤ 6) : ∀ c, c < 36 → tmN ed dr wy c0 k c ≤ 64000000 := fun c h => by
  have h1 := sm_le (A := tmN ed dr wy c0 k) 36 h
  rw [tm_sum hc hd hw k] at h1
  have h2 := tw_p k hk
  omega
/-! odds -/
noncomputable def odU (yk yv yc : Nat → Int32) (C : List pCla) (mi sn : Int32) (ee : Nat) (T : Nat → Nat) (y : Int32) : Nat := @ite Nat (∃ k : Nat, k < 36 ∧ y = nI k) (Classical.propDecidable _) (T y.toNatClampNeg) (if y = 40 then msN (fun k => edB ee k = true) T 36 else msN (fun k => ¬ edB ee k = true ∧ ¬ RV C mi sn (y - 50).toNatClampNeg (yk (y - 50).toNatClampNeg) (yv (y - 50).toNatClampNeg) (yc (y - 50).toNatClampNeg) < apR (nI k) (yc (y - 50).toNatClampNeg)) T 36)
noncomputable def odR (n : Nat) (yk yv yc : Nat → Int32) (C : List pCla) (mi sn : Int32) (ee wk : Nat) (wy : Nat → Nat) (x y z : Int32) : Int64 := @ite Int64 ((∃ k : Nat, k < 36 ∧ x = nI k) ∧ ((∃ k : Nat, k < 36 ∧ y = nI k) ∨ y = 40 ∨ (¬ y < 50 ∧ hh n (y - 50))) ∧ ¬ (z < 0 ∨ 1 < z)) (Classical.propDecidable _) (ptR (odU yk yv yc C mi sn ee (tmN (edB ee) (drN C mi sn) wy x.toNatClampNeg wk) y) (20 ^ wk) z) (-9223372036854775808)
section
variable {n ee wk jx jy h i : Nat} {yk yv yc : Nat → Int32} {C : List pCla} {mi sn x y z : Int32} {wy : Nat → Nat} {T : Nat → Nat → Nat}
theorem cell_nex (h : x < 0 ∨ 35 < x) : ¬ ∃ k : Nat, k < 36 ∧ x = nI k := fun ⟨k, hk, e⟩ => by
  subst e
  exact cell_yes hk h
theorem od_no1 (h : x < 0 ∨ 35 < x) : -9223372036854775808 = odR n yk yv yc C mi sn ee wk wy x y z := (@if_neg _ (Classical.propDecidable _) (fun q => cell_nex h q.1) _ _ _).symm
theorem od_no2 (h : y < 0 ∨ 35 < y) (h2 : ¬ y = 40) (h3 : y < 50 ∨ ∀ j : Nat, j < n → y - 50 ≠ nI j) : -9223372036854775808 = odR n yk yv yc C mi sn ee wk wy x y z := (@if_neg _ (Classical.propDecidable _) (fun q => q.2.1.elim (cell_nex h) (fun q => q.elim h2 (fun q => h3.elim q.1 (fun z => hh_no z q.2)))) _ _ _).symm
theorem od_no3 (h : z < 0 ∨ 1 < z) : -9223372036854775808 = odR n yk yv yc C mi sn ee wk wy x y z := (@if_neg _ (Classical.propDecidable _) (fun q => q.2.2 h) _ _ _).symm
theorem od_yes (hx : jx < 36) (hy : (∃ k : Nat, k < 36 ∧ y = nI k) ∨ y = 40 ∨ (¬ y < 50 ∧ hh n (y - 50))) (h1 : ¬ z < 0) (h2 : ¬ 1 < z) (hT : T = tmN (edB ee) (drN C mi sn) wy jx) (e : i = wk) : odR n yk yv yc C mi sn ee wk wy (nI jx) y z = ptR (odU yk yv yc C mi sn ee (T i) y) (20 ^ wk) z := by
  rw [odR, @if_pos _ (Classical.propDecidable _) ⟨⟨jx, hx, rfl⟩, hy, fun q => q.elim h1 h2⟩ _ _ _, nI_clamp (by omega), hT, e]
theorem od_c (hx : jx < 36) (hy : jy < 36) (h1 : ¬ z < 0) (h2 : ¬ 1 < z) (hT : T = tmN (edB ee) (drN C mi sn) wy jx) (e : i = wk) : ptR (T i jy) (20 ^ wk) z = odR n yk yv yc C mi sn ee wk wy (nI jx) (nI jy) z := by
  rw [od_yes hx (Or.inl ⟨jy, hy, rfl⟩) h1 h2 hT e, odU, @if_pos _ (Classical.propDecidable _) ⟨jy, hy, rfl⟩ _ _ _, nI_clamp (by omega)]
theorem od_o (hx : jx < 36) (hy : y = 40) (h1 : ¬ z < 0) (h2 : ¬ 1 < z) (hT : T = tmN (edB ee) (drN C mi sn) wy jx) (e : i = wk) : ptR (msN (fun k => edB ee k = true) (T i) 36) (20 ^ wk) z = odR n yk yv yc C mi sn ee wk wy (nI jx) y z := by
  rw [od_yes hx (Or.inr (Or.inl hy)) h1 h2 hT e, odU, @if_neg _ (Classical.propDecidable _) (show ¬ ∃ k : Nat, k < 36 ∧ y = nI k from fun ⟨k, hk, q⟩ => absurd ((nI_eq (a := k) (b := 40) (by omega) (by omega)).mp (q.symm.trans hy)) (by omega)) _ _ _, if_pos hy]
theorem od_h (hn : n ≤ 8) (hx : jx < 36) (hh9 : h < n) (hy : y - 50 = nI h) (h5 : ¬ y < 50) (h1 : ¬ z < 0) (h2 : ¬ 1 < z) (hT : T = tmN (edB ee) (drN C mi sn) wy jx) (e : i = wk) : ptR (msN (fun k => ¬ edB ee k = true ∧ ¬ RV C mi sn h (yk h) (yv h) (yc h) < apR (nI k) (yc h)) (T i) 36) (20 ^ wk) z = odR n yk yv yc C mi sn ee wk wy (nI jx) y z := by
  have hne : ¬ ∃ k : Nat, k < 36 ∧ y = nI k := fun ⟨k, hk, q⟩ => h5 (by rw [q]; exact (nI_ltI (a := k) (b := 50) (by omega) (by omega)).mpr (by omega))
  have h40 : ¬ y = 40 := fun q => h5 (by rw [q]; decide)
  rw [od_yes hx (Or.inr (Or.inr ⟨h5, by rw [hy]; exact hh_yes hh9⟩)) h1 h2 hT e, odU, @if_neg _ (Classical.propDecidable _) hne _ _ _, if_neg h40, hy, nI_clamp (by omega)]
theorem od_b (hx : jx < 36) (hd : ∀ c, c < 36 → drN C mi sn c ≤ 5) (hw : ∀ k, wy k < 8) (hT : T = tmN (edB ee) (drN C mi sn) wy jx) : ∀ k, k ≤ 6 → (∀ c, c < 36 → T k c ≤ 64000000) ∧ ∀ m : Nat → Prop, msN m (T k) 36 ≤ 64000000 := fun k hk => by
  subst hT
  refine ⟨tm_b hx hd hw hk, fun m => ?_⟩
  have h1 := ms_le (m := m) (A := tmN (edB ee) (drN C mi sn) wy jx k) 36
  rw [tm_sum hx hd hw k] at h1
  have h2 := tw_p k hk
  omega
end
/-! rows of ways; the first best of them -/
noncomputable def wyR (r k i : Nat) : Nat := r / 8 ^ (k - 1 - i) % 8
theorem wyR_lt {r k i : Nat} : wyR r k i < 8 := Nat.mod_lt _ (by decide)
section
variable {r k i c0 : Nat} {ed : Nat → Bool} {dr : Nat → Nat}
theorem wy_2 (h1 : i ≤ k) (h : i - 1 = 2) (hr : r < 512) : wyR r k (k - i) = r / 64 := by
  rw [wyR, show k - 1 - (k - i) = 2 by omega]
  show r / 64 % 8 = r / 64
  omega
theorem wy_1 (h1 : i ≤ k) (h : i - 1 = 1) : wyR r k (k - i) = r / 8 % 8 := by
  rw [wyR, show k - 1 - (k - i) = 1 by omega]
theorem wy_0 (h1 : i ≤ k) (h0 : 0 < i) (h : i - 1 = 0) : wyR r k (k - i) = r % 8 := by
  rw [wyR, show k - 1 - (k - i) = 0 by omega]
  show r / 1 % 8 = r % 8
  rw [Nat.div_one]
theorem tm_s {f : Nat → Int64} {w : Nat} (h1 : i ≤ k) (h0 : 0 < i) (hw : wyR r k (k - i) = w) (h : lnA f (gsF ed dr w (tmN ed dr (wyR r k) c0 (k - i)) 36)) : lnA f (tmN ed dr (wyR r k) c0 (k - (i - 1))) := by
  subst hw
  rw [show k - (i - 1) = (k - i) + 1 by omega]
  exact h
end
noncomputable def fmN (U : Nat → Nat) : Nat → Nat
  | 0 => 0
  | r + 1 => if r = 0 ∨ U (fmN U r) < U r then r else fmN U r
theorem fm_lt {U : Nat → Nat} : ∀ m : Nat, 0 < m → fmN U m < m
  | 0, h => absurd h (Nat.lt_irrefl 0)
  | m + 1, _ => by
    show (if m = 0 ∨ U (fmN U m) < U m then m else fmN U m) < m + 1
    split
    · omega
    · rename_i h
      have := fm_lt (U := U) m (by omega)
      omega
/-- what the reference knows behind i rows -/
noncomputable def fmI (U : Nat → Nat) (V : Nat → Int64) (i : Nat) (q : Int32) (b : Int64) : Prop := (i = 0 ∧ q = -1) ∨ (0 < i ∧ q = nI (fmN U i) ∧ b = V (fmN U i))
section
variable {U : Nat → Nat} {V : Nat → Int64} {i : Nat} {q : Int32} {b v : Int64}
theorem fm_0 : fmI U V 0 (-1) b := Or.inl ⟨rfl, rfl⟩
theorem fm_a (h : fmI U V i q b) (hi : i < 512) (hq : q = -1) (hv : v = V i) : fmI U V (i + 1) (nI i) v := by
  have h0 : i = 0 := by
    rcases h with ⟨h1, _⟩ | ⟨h1, h2, _⟩
    · exact h1
    · have h3 := fm_lt (U := U) i h1
      exact absurd (h2.symm.trans hq) (nI_nm1 (by omega))
  have e : fmN U (i + 1) = i := if_pos (Or.inl h0)
  exact Or.inr ⟨by omega, by rw [e], by rw [e]; exact hv⟩
theorem fm_b (h : fmI U V i q b) (hq : ¬ q = -1) (hv : v = V i) (hc : V (fmN U i) < V i → U (fmN U i) < U i) (h2 : ¬ v ≤ b) : fmI U V (i + 1) (nI i) v := by
  rcases h with ⟨_, h1⟩ | ⟨h0, h1, h3⟩
  · exact absurd h1 hq
  · have e : fmN U (i + 1) = i := if_pos (Or.inr (hc (by rw [← h3, ← hv]; exact Int64.not_le.mp h2)))
    exact Or.inr ⟨by omega, by rw [e], by rw [e]; exact hv⟩
theorem fm_c (h : fmI U V i q b) (hq : ¬ q = -1) (hv : v = V i) (hc : U (fmN U i) < U i → V (fmN U i) < V i) (h2 : v ≤ b) : fmI U V (i + 1) q b := by
  rcases h with ⟨_, h1⟩ | ⟨h0, h1, h3⟩
  · exact absurd h1 hq
  · have e : fmN U (i + 1) = fmN U i := if_neg (fun z => z.elim (by omega) (fun z => by
      have z2 := hc z
      rw [← h3, ← hv] at z2
      exact absurd h2 (Int64.not_le.mpr z2)))
    exact Or.inr ⟨by omega, by rw [e]; exact h1, by rw [e]; exact h3⟩
theorem fm_e {m : Nat} (h : fmI U V i q b) (e : i = m) (hm : 0 < m) : q = nI (fmN U m) ∧ b = V (fmN U m) := by
  subst e
  rcases h with ⟨h1, _⟩ | ⟨_, h1⟩
  · omega
  · exact h1
end
/-- how often by row r one is on cell j; and not over the edge -/
noncomputable def bcU (C : List pCla) (mi sn : Int32) (ee c0 k j r : Nat) : Nat := tmN (edB ee) (drN C mi sn) (wyR r k) c0 k j
noncomputable def boU (C : List pCla) (mi sn : Int32) (ee c0 k r : Nat) : Nat := msN (fun c => edB ee c = true) (tmN (edB ee) (drN C mi sn) (wyR r k) c0 k) 36
noncomputable def bsU (C : List pCla) (mi sn : Int32) (ee c0 k r : Nat) : Nat := 20 ^ k - boU C mi sn ee c0 k r
theorem ps_8 {k : Nat} (h1 : 1 ≤ k) (h : k ≤ 3) : 8 ^ k ≤ 512 ∧ 0 < 8 ^ k := by
  have : k = 1 ∨ k = 2 ∨ k = 3 := by omega
  rcases this with rfl | rfl | rfl <;> decide
section
variable {C : List pCla} {mi sn : Int32} {ee c0 k j : Nat}
theorem bc_b (hx : c0 < 36) (hd : ∀ c, c < 36 → drN C mi sn c ≤ 5) (hk : k ≤ 3) (hj : j < 36) (r : Nat) : bcU C mi sn ee c0 k j r ≤ 64000000 := tm_b hx hd (fun _ => wyR_lt) (by omega) j hj
theorem bo_b (hx : c0 < 36) (hd : ∀ c, c < 36 → drN C mi sn c ≤ 5) (hk : k ≤ 3) (r : Nat) : boU C mi sn ee c0 k r ≤ 20 ^ k := by
  have h1 := ms_le (m := fun c => edB ee c = true) (A := tmN (edB ee) (drN C mi sn) (wyR r k) c0 k) 36
  rw [tm_sum hx hd (fun _ => wyR_lt) k] at h1
  exact h1
theorem bc_v (hx : c0 < 36) (hd : ∀ c, c < 36 → drN C mi sn c ≤ 5) (hk : k ≤ 3) (hj : j < 36) (a b : Nat) : lN (bcU C mi sn ee c0 k j a) < lN (bcU C mi sn ee c0 k j b) ↔ bcU C mi sn ee c0 k j a < bcU C mi sn ee c0 k j b := by
  have h1 := bc_b (ee := ee) hx hd hk hj a
  have h2 := bc_b (ee := ee) hx hd hk hj b
  exact pk_lLT (by omega) (by omega)
theorem ng_lt {a b : Nat} (ha : a ≤ 64000000) (hb : b ≤ 64000000) : -(lN a) < -(lN b) ↔ b < a := by
  have h1 := pk_lT (n := a) (by omega)
  have h2 := pk_lT (n := b) (by omega)
  have e1 : (-(lN a)).toInt = -(a : Int) := by rw [Int64.toInt_neg, h1]; exact Int.bmod_eq_of_le (by omega) (by omega)
  have e2 : (-(lN b)).toInt = -(b : Int) := by rw [Int64.toInt_neg, h2]; exact Int.bmod_eq_of_le (by omega) (by omega)
  rw [Int64.lt_iff_toInt_lt, e1, e2]
  omega
theorem bs_v (hx : c0 < 36) (hd : ∀ c, c < 36 → drN C mi sn c ≤ 5) (hk : k ≤ 3) (a b : Nat) : -(lN (boU C mi sn ee c0 k a)) < -(lN (boU C mi sn ee c0 k b)) ↔ bsU C mi sn ee c0 k a < bsU C mi sn ee c0 k b := by
  have h1 := bo_b (ee := ee) hx hd hk a
  have h2 := bo_b (ee := ee) hx hd hk b
  have h3 := tw_p k (by omega)
  rw [ng_lt (by omega) (by omega), bsU, bsU]
  omega
end
/-! answers of best, bestOdds, safe -/
noncomputable def btR (C : List pCla) (mi sn : Int32) (ee : Nat) (x y z u : Int32) : Int32 := if x < 0 ∨ 35 < x then -1 else if y < 0 ∨ 35 < y then -1 else if u < 0 ∨ 2 < u then -1 else if z < 1 ∨ 3 < z then -2 else if z ≤ u then -1 else nI (wyR (fmN (bcU C mi sn ee x.toNatClampNeg z.toNatClampNeg y.toNatClampNeg) (8 ^ z.toNatClampNeg)) z.toNatClampNeg u.toNatClampNeg)
noncomputable def boR (C : List pCla) (mi sn : Int32) (ee : Nat) (x y z u : Int32) : Int64 := if x < 0 ∨ 35 < x then -9223372036854775808 else if y < 0 ∨ 35 < y then -9223372036854775808 else if z < 1 ∨ 3 < z then -9223372036854775808 else if u < 0 ∨ 1 < u then -9223372036854775808 else ptR (bcU C mi sn ee x.toNatClampNeg z.toNatClampNeg y.toNatClampNeg (fmN (bcU C mi sn ee x.toNatClampNeg z.toNatClampNeg y.toNatClampNeg) (8 ^ z.toNatClampNeg))) (20 ^ z.toNatClampNeg) u
noncomputable def saR (C : List pCla) (mi sn : Int32) (ee : Nat) (x y z : Int32) : Int32 := if x < 0 ∨ 35 < x then -1 else if z < 0 ∨ 2 < z then -1 else if y < 1 ∨ 3 < y then -2 else if y ≤ z then -1 else nI (wyR (fmN (bsU C mi sn ee x.toNatClampNeg y.toNatClampNeg) (8 ^ y.toNatClampNeg)) y.toNatClampNeg z.toNatClampNeg)
section
variable {C : List pCla} {mi sn x y z u : Int32} {ee jx jy jz ju r k : Nat}
theorem in_02 (h : ju ≤ 2) : ¬ (nI ju < 0 ∨ 2 < nI ju) := fun q => q.elim (nI_pos (by omega)) (nI_nlt (a := 2) (by omega) (by omega))
theorem in_13 (h1 : 1 ≤ jz) (h : jz ≤ 3) : ¬ (nI jz < 1 ∨ 3 < nI jz) := fun q => q.elim (fun z => absurd ((nI_ltI (a := jz) (b := 1) (by omega) (by omega)).mp z) (by omega)) (nI_nlt (a := 3) (by omega) (by omega))
theorem bt_1 (h : x < 0 ∨ 35 < x) : -1 = btR C mi sn ee x y z u := (if_pos h).symm
theorem bt_2 (h : y < 0 ∨ 35 < y) : -1 = btR C mi sn ee x y z u := by
  unfold btR
  split
  · rfl
  · first | rw [if_pos h] | rfl
theorem bt_3 (h : u < 0 ∨ 2 < u) : -1 = btR C mi sn ee x y z u := by
  unfold btR
  split
  · rfl
  · split
    · rfl
    · first | rw [if_pos h] | rfl
theorem bt_b (hx : jx < 36) (hy : jy < 36) (hu : ju ≤ 2) (h : z < 1 ∨ 3 < z) : -2 = btR C mi sn ee (nI jx) (nI jy) z (nI ju) := by
  rw [btR, if_neg (cell_yes hx), if_neg (cell_yes hy), if_neg (in_02 hu), if_pos h]
theorem bt_k (hx : jx < 36) (hy : jy < 36) (hu : ju ≤ 2) (h1 : 1 ≤ jz) (h3 : jz ≤ 3) (h : jz ≤ ju) : -1 = btR C mi sn ee (nI jx) (nI jy) (nI jz) (nI ju) := by
  rw [btR, if_neg (cell_yes hx), if_neg (cell_yes hy), if_neg (in_02 hu), if_neg (in_13 h1 h3), if_pos ((nI_leI (a := jz) (b := ju) (by omega) (by omega)).mpr h)]
theorem bt_y (hx : jx < 36) (hy : jy < 36) (h1 : 1 ≤ jz) (h3 : jz ≤ 3) (h : ju < jz) : nI (wyR (fmN (bcU C mi sn ee jx jz jy) (8 ^ jz)) jz ju) = btR C mi sn ee (nI jx) (nI jy) (nI jz) (nI ju) := by
  rw [btR, if_neg (cell_yes hx), if_neg (cell_yes hy), if_neg (in_02 (by omega)), if_neg (in_13 h1 h3), if_neg (fun q => absurd ((nI_leI (a := jz) (b := ju) (by omega) (by omega)).mp q) (by omega)), nI_clamp (n := jx) (by omega), nI_clamp (n := jy) (by omega), nI_clamp (n := jz) (by omega), nI_clamp (n := ju) (by omega)]
theorem bq_1 (h : x < 0 ∨ 35 < x) : -9223372036854775808 = boR C mi sn ee x y z u := (if_pos h).symm
theorem bq_2 (h : y < 0 ∨ 35 < y) : -9223372036854775808 = boR C mi sn ee x y z u := by
  unfold boR
  split
  · rfl
  · first | rw [if_pos h] | rfl
theorem bq_3 (h : z < 1 ∨ 3 < z) : -9223372036854775808 = boR C mi sn ee x y z u := by
  unfold boR
  split
  · rfl
  · split
    · rfl
    · first | rw [if_pos h] | rfl
theorem bq_4 (h : u < 0 ∨ 1 < u) : -9223372036854775808 = boR C mi sn ee x y z u := by
  unfold boR
  split
  · rfl
  · split
    · rfl
    · split
      · rfl
      · first | rw [if_pos h] | rfl
theorem bq_y (hx : jx < 36) (hy : jy < 36) (h1 : 1 ≤ jz) (h3 : jz ≤ 3) (hu : ¬ u < 0) (hu1 : ¬ 1 < u) : ptR (bcU C mi sn ee jx jz jy (fmN (bcU C mi sn ee jx jz jy) (8 ^ jz))) (20 ^ jz) u = boR C mi sn ee (nI jx) (nI jy) (nI jz) u := by
  rw [boR, if_neg (cell_yes hx), if_neg (cell_yes hy), if_neg (in_13 h1 h3), if_neg (show ¬ (u < 0 ∨ 1 < u) from fun q => q.elim hu hu1), nI_clamp (n := jx) (by omega), nI_clamp (n := jy) (by omega), nI_clamp (n := jz) (by omega)]
theorem sa_1 (h : x < 0 ∨ 35 < x) : -1 = saR C mi sn ee x y z := (if_pos h).symm
theorem sa_2 (h : z < 0 ∨ 2 < z) : -1 = saR C mi sn ee x y z := by
  unfold saR
  split
  · rfl
  · first | rw [if_pos h] | rfl
theorem sa_b (hx : jx < 36) (hz : jz ≤ 2) (h : y < 1 ∨ 3 < y) : -2 = saR C mi sn ee (nI jx) y (nI jz) := by
  rw [saR, if_neg (cell_yes hx), if_neg (in_02 hz), if_pos h]
theorem sa_k (hx : jx < 36) (hz : jz ≤ 2) (h1 : 1 ≤ jy) (h3 : jy ≤ 3) (h : jy ≤ jz) : -1 = saR C mi sn ee (nI jx) (nI jy) (nI jz) := by
  rw [saR, if_neg (cell_yes hx), if_neg (in_02 hz), if_neg (in_13 h1 h3), if_pos ((nI_leI (a := jy) (b := jz) (by omega) (by omega)).mpr h)]
theorem sa_y (hx : jx < 36) (h1 : 1 ≤ jy) (h3 : jy ≤ 3) (h : jz < jy) : nI (wyR (fmN (bsU C mi sn ee jx jy) (8 ^ jy)) jy jz) = saR C mi sn ee (nI jx) (nI jy) (nI jz) := by
  rw [saR, if_neg (cell_yes hx), if_neg (in_02 (by omega)), if_neg (in_13 h1 h3), if_neg (fun q => absurd ((nI_leI (a := jy) (b := jz) (by omega) (by omega)).mp q) (by omega)), nI_clamp (n := jx) (by omega), nI_clamp (n := jy) (by omega), nI_clamp (n := jz) (by omega)]
theorem wo_2 (h : k - 1 - ju = 2) (h3 : k ≤ 3) (hr : r < 512) : wyR r k ju = r / 64 := by
  rw [wyR, h]
  show r / 64 % 8 = r / 64
  omega
theorem wo_1 (h : k - 1 - ju = 1) : wyR r k ju = r / 8 % 8 := by
  rw [wyR, h]
theorem wo_0 (h : k - 1 - ju = 0) : wyR r k ju = r % 8 := by
  rw [wyR, h]
  show r / 1 % 8 = r % 8
  rw [Nat.div_one]
end
/-! the class's words -/
noncomputable def inB (mk : Int64) (x : Int32) : Prop := mk >>> (x.toInt64 &&& 63) &&& 1 = 1
theorem sh_k : ∀ k : Nat, k < 64 → ((((nI k).toInt64 &&& 63 : Int64)).toBitVec.smod 64).toNat = k := by decide +kernel
theorem in_N {m k : Nat} (hm : m < 2 ^ 62) (hk : k < 36) : inB (lN m) (nI k) ↔ m / 2 ^ k % 2 = 1 := by
  have hle : m / 2 ^ k ≤ m := Nat.div_le_self _ _
  rw [inB, pf_shr (sh_k k (by omega)) hm, wb_a1 (by omega), show (1 : Int64) = lN 1 from rfl, pk_lEQ (by omega) (by omega)]
theorem in_E {ee k : Nat} (hm : ee < 2 ^ 36) (hk : k < 36) : inB (lN ee) (nI k) ↔ edB ee k = true := (in_N (by omega) hk).trans ⟨fun h => decide_eq_true h, fun h => of_decide_eq_true h⟩
theorem and7n : ∀ v : Nat, v < 64 → nI v &&& 7 = nI (v % 8) := by decide +kernel
theorem tz_gt {t : Nat} (h0 : 0 < t) (h : t < 2 ^ 63) : 0 < lg_cmp (lN t) 0 := by
  rw [lg_cmp_gt, show (0 : Int64) = lN 0 from rfl, pk_lLT (by omega) (by omega)]
  exact h0
theorem gp_step {a1 b1 i : Nat} (hA : a1 ≤ 64000000) (hB : b1 ≤ 64000000) (hb : ¬ b1 = 0) (h : i = 0 ∨ (b1 < a1 ∧ a1 * b1 * 2 ^ (i - 1) ≤ 4503599627370496)) : i + 1 = 0 ∨ (a1 % b1 < b1 ∧ b1 * (a1 % b1) * 2 ^ (i + 1 - 1) ≤ 4503599627370496) := by
  have h1 : a1 % b1 < b1 := Nat.mod_lt _ (by omega)
  refine Or.inr ⟨h1, ?_⟩
  rw [Nat.add_sub_cancel]
  rcases h with rfl | ⟨h2, h3⟩
  · have h4 : b1 * (a1 % b1) ≤ 64000000 * 64000000 := Nat.mul_le_mul hB (by omega)
    rw [Nat.pow_zero, Nat.mul_one]
    omega
  · by_cases z : i = 0
    · subst z
      have h4 : b1 * (a1 % b1) ≤ 64000000 * 64000000 := Nat.mul_le_mul hB (by omega)
      rw [Nat.pow_zero, Nat.mul_one]
      omega
    · have h5 := gcd_tn hb (Nat.le_of_lt h2)
      have h6 : 2 * (a1 % b1) ≤ a1 := by omega
      have e : 2 ^ i = 2 * 2 ^ (i - 1) := by rw [← Nat.pow_succ', Nat.succ_eq_add_one, show i - 1 + 1 = i by omega]
      have h7 : b1 * (2 * (a1 % b1)) ≤ b1 * a1 := Nat.mul_le_mul_left b1 h6
      have h8 : b1 * (a1 % b1) * 2 ^ i = b1 * (2 * (a1 % b1)) * 2 ^ (i - 1) := by rw [e]; ac_rfl
      rw [h8]
      refine Nat.le_trans (Nat.mul_le_mul_right _ h7) ?_
      rw [Nat.mul_comm b1 a1]
      exact h3
theorem gp_end {a1 b1 i a b : Nat} (hi : 64 ≤ i) (h : i = 0 ∨ (b1 < a1 ∧ a1 * b1 * 2 ^ (i - 1) ≤ 4503599627370496)) (hG : Nat.gcd a1 b1 = Nat.gcd a b) : lN a1 = lN (Nat.gcd a b) := by
  rcases h with h | ⟨h1, h2⟩
  · omega
  · have h3 : 2 ^ 63 ≤ 2 ^ (i - 1) := Nat.pow_le_pow_right (by decide) (by omega)
    have h4 : b1 = 0 := Nat.eq_zero_of_not_pos fun hp => by
      have h5 : 1 ≤ a1 * b1 := Nat.mul_pos (by omega) hp
      have h6 : 1 * 2 ^ 63 ≤ a1 * b1 * 2 ^ (i - 1) := Nat.mul_le_mul h5 h3
      omega
    rw [← hG, h4, Nat.gcd_zero_right]
theorem gp_z {a1 b1 a b : Nat} (h : b1 = 0) (hG : Nat.gcd a1 b1 = Nat.gcd a b) : lN a1 = lN (Nat.gcd a b) := by rw [← hG, h, Nat.gcd_zero_right]
theorem pu_0 {a b : Nat} {x : Int32} (hx : x = 0) : lN (a / Nat.gcd a b) = ptR a b x := by rw [ptR, if_pos hx]
theorem pu_1 {a b : Nat} {x : Int32} (hx : ¬ x = 0) : lN (b / Nat.gcd a b) = ptR a b x := by rw [ptR, if_neg hx]
theorem gcd_b {a b : Nat} (hb : 0 < b) : 0 < Nat.gcd a b ∧ Nat.gcd a b ≤ b := ⟨Nat.gcd_pos_of_pos_right a hb, Nat.gcd_le_right a hb⟩
theorem lN_mr (a b : Nat) : lN a * lN b = lN (b * a) := by rw [lN_mul, Nat.mul_comm]
/-! the last step's hits -/
noncomputable def hbN (ma c : Nat) : Nat := ma / 2 ^ c % 2
noncomputable def htN (ed : Nat → Bool) (dr : Nat → Nat) (ma w c : Nat) : Nat := if ed c = true then 20 * hbN ma c else (20 - 2 * dr c) * hbN ma (nxN c w) + dr c * hbN ma (nxN c ((w + 7) % 8)) + dr c * hbN ma (nxN c ((w + 1) % 8))
noncomputable def mmN (ma : Nat) (A : Nat → Nat) : Nat → Nat := smN (fun c => A c * hbN ma c)
section
variable {ma w i v n c : Nat} {A T : Nat → Nat} {ed : Nat → Bool} {dr : Nat → Nat}
theorem hb_2 : hbN ma c < 2 := Nat.mod_lt _ (by decide)
theorem sm_cg {B : Nat → Nat} : ∀ n : Nat, (∀ k, k < n → A k = B k) → smN A n = smN B n
  | 0, _ => rfl
  | n + 1, h => by
    show smN A n + A n = smN B n + B n
    rw [sm_cg n (fun k hk => h k (by omega)), h n (by omega)]
theorem mm_ad (hi : i < n) : mmN ma (adA A i v) n = mmN ma A n + v * hbN ma i := by
  have e : (fun c => adA A i v c * hbN ma c) = adA (fun c => A c * hbN ma c) i (v * hbN ma i) := funext fun k => by
    show (if k = i then A k + v else A k) * hbN ma k = if k = i then A k * hbN ma k + v * hbN ma i else A k * hbN ma k
    by_cases q : k = i
    · rw [if_pos q, if_pos q, Nat.add_mul, q]
    · rw [if_neg q, if_neg q]
  rw [mmN, e, sm_ad n hi]
  rfl
theorem mm_0 : mmN ma (fun _ => 0) n = 0 := by
  rw [mmN, sm_cg (B := fun _ => 0) n (fun k _ => Nat.zero_mul _), sm_0]
theorem ht_sum (hw : w < 8) : ∀ c : Nat, c ≤ 36 → mmN ma (gsF ed dr w T c) 36 = smN (fun c => T c * htN ed dr ma w c) c
  | 0, _ => mm_0
  | c + 1, h => by
    have ih := ht_sum hw c (by omega)
    show mmN ma (gsF ed dr w T (c + 1)) 36 = smN (fun c => T c * htN ed dr ma w c) c + T c * htN ed dr ma w c
    by_cases z : T c = 0
    · rw [gs_0 z, ih, z, Nat.zero_mul, Nat.add_zero]
    · by_cases e : ed c = true
      · rw [gs_e z e, mm_ad (by omega), ih, htN, if_pos e]
        congr 1
        ac_rfl
      · rw [gs_n z e, mm_ad (nx_lt c (by omega) _ (Nat.mod_lt _ (by decide))), mm_ad (nx_lt c (by omega) _ (Nat.mod_lt _ (by decide))), mm_ad (nx_lt c (by omega) w hw), ih, htN, if_neg e, Nat.mul_add, Nat.mul_add, Nat.add_assoc, Nat.add_assoc, Nat.add_assoc]
        congr 1
        rw [Nat.mul_comm (20 - 2 * dr c) (T c), Nat.mul_comm (dr c) (T c), Nat.mul_assoc, Nat.mul_assoc, Nat.mul_assoc]
theorem mm_ms : ∀ n : Nat, mmN ma A n = msN (fun k => ma / 2 ^ k % 2 = 1) A n
  | 0 => rfl
  | n + 1 => by
    show mmN ma A n + A n * hbN ma n = _
    have h2 := hb_2 (ma := ma) (c := n)
    by_cases q : ma / 2 ^ n % 2 = 1
    · rw [ms_p (m := fun k => ma / 2 ^ k % 2 = 1) q, mm_ms n, show hbN ma n = 1 from q, Nat.mul_one]
    · have e : hbN ma n = 0 := by
        have : ¬ hbN ma n = 1 := q
        omega
      rw [ms_n (m := fun k => ma / 2 ^ k % 2 = 1) q, mm_ms n, e, Nat.mul_zero, Nat.add_zero]
theorem tm_cg {wy wz : Nat → Nat} {c0 : Nat} : ∀ k : Nat, (∀ i, i < k → wy i = wz i) → tmN ed dr wy c0 k = tmN ed dr wz c0 k
  | 0, _ => rfl
  | k + 1, h => by
    show gsF ed dr (wy k) (tmN ed dr wy c0 k) 36 = gsF ed dr (wz k) (tmN ed dr wz c0 k) 36
    rw [tm_cg k (fun i hi => h i (by omega)), h k (by omega)]
end
/-- what the class knows behind i rows -/
noncomputable def fmJ (U : Nat → Nat) (i : Nat) (b : Int64) (q : Int32) : Prop := (i = 0 ∧ b = -1) ∨ (0 < i ∧ b = lN (U (fmN U i)) ∧ q = nI (fmN U i))
section
variable {U : Nat → Nat} {i : Nat} {q : Int32} {b v : Int64}
theorem fj_0 : fmJ U 0 (-1) q := Or.inl ⟨rfl, rfl⟩
theorem m1_lt {t : Nat} (h : t < 2 ^ 62) : (-1 : Int64) < lN t := by
  rw [Int64.lt_iff_toInt_lt, pk_lT (by omega), show (-1 : Int64).toInt = -1 from by decide]
  omega
theorem fj_y (h : fmJ U i b q) (hb : ∀ k, U k ≤ 64000000) (hc : b < lN (U i)) : fmJ U (i + 1) (lN (U i)) (nI i) := by
  have e : fmN U (i + 1) = i := if_pos (by
    rcases h with ⟨h1, _⟩ | ⟨_, h2, _⟩
    · exact Or.inl h1
    · rw [h2] at hc
      have h3 := hb (fmN U i)
      have h4 := hb i
      exact Or.inr ((pk_lLT (by omega) (by omega)).mp hc))
  exact Or.inr ⟨by omega, by rw [e], by rw [e]⟩
theorem fj_n (h : fmJ U i b q) (hb : ∀ k, U k ≤ 64000000) (hc : ¬ b < lN (U i)) : fmJ U (i + 1) b q := by
  have h4 := hb i
  rcases h with ⟨_, h2⟩ | ⟨h1, h2, h5⟩
  · exact absurd (by rw [h2]; exact m1_lt (by omega)) hc
  · have h3 := hb (fmN U i)
    have e : fmN U (i + 1) = fmN U i := if_neg (fun z => z.elim (by omega) (fun z => hc (by rw [h2]; exact (pk_lLT (by omega) (by omega)).mpr z)))
    exact Or.inr ⟨by omega, by rw [e]; exact h2, by rw [e]; exact h5⟩
end
/-- rows by their last way -/
noncomputable def ttN (C : List pCla) (mi sn : Int32) (ee j n r : Nat) : Nat → Nat := tmN (edB ee) (drN C mi sn) (wyR r n) j n
noncomputable def srU (C : List pCla) (mi sn : Int32) (ee j n ma r : Nat) : Nat := mmN ma (ttN C mi sn ee j n r) 36
section
variable {C : List pCla} {mi sn : Int32} {ee j n ma r w i : Nat}
theorem wy_up (hw : w < 8) (h : i < n) : wyR (r * 8 + w) (n + 1) i = wyR r n i := by
  rw [wyR, wyR, show n + 1 - 1 - i = (n - 1 - i) + 1 by omega, Nat.pow_succ', ← Nat.div_div_eq_div_mul, show (r * 8 + w) / 8 = r by omega]
theorem wy_la (hw : w < 8) : wyR (r * 8 + w) (n + 1) n = w := by
  rw [wyR, show n + 1 - 1 - n = 0 by omega, Nat.pow_zero, Nat.div_one]
  omega
theorem tt_up (hw : w < 8) : ttN C mi sn ee j (n + 1) (r * 8 + w) = gsF (edB ee) (drN C mi sn) w (ttN C mi sn ee j n r) 36 := by
  show gsF (edB ee) (drN C mi sn) (wyR (r * 8 + w) (n + 1) n) (tmN (edB ee) (drN C mi sn) (wyR (r * 8 + w) (n + 1)) j n) 36 = _
  rw [wy_la hw, tm_cg (wz := wyR r n) n (fun i hi => wy_up hw hi)]
  rfl
theorem sr_U (hw : w < 8) : srU C mi sn ee j (n + 1) ma (r * 8 + w) = smN (fun c => ttN C mi sn ee j n r c * htN (edB ee) (drN C mi sn) ma w c) 36 := by
  rw [srU, tt_up hw, ht_sum hw 36 (Nat.le_refl 36)]
theorem sr_b (hx : j < 36) (hd : ∀ c, c < 36 → drN C mi sn c ≤ 5) (hn : n ≤ 3) (r : Nat) : srU C mi sn ee j n ma r ≤ 64000000 := by
  rw [srU, mm_ms]
  have h1 := ms_le (m := fun k => ma / 2 ^ k % 2 = 1) (A := ttN C mi sn ee j n r) 36
  rw [show smN (ttN C mi sn ee j n r) 36 = 20 ^ n from tm_sum hx hd (fun _ => wyR_lt) n] at h1
  have h2 := tw_p n (by omega)
  omega
end
section
variable {ma j c w k r i n : Nat} {ed : Nat → Bool} {dr T : Nat → Nat}
theorem hb_y (hm : ma < 2 ^ 62) (hk : j < 36) (h : inB (lN ma) (nI j)) : 1 = nI (hbN ma j) := by
  rw [show hbN ma j = 1 from (in_N hm hk).mp h]
  rfl
theorem hb_n (hm : ma < 2 ^ 62) (hk : j < 36) (h : ¬ inB (lN ma) (nI j)) : 0 = nI (hbN ma j) := by
  have h1 : ¬ hbN ma j = 1 := fun z => h ((in_N hm hk).mpr z)
  have h2 := hb_2 (ma := ma) (c := j)
  rw [show hbN ma j = 0 by omega]
  rfl
theorem ht_e (e : ed c = true) : htN ed dr ma w c = 20 * hbN ma c := if_pos e
theorem ht_n (e : ¬ ed c = true) : htN ed dr ma w c = (20 - 2 * dr c) * hbN ma (nxN c w) + dr c * hbN ma (nxN c ((w + 7) % 8)) + dr c * hbN ma (nxN c ((w + 1) % 8)) := if_neg e
theorem ht_b (hd : dr c ≤ 5) : htN ed dr ma w c ≤ 20 := by
  by_cases e : ed c = true
  · rw [ht_e e]
    have := hb_2 (ma := ma) (c := c)
    omega
  · rw [ht_n e]
    have h1 : (20 - 2 * dr c) * hbN ma (nxN c w) ≤ (20 - 2 * dr c) * 1 := Nat.mul_le_mul_left _ (by have := hb_2 (ma := ma) (c := nxN c w); omega)
    have h2 : dr c * hbN ma (nxN c ((w + 7) % 8)) ≤ dr c * 1 := Nat.mul_le_mul_left _ (by have := hb_2 (ma := ma) (c := nxN c ((w + 7) % 8)); omega)
    have h3 : dr c * hbN ma (nxN c ((w + 1) % 8)) ≤ dr c * 1 := Nat.mul_le_mul_left _ (by have := hb_2 (ma := ma) (c := nxN c ((w + 1) % 8)); omega)
    omega
theorem up_g {f g : Nat → Int32} {v : Int32} (h : ∀ k, k < i → f k = g k) (hv : v = g i) : ∀ k, k < i + 1 → upd f i v k = g k := fun k hk => by
  by_cases e : k = i
  · subst e; rw [pk_us]; exact hv
  · rw [pk_un e]; exact h k (by omega)
theorem sm_q {q : Int64} {A : Nat → Nat} (h : q = lN (smN A i)) : q + lN (A i) = lN (smN A (i + 1)) := by
  rw [h, lN_add]
  rfl
theorem sm_z {q : Int64} {A : Nat → Nat} (h : q = lN (smN A i)) (e : i = n) : q = lN (smN A n) := e ▸ h
theorem sh_r3 : ∀ r : Nat, r < 64 → nI r >>> ((3 : Int32) &&& 31) &&& 7 = nI (r / 8 % 8) := by decide +kernel
theorem sh_r0 : ∀ r : Nat, r < 64 → nI r >>> ((0 : Int32) &&& 31) &&& 7 = nI (r % 8) := by decide +kernel
theorem and0 (x : Int32) : x &&& 0 = 0 := Int32.and_zero
end
theorem tt_b {C : List pCla} {mi sn : Int32} {ee j n r : Nat} (hx : j < 36) (hd : ∀ c, c < 36 → drN C mi sn c ≤ 5) (hn : n ≤ 3) : ∀ c, c < 36 → ttN C mi sn ee j n r c ≤ 64000000 := tm_b hx hd (fun _ => wyR_lt) (by omega)
/-- cells by a mask -/
noncomputable def csM (P : Nat → Prop) : Nat → Nat
  | 0 => 0
  | c + 1 => @ite Nat (P c) (Classical.propDecidable _) (csM P c ||| 2 ^ c) (csM P c)
section
variable {P : Nat → Prop} {q : Int64} {i n : Nat}
theorem cs_lt : ∀ n : Nat, csM P n < 2 ^ n
  | 0 => Nat.zero_lt_one
  | n + 1 => by
    have h := cs_lt n
    have h1 : 2 ^ n < 2 ^ (n + 1) := Nat.pow_lt_pow_right (by decide) (by omega)
    by_cases p : P n
    · rw [show csM P (n + 1) = csM P n ||| 2 ^ n from @if_pos _ (Classical.propDecidable _) p _ _ _]
      exact Nat.or_lt_two_pow (by omega) h1
    · rw [show csM P (n + 1) = csM P n from @if_neg _ (Classical.propDecidable _) p _ _ _]
      omega
theorem cs_b (j : Nat) : ∀ n : Nat, (csM P n).testBit j = true ↔ j < n ∧ P j
  | 0 => ⟨fun h => by rw [show csM P 0 = 0 from rfl, Nat.zero_testBit] at h; exact absurd h (by decide), fun h => absurd h.1 (Nat.not_lt_zero j)⟩
  | n + 1 => by
    by_cases p : P n
    · rw [show csM P (n + 1) = csM P n ||| 2 ^ n from @if_pos _ (Classical.propDecidable _) p _ _ _, Nat.testBit_or, Bool.or_eq_true, cs_b j n, Nat.testBit_two_pow, decide_eq_true_iff]
      constructor
      · rintro (⟨a, b⟩ | a)
        · exact ⟨by omega, b⟩
        · subst a; exact ⟨by omega, p⟩
      · rintro ⟨a, b⟩
        by_cases e : n = j
        · exact Or.inr e
        · exact Or.inl ⟨by omega, b⟩
    · rw [show csM P (n + 1) = csM P n from @if_neg _ (Classical.propDecidable _) p _ _ _, cs_b j n]
      constructor
      · rintro ⟨a, b⟩
        exact ⟨by omega, b⟩
      · rintro ⟨a, b⟩
        by_cases e : n = j
        · subst e; exact absurd b p
        · exact ⟨by omega, b⟩
theorem sl_1 : ∀ i : Nat, i < 36 → (1 : Int64) <<< ((nI i).toInt64 &&& 63) = lN (2 ^ i) := by decide +kernel
theorem cs_t (h : q = lN (csM P i)) (hi : i < 36) (h2 : P i) : q ||| (1 <<< ((nI i).toInt64 &&& 63)) = lN (csM P (i + 1)) := by
  have h3 := cs_lt (P := P) i
  have h4 : 2 ^ i < 2 ^ 64 := Nat.pow_lt_pow_right (by decide) (by omega)
  rw [h, sl_1 i hi, show csM P (i + 1) = csM P i ||| 2 ^ i from @if_pos _ (Classical.propDecidable _) h2 _ _ _]
  exact wb_or (by omega) h4
theorem cs_f (h : q = lN (csM P i)) (h2 : ¬ P i) : q = lN (csM P (i + 1)) := by rw [h, show csM P (i + 1) = csM P i from @if_neg _ (Classical.propDecidable _) h2 _ _ _]
theorem cs_e (h : q = lN (csM P i)) (e : i = n) : q = lN (csM P n) := e ▸ h
end
theorem tb_m {m k : Nat} : m / 2 ^ k % 2 = 1 ↔ m.testBit k = true := by
  rw [Nat.testBit_eq_decide_div_mod_eq, decide_eq_true_iff]
/-! masks -/
theorem al_1 : ∀ k : Nat, k < 36 → (18446744073709551615 : Nat).testBit k = true ∧ (68719476735 : Nat).testBit k = true := by decide +kernel
section
variable {A : Nat → Nat} {jy ee k : Nat} {P : Nat → Prop} {C : List pCla} {mi sn : Int32} {jx n : Nat}
theorem m_one (h : jy < 36) : msN (fun kq => 2 ^ jy / 2 ^ kq % 2 = 1) A 36 = A jy := by
  rw [ms_one (n := 36) (c := jy) (fun k hk => by
    show 2 ^ jy / 2 ^ k % 2 = 1 ↔ k = jy
    rw [tb_m, Nat.testBit_two_pow, decide_eq_true_iff]
    exact ⟨fun z => z.symm, fun z => z.symm⟩) 36 (Nat.le_refl 36), if_pos h]
theorem m_edg : msN (fun kq => ee / 2 ^ kq % 2 = 1) A 36 = msN (fun kq => edB ee kq = true) A 36 := ms_cg 36 (fun k _ => ⟨fun h => decide_eq_true h, fun h => of_decide_eq_true h⟩)
theorem nt_b (hk : k < 36) : (ee ^^^ 18446744073709551615).testBit k = true ↔ ¬ edB ee k = true := by
  rw [Nat.testBit_xor, (al_1 k hk).1, edB, ← Nat.testBit_eq_decide_div_mod_eq]
  cases ee.testBit k <;> decide
theorem m_see : msN (fun kq => (csM P 36 &&& (ee ^^^ 18446744073709551615)) / 2 ^ kq % 2 = 1) A 36 = msN (fun kq => ¬ edB ee kq = true ∧ P kq) A 36 := ms_cg 36 (fun k hk => by
  rw [tb_m, Nat.testBit_and, Bool.and_eq_true, cs_b k 36, nt_b hk]
  exact ⟨fun z => ⟨z.2, z.1.2⟩, fun z => ⟨⟨hk, z.2⟩, z.1⟩⟩)
theorem m_all : msN (fun kq => (68719476735 &&& (ee ^^^ 18446744073709551615)) / 2 ^ kq % 2 = 1) A 36 = msN (fun kq => ¬ edB ee kq = true) A 36 := ms_cg 36 (fun k hk => by
  rw [tb_m, Nat.testBit_and, Bool.and_eq_true, nt_b hk]
  exact ⟨fun z => z.2, fun z => ⟨(al_1 k hk).2, z⟩⟩)
theorem ms_sp {m : Nat → Prop} : ∀ n : Nat, msN m A n + msN (fun k => ¬ m k) A n = smN A n
  | 0 => rfl
  | n + 1 => by
    have ih := ms_sp (m := m) n
    have e : smN A (n + 1) = smN A n + A n := rfl
    by_cases p : m n
    · rw [ms_p p, ms_n (m := fun k => ¬ m k) (fun z => z p)]; omega
    · rw [ms_n p, ms_p (m := fun k => ¬ m k) p]; omega
theorem mk_lt {a : Nat} (ha : a < 2 ^ 36) (b : Nat) : a &&& b < 2 ^ 62 := Nat.lt_of_le_of_lt Nat.and_le_left (by omega)
theorem sr_bc (hy : jy < 36) : srU C mi sn ee jx n (2 ^ jy) = bcU C mi sn ee jx n jy := funext fun r => by
  rw [srU, mm_ms, m_one hy]
  rfl
theorem sr_bs (hx : jx < 36) (hd : ∀ c, c < 36 → drN C mi sn c ≤ 5) : srU C mi sn ee jx n (68719476735 &&& (ee ^^^ 18446744073709551615)) = bsU C mi sn ee jx n := funext fun r => by
  rw [srU, mm_ms, m_all, bsU, boU]
  have h := ms_sp (A := ttN C mi sn ee jx n r) (m := fun c => edB ee c = true) 36
  rw [show smN (ttN C mi sn ee jx n r) 36 = 20 ^ n from tm_sum hx hd (fun _ => wyR_lt) n] at h
  have e : tmN (edB ee) (drN C mi sn) (wyR r n) jx n = ttN C mi sn ee jx n r := rfl
  rw [e]
  omega
theorem fj_e {U : Nat → Nat} {m : Nat} {b : Int64} {q : Int32} (h : fmJ U m b q) (hm : 0 < m) : b = lN (U (fmN U m)) ∧ q = nI (fmN U m) ∧ fmN U m < m := by
  rcases h with ⟨h1, _⟩ | ⟨_, h2, h3⟩
  · omega
  · exact ⟨h2, h3, fm_lt m hm⟩
theorem p2_lt (h : jy < 36) : 2 ^ jy < 2 ^ 62 := Nat.pow_lt_pow_right (by decide) (by omega)
end
theorem le3_lt2 {x : Int32} (h : 3 ≤ x) : 2 < x := Int32.lt_of_lt_of_le (by decide) h
section
variable {C : List pCla} {mi sn x y z u : Int32} {ee jx jy : Nat}
theorem u_02 (h1 : ¬ u < 0) (h2 : u < 3) : ¬ (u < 0 ∨ 2 < u) := fun q => q.elim h1 (fun q => by
  obtain ⟨j, hj, e⟩ := nI_of2 (n := 3) (M := 3) (x := u) rfl h1 (Int32.le_of_lt h2)
  subst e
  have h3 := (nI_ltI (a := j) (b := 3) (by omega) (by omega)).mp h2
  have h4 := (nI_ltI (a := 2) (b := j) (by omega) (by omega)).mp q
  omega)
theorem bt_xb (hx : jx < 36) (hy : jy < 36) (h1 : ¬ u < 0) (h2 : u < 3) (h : z < 1 ∨ 3 < z) : -2 = btR C mi sn ee (nI jx) (nI jy) z u := by
  rw [btR, if_neg (cell_yes hx), if_neg (cell_yes hy), if_neg (u_02 h1 h2), if_pos h]
theorem bt_xk (hx : jx < 36) (hy : jy < 36) (h1 : ¬ u < 0) (h2 : u < 3) (h3 : ¬ z < 1) (h4 : ¬ 3 < z) (h : z ≤ u) : -1 = btR C mi sn ee (nI jx) (nI jy) z u := by
  rw [btR, if_neg (cell_yes hx), if_neg (cell_yes hy), if_neg (u_02 h1 h2), if_neg (show ¬ (z < 1 ∨ 3 < z) from fun q => q.elim h3 h4), if_pos h]
theorem sa_xb (hx : jx < 36) (h1 : ¬ z < 0) (h2 : z < 3) (h : y < 1 ∨ 3 < y) : -2 = saR C mi sn ee (nI jx) y z := by
  rw [saR, if_neg (cell_yes hx), if_neg (u_02 h1 h2), if_pos h]
theorem sa_xk (hx : jx < 36) (h1 : ¬ z < 0) (h2 : z < 3) (h3 : ¬ y < 1) (h4 : ¬ 3 < y) (h : y ≤ z) : -1 = saR C mi sn ee (nI jx) y z := by
  rw [saR, if_neg (cell_yes hx), if_neg (u_02 h1 h2), if_neg (show ¬ (y < 1 ∨ 3 < y) from fun q => q.elim h3 h4), if_pos h]
end
end mg05
section mg05
theorem ggX12_isCell_X12_in : GoodIn wsX12_isCell wsX12_in := gga_of 1217 rfl rfl rfl
theorem gX12_isCell_X12_in : GoodIn wsX12_isCell (va_wsS RX12 45 yX12_in wsX12_in) := goodIn_app (ggh_of [1215, 1216, 72] rfl rfl rfl) ggX12_isCell_X12_in
theorem ggX12_columnsOf_X12_in : GoodIn wsX12_columnsOf wsX12_in := gga_of 1217 rfl rfl rfl
theorem gX12_columnsOf_X12_in : GoodIn wsX12_columnsOf (va_wsS RX12 45 yX12_in wsX12_in) := goodIn_app (ggh_of [1215, 1216, 72] rfl rfl rfl) ggX12_columnsOf_X12_in
theorem ggX12_nextTo_X12_rowsOf : GoodIn wsX12_nextTo wsX12_rowsOf := gga_of 1370 rfl rfl rfl
theorem gX12_nextTo_X12_rowsOf : GoodIn wsX12_nextTo (va_wsS RX12 53 yX12_rowsOf wsX12_rowsOf) := goodIn_app (ggh_of [1368, 1369, 72] rfl rfl rfl) ggX12_nextTo_X12_rowsOf
theorem ggX12_nextTo_X12_columnsOf : GoodIn wsX12_nextTo wsX12_columnsOf := gga_of 1376 rfl rfl rfl
theorem gX12_nextTo_X12_columnsOf : GoodIn wsX12_nextTo (va_wsS RX12 56 yX12_columnsOf wsX12_columnsOf) := goodIn_app (ggh_of [1374, 1375, 72] rfl rfl rfl) ggX12_nextTo_X12_columnsOf
theorem ggX12_nextTo_X12_in : GoodIn wsX12_nextTo wsX12_in := gga_of 1217 rfl rfl rfl
theorem gX12_nextTo_X12_in : GoodIn wsX12_nextTo (va_wsS RX12 45 yX12_in wsX12_in) := goodIn_app (ggh_of [1215, 1216, 72] rfl rfl rfl) ggX12_nextTo_X12_in
theorem ggX12_apart_X12_size : GoodIn wsX12_apart wsX12_size := gga_of 1346 rfl rfl rfl
theorem gX12_apart_X12_size : GoodIn wsX12_apart (va_wsS RX12 49 yX12_size wsX12_size) := goodIn_app (ggh_of [1344, 1345, 72] rfl rfl rfl) ggX12_apart_X12_size
theorem ggX12_isHeap_X12_in : GoodIn wsX12_isHeap wsX12_in := gga_of 1217 rfl rfl rfl
theorem gX12_isHeap_X12_in : GoodIn wsX12_isHeap (va_wsS RX12 45 yX12_in wsX12_in) := goodIn_app (ggh_of [1215, 1216, 72] rfl rfl rfl) ggX12_isHeap_X12_in
noncomputable def dk05cleaf_cX12_in_0 : List (Nat × List Nat) := [(0, [26]), (1, [27]), (2, [161, 0, 12]), (5, [26]), (6, [28]), (7, [163, 0, 7]), (10, [4]), (11, [167, 0, 4]), (14, [3]), (15, [172])]
set_option maxRecDepth 100000 in
theorem dk05cleaf_cX12_in_0_a : btA cX12_in dk05cleaf_cX12_in_0 = true := by decide +kernel
theorem dX12_in_0 : decode cX12_in 0 = .ok (.iload_n 0, 1) := bd26 (btAt dk05cleaf_cX12_in_0_a 0 rfl)
theorem dX12_in_1 : decode cX12_in 1 = .ok (.iload_n 1, 1) := bd27 (btAt dk05cleaf_cX12_in_0_a 1 rfl)
theorem dX12_in_2 : decode cX12_in 2 = .ok (.if_icmp .lt 12, 3) := bd161 (a := 0) (b := 12) (btAt dk05cleaf_cX12_in_0_a 2 rfl)
theorem dX12_in_5 : decode cX12_in 5 = .ok (.iload_n 0, 1) := bd26 (btAt dk05cleaf_cX12_in_0_a 3 rfl)
theorem dX12_in_6 : decode cX12_in 6 = .ok (.iload_n 2, 1) := bd28 (btAt dk05cleaf_cX12_in_0_a 4 rfl)
theorem dX12_in_7 : decode cX12_in 7 = .ok (.if_icmp .gt 7, 3) := bd163 (a := 0) (b := 7) (btAt dk05cleaf_cX12_in_0_a 5 rfl)
theorem dX12_in_10 : decode cX12_in 10 = .ok (.iconst 1, 1) := bd4 (btAt dk05cleaf_cX12_in_0_a 6 rfl)
theorem dX12_in_11 : decode cX12_in 11 = .ok (.goto 4, 3) := bd167 (a := 0) (b := 4) (btAt dk05cleaf_cX12_in_0_a 7 rfl)
theorem dX12_in_14 : decode cX12_in 14 = .ok (.iconst 0, 1) := bd3 (btAt dk05cleaf_cX12_in_0_a 8 rfl)
theorem dX12_in_15 : decode cX12_in 15 = .ok (.ireturn, 1) := bd172 (btAt dk05cleaf_cX12_in_0_a 9 rfl)
noncomputable def dk05cleaf_cX12_size_0 : List (Nat × List Nat) := [(0, [26]), (1, [156, 0, 8]), (4, [26]), (5, [116]), (6, [167, 0, 4]), (9, [26]), (10, [172])]
set_option maxRecDepth 100000 in
theorem dk05cleaf_cX12_size_0_a : btA cX12_size dk05cleaf_cX12_size_0 = true := by decide +kernel
theorem dX12_size_0 : decode cX12_size 0 = .ok (.iload_n 0, 1) := bd26 (btAt dk05cleaf_cX12_size_0_a 0 rfl)
theorem dX12_size_1 : decode cX12_size 1 = .ok (.ifCond .ge 8, 3) := bd156 (a := 0) (b := 8) (btAt dk05cleaf_cX12_size_0_a 1 rfl)
theorem dX12_size_4 : decode cX12_size 4 = .ok (.iload_n 0, 1) := bd26 (btAt dk05cleaf_cX12_size_0_a 2 rfl)
theorem dX12_size_5 : decode cX12_size 5 = .ok (.ineg, 1) := bd116 (btAt dk05cleaf_cX12_size_0_a 3 rfl)
theorem dX12_size_6 : decode cX12_size 6 = .ok (.goto 4, 3) := bd167 (a := 0) (b := 4) (btAt dk05cleaf_cX12_size_0_a 4 rfl)
theorem dX12_size_9 : decode cX12_size 9 = .ok (.iload_n 0, 1) := bd26 (btAt dk05cleaf_cX12_size_0_a 5 rfl)
theorem dX12_size_10 : decode cX12_size 10 = .ok (.ireturn, 1) := bd172 (btAt dk05cleaf_cX12_size_0_a 6 rfl)
noncomputable def dk05cleaf_cX12_isCell_0 : List (Nat × List Nat) := [(0, [26]), (1, [3]), (2, [16, 35]), (4, [184, 0, 45]), (7, [172])]
set_option maxRecDepth 100000 in
theorem dk05cleaf_cX12_isCell_0_a : btA cX12_isCell dk05cleaf_cX12_isCell_0 = true := by decide +kernel
theorem dX12_isCell_0 : decode cX12_isCell 0 = .ok (.iload_n 0, 1) := bd26 (btAt dk05cleaf_cX12_isCell_0_a 0 rfl)
theorem dX12_isCell_1 : decode cX12_isCell 1 = .ok (.iconst 0, 1) := bd3 (btAt dk05cleaf_cX12_isCell_0_a 1 rfl)
theorem dX12_isCell_2 : decode cX12_isCell 2 = .ok (.bipush 35, 2) := bd16 (a := 35) (btAt dk05cleaf_cX12_isCell_0_a 2 rfl)
theorem dX12_isCell_4 : decode cX12_isCell 4 = .ok (.invokestatic 45, 3) := bd184 (a := 0) (b := 45) (btAt dk05cleaf_cX12_isCell_0_a 3 rfl)
theorem dX12_isCell_7 : decode cX12_isCell 7 = .ok (.ireturn, 1) := bd172 (btAt dk05cleaf_cX12_isCell_0_a 4 rfl)
noncomputable def dk05cleaf_cX12_rowsOf_0 : List (Nat × List Nat) := [(0, [26]), (1, [16, 7]), (3, [159, 0, 8]), (6, [26]), (7, [5]), (8, [162, 0, 7]), (11, [2]), (12, [167, 0, 19]), (15, [26]), (16, [5]), (17, [164, 0, 13]), (20, [26]), (21, [16, 6]), (23, [162, 0, 7]), (26, [4]), (27, [167, 0, 4]), (30, [3]), (31, [172])]
set_option maxRecDepth 100000 in
theorem dk05cleaf_cX12_rowsOf_0_a : btA cX12_rowsOf dk05cleaf_cX12_rowsOf_0 = true := by decide +kernel
theorem dX12_rowsOf_0 : decode cX12_rowsOf 0 = .ok (.iload_n 0, 1) := bd26 (btAt dk05cleaf_cX12_rowsOf_0_a 0 rfl)
theorem dX12_rowsOf_1 : decode cX12_rowsOf 1 = .ok (.bipush 7, 2) := bd16 (a := 7) (btAt dk05cleaf_cX12_rowsOf_0_a 1 rfl)
theorem dX12_rowsOf_3 : decode cX12_rowsOf 3 = .ok (.if_icmp .eq 8, 3) := bd159 (a := 0) (b := 8) (btAt dk05cleaf_cX12_rowsOf_0_a 2 rfl)
theorem dX12_rowsOf_6 : decode cX12_rowsOf 6 = .ok (.iload_n 0, 1) := bd26 (btAt dk05cleaf_cX12_rowsOf_0_a 3 rfl)
theorem dX12_rowsOf_7 : decode cX12_rowsOf 7 = .ok (.iconst 2, 1) := bd5 (btAt dk05cleaf_cX12_rowsOf_0_a 4 rfl)
theorem dX12_rowsOf_8 : decode cX12_rowsOf 8 = .ok (.if_icmp .ge 7, 3) := bd162 (a := 0) (b := 7) (btAt dk05cleaf_cX12_rowsOf_0_a 5 rfl)
theorem dX12_rowsOf_11 : decode cX12_rowsOf 11 = .ok (.iconst (-1), 1) := bd2 (btAt dk05cleaf_cX12_rowsOf_0_a 6 rfl)
theorem dX12_rowsOf_12 : decode cX12_rowsOf 12 = .ok (.goto 19, 3) := bd167 (a := 0) (b := 19) (btAt dk05cleaf_cX12_rowsOf_0_a 7 rfl)
theorem dX12_rowsOf_15 : decode cX12_rowsOf 15 = .ok (.iload_n 0, 1) := bd26 (btAt dk05cleaf_cX12_rowsOf_0_a 8 rfl)
theorem dX12_rowsOf_16 : decode cX12_rowsOf 16 = .ok (.iconst 2, 1) := bd5 (btAt dk05cleaf_cX12_rowsOf_0_a 9 rfl)
theorem dX12_rowsOf_17 : decode cX12_rowsOf 17 = .ok (.if_icmp .le 13, 3) := bd164 (a := 0) (b := 13) (btAt dk05cleaf_cX12_rowsOf_0_a 10 rfl)
theorem dX12_rowsOf_20 : decode cX12_rowsOf 20 = .ok (.iload_n 0, 1) := bd26 (btAt dk05cleaf_cX12_rowsOf_0_a 11 rfl)
theorem dX12_rowsOf_21 : decode cX12_rowsOf 21 = .ok (.bipush 6, 2) := bd16 (a := 6) (btAt dk05cleaf_cX12_rowsOf_0_a 12 rfl)
theorem dX12_rowsOf_23 : decode cX12_rowsOf 23 = .ok (.if_icmp .ge 7, 3) := bd162 (a := 0) (b := 7) (btAt dk05cleaf_cX12_rowsOf_0_a 13 rfl)
theorem dX12_rowsOf_26 : decode cX12_rowsOf 26 = .ok (.iconst 1, 1) := bd4 (btAt dk05cleaf_cX12_rowsOf_0_a 14 rfl)
theorem dX12_rowsOf_27 : decode cX12_rowsOf 27 = .ok (.goto 4, 3) := bd167 (a := 0) (b := 4) (btAt dk05cleaf_cX12_rowsOf_0_a 15 rfl)
theorem dX12_rowsOf_30 : decode cX12_rowsOf 30 = .ok (.iconst 0, 1) := bd3 (btAt dk05cleaf_cX12_rowsOf_0_a 16 rfl)
theorem dX12_rowsOf_31 : decode cX12_rowsOf 31 = .ok (.ireturn, 1) := bd172 (btAt dk05cleaf_cX12_rowsOf_0_a 17 rfl)
noncomputable def dk05cleaf_cX12_columnsOf_0 : List (Nat × List Nat) := [(0, [26]), (1, [4]), (2, [6]), (3, [184, 0, 45]), (6, [153, 0, 7]), (9, [4]), (10, [167, 0, 13]), (13, [26]), (14, [7]), (15, [164, 0, 7]), (18, [2]), (19, [167, 0, 4]), (22, [3]), (23, [172])]
set_option maxRecDepth 100000 in
theorem dk05cleaf_cX12_columnsOf_0_a : btA cX12_columnsOf dk05cleaf_cX12_columnsOf_0 = true := by decide +kernel
theorem dX12_columnsOf_0 : decode cX12_columnsOf 0 = .ok (.iload_n 0, 1) := bd26 (btAt dk05cleaf_cX12_columnsOf_0_a 0 rfl)
theorem dX12_columnsOf_1 : decode cX12_columnsOf 1 = .ok (.iconst 1, 1) := bd4 (btAt dk05cleaf_cX12_columnsOf_0_a 1 rfl)
theorem dX12_columnsOf_2 : decode cX12_columnsOf 2 = .ok (.iconst 3, 1) := bd6 (btAt dk05cleaf_cX12_columnsOf_0_a 2 rfl)
theorem dX12_columnsOf_3 : decode cX12_columnsOf 3 = .ok (.invokestatic 45, 3) := bd184 (a := 0) (b := 45) (btAt dk05cleaf_cX12_columnsOf_0_a 3 rfl)
theorem dX12_columnsOf_6 : decode cX12_columnsOf 6 = .ok (.ifCond .eq 7, 3) := bd153 (a := 0) (b := 7) (btAt dk05cleaf_cX12_columnsOf_0_a 4 rfl)
theorem dX12_columnsOf_9 : decode cX12_columnsOf 9 = .ok (.iconst 1, 1) := bd4 (btAt dk05cleaf_cX12_columnsOf_0_a 5 rfl)
theorem dX12_columnsOf_10 : decode cX12_columnsOf 10 = .ok (.goto 13, 3) := bd167 (a := 0) (b := 13) (btAt dk05cleaf_cX12_columnsOf_0_a 6 rfl)
theorem dX12_columnsOf_13 : decode cX12_columnsOf 13 = .ok (.iload_n 0, 1) := bd26 (btAt dk05cleaf_cX12_columnsOf_0_a 7 rfl)
theorem dX12_columnsOf_14 : decode cX12_columnsOf 14 = .ok (.iconst 4, 1) := bd7 (btAt dk05cleaf_cX12_columnsOf_0_a 8 rfl)
theorem dX12_columnsOf_15 : decode cX12_columnsOf 15 = .ok (.if_icmp .le 7, 3) := bd164 (a := 0) (b := 7) (btAt dk05cleaf_cX12_columnsOf_0_a 9 rfl)
theorem dX12_columnsOf_18 : decode cX12_columnsOf 18 = .ok (.iconst (-1), 1) := bd2 (btAt dk05cleaf_cX12_columnsOf_0_a 10 rfl)
theorem dX12_columnsOf_19 : decode cX12_columnsOf 19 = .ok (.goto 4, 3) := bd167 (a := 0) (b := 4) (btAt dk05cleaf_cX12_columnsOf_0_a 11 rfl)
theorem dX12_columnsOf_22 : decode cX12_columnsOf 22 = .ok (.iconst 0, 1) := bd3 (btAt dk05cleaf_cX12_columnsOf_0_a 12 rfl)
theorem dX12_columnsOf_23 : decode cX12_columnsOf 23 = .ok (.ireturn, 1) := bd172 (btAt dk05cleaf_cX12_columnsOf_0_a 13 rfl)
noncomputable def dk05cleaf_cX12_nextTo_0 : List (Nat × List Nat) := [(0, [26]), (1, [16, 6]), (3, [108]), (4, [27]), (5, [184, 0, 53]), (8, [96]), (9, [61]), (10, [26]), (11, [16, 6]), (13, [112]), (14, [27]), (15, [184, 0, 56]), (18, [96]), (19, [62]), (20, [28]), (21, [3]), (22, [8]), (23, [184, 0, 45]), (26, [153, 0, 21]), (29, [29]), (30, [3]), (31, [8]), (32, [184, 0, 45]), (35, [153, 0, 12]), (38, [16, 6]), (40, [28]), (41, [104]), (42, [29]), (43, [96]), (44, [167, 0, 4]), (47, [26]), (48, [172])]
set_option maxRecDepth 100000 in
theorem dk05cleaf_cX12_nextTo_0_a : btA cX12_nextTo dk05cleaf_cX12_nextTo_0 = true := by decide +kernel
theorem dX12_nextTo_0 : decode cX12_nextTo 0 = .ok (.iload_n 0, 1) := bd26 (btAt dk05cleaf_cX12_nextTo_0_a 0 rfl)
theorem dX12_nextTo_1 : decode cX12_nextTo 1 = .ok (.bipush 6, 2) := bd16 (a := 6) (btAt dk05cleaf_cX12_nextTo_0_a 1 rfl)
theorem dX12_nextTo_3 : decode cX12_nextTo 3 = .ok (.idiv, 1) := bd108 (btAt dk05cleaf_cX12_nextTo_0_a 2 rfl)
theorem dX12_nextTo_4 : decode cX12_nextTo 4 = .ok (.iload_n 1, 1) := bd27 (btAt dk05cleaf_cX12_nextTo_0_a 3 rfl)
theorem dX12_nextTo_5 : decode cX12_nextTo 5 = .ok (.invokestatic 53, 3) := bd184 (a := 0) (b := 53) (btAt dk05cleaf_cX12_nextTo_0_a 4 rfl)
theorem dX12_nextTo_8 : decode cX12_nextTo 8 = .ok (.iadd, 1) := bd96 (btAt dk05cleaf_cX12_nextTo_0_a 5 rfl)
theorem dX12_nextTo_9 : decode cX12_nextTo 9 = .ok (.istore_n 2, 1) := bd61 (btAt dk05cleaf_cX12_nextTo_0_a 6 rfl)
theorem dX12_nextTo_10 : decode cX12_nextTo 10 = .ok (.iload_n 0, 1) := bd26 (btAt dk05cleaf_cX12_nextTo_0_a 7 rfl)
theorem dX12_nextTo_11 : decode cX12_nextTo 11 = .ok (.bipush 6, 2) := bd16 (a := 6) (btAt dk05cleaf_cX12_nextTo_0_a 8 rfl)
theorem dX12_nextTo_13 : decode cX12_nextTo 13 = .ok (.irem, 1) := bd112 (btAt dk05cleaf_cX12_nextTo_0_a 9 rfl)
theorem dX12_nextTo_14 : decode cX12_nextTo 14 = .ok (.iload_n 1, 1) := bd27 (btAt dk05cleaf_cX12_nextTo_0_a 10 rfl)
theorem dX12_nextTo_15 : decode cX12_nextTo 15 = .ok (.invokestatic 56, 3) := bd184 (a := 0) (b := 56) (btAt dk05cleaf_cX12_nextTo_0_a 11 rfl)
theorem dX12_nextTo_18 : decode cX12_nextTo 18 = .ok (.iadd, 1) := bd96 (btAt dk05cleaf_cX12_nextTo_0_a 12 rfl)
theorem dX12_nextTo_19 : decode cX12_nextTo 19 = .ok (.istore_n 3, 1) := bd62 (btAt dk05cleaf_cX12_nextTo_0_a 13 rfl)
theorem dX12_nextTo_20 : decode cX12_nextTo 20 = .ok (.iload_n 2, 1) := bd28 (btAt dk05cleaf_cX12_nextTo_0_a 14 rfl)
theorem dX12_nextTo_21 : decode cX12_nextTo 21 = .ok (.iconst 0, 1) := bd3 (btAt dk05cleaf_cX12_nextTo_0_a 15 rfl)
theorem dX12_nextTo_22 : decode cX12_nextTo 22 = .ok (.iconst 5, 1) := bd8 (btAt dk05cleaf_cX12_nextTo_0_a 16 rfl)
theorem dX12_nextTo_23 : decode cX12_nextTo 23 = .ok (.invokestatic 45, 3) := bd184 (a := 0) (b := 45) (btAt dk05cleaf_cX12_nextTo_0_a 17 rfl)
theorem dX12_nextTo_26 : decode cX12_nextTo 26 = .ok (.ifCond .eq 21, 3) := bd153 (a := 0) (b := 21) (btAt dk05cleaf_cX12_nextTo_0_a 18 rfl)
theorem dX12_nextTo_29 : decode cX12_nextTo 29 = .ok (.iload_n 3, 1) := bd29 (btAt dk05cleaf_cX12_nextTo_0_a 19 rfl)
theorem dX12_nextTo_30 : decode cX12_nextTo 30 = .ok (.iconst 0, 1) := bd3 (btAt dk05cleaf_cX12_nextTo_0_a 20 rfl)
theorem dX12_nextTo_31 : decode cX12_nextTo 31 = .ok (.iconst 5, 1) := bd8 (btAt dk05cleaf_cX12_nextTo_0_a 21 rfl)
theorem dX12_nextTo_32 : decode cX12_nextTo 32 = .ok (.invokestatic 45, 3) := bd184 (a := 0) (b := 45) (btAt dk05cleaf_cX12_nextTo_0_a 22 rfl)
theorem dX12_nextTo_35 : decode cX12_nextTo 35 = .ok (.ifCond .eq 12, 3) := bd153 (a := 0) (b := 12) (btAt dk05cleaf_cX12_nextTo_0_a 23 rfl)
theorem dX12_nextTo_38 : decode cX12_nextTo 38 = .ok (.bipush 6, 2) := bd16 (a := 6) (btAt dk05cleaf_cX12_nextTo_0_a 24 rfl)
theorem dX12_nextTo_40 : decode cX12_nextTo 40 = .ok (.iload_n 2, 1) := bd28 (btAt dk05cleaf_cX12_nextTo_0_a 25 rfl)
theorem dX12_nextTo_41 : decode cX12_nextTo 41 = .ok (.imul, 1) := bd104 (btAt dk05cleaf_cX12_nextTo_0_a 26 rfl)
theorem dX12_nextTo_42 : decode cX12_nextTo 42 = .ok (.iload_n 3, 1) := bd29 (btAt dk05cleaf_cX12_nextTo_0_a 27 rfl)
theorem dX12_nextTo_43 : decode cX12_nextTo 43 = .ok (.iadd, 1) := bd96 (btAt dk05cleaf_cX12_nextTo_0_a 28 rfl)
theorem dX12_nextTo_44 : decode cX12_nextTo 44 = .ok (.goto 4, 3) := bd167 (a := 0) (b := 4) (btAt dk05cleaf_cX12_nextTo_0_a 29 rfl)
theorem dX12_nextTo_47 : decode cX12_nextTo 47 = .ok (.iload_n 0, 1) := bd26 (btAt dk05cleaf_cX12_nextTo_0_a 30 rfl)
theorem dX12_nextTo_48 : decode cX12_nextTo 48 = .ok (.ireturn, 1) := bd172 (btAt dk05cleaf_cX12_nextTo_0_a 31 rfl)
noncomputable def dk05cleaf_cX12_isThatSide_0 : List (Nat × List Nat) := [(0, [26]), (1, [153, 0, 21]), (4, [26]), (5, [156, 0, 8]), (8, [28]), (9, [27]), (10, [161, 0, 12]), (13, [26]), (14, [158, 0, 12]), (17, [28]), (18, [27]), (19, [164, 0, 7]), (22, [4]), (23, [167, 0, 4]), (26, [3]), (27, [172])]
set_option maxRecDepth 100000 in
theorem dk05cleaf_cX12_isThatSide_0_a : btA cX12_isThatSide dk05cleaf_cX12_isThatSide_0 = true := by decide +kernel
theorem dX12_isThatSide_0 : decode cX12_isThatSide 0 = .ok (.iload_n 0, 1) := bd26 (btAt dk05cleaf_cX12_isThatSide_0_a 0 rfl)
theorem dX12_isThatSide_1 : decode cX12_isThatSide 1 = .ok (.ifCond .eq 21, 3) := bd153 (a := 0) (b := 21) (btAt dk05cleaf_cX12_isThatSide_0_a 1 rfl)
theorem dX12_isThatSide_4 : decode cX12_isThatSide 4 = .ok (.iload_n 0, 1) := bd26 (btAt dk05cleaf_cX12_isThatSide_0_a 2 rfl)
theorem dX12_isThatSide_5 : decode cX12_isThatSide 5 = .ok (.ifCond .ge 8, 3) := bd156 (a := 0) (b := 8) (btAt dk05cleaf_cX12_isThatSide_0_a 3 rfl)
theorem dX12_isThatSide_8 : decode cX12_isThatSide 8 = .ok (.iload_n 2, 1) := bd28 (btAt dk05cleaf_cX12_isThatSide_0_a 4 rfl)
theorem dX12_isThatSide_9 : decode cX12_isThatSide 9 = .ok (.iload_n 1, 1) := bd27 (btAt dk05cleaf_cX12_isThatSide_0_a 5 rfl)
theorem dX12_isThatSide_10 : decode cX12_isThatSide 10 = .ok (.if_icmp .lt 12, 3) := bd161 (a := 0) (b := 12) (btAt dk05cleaf_cX12_isThatSide_0_a 6 rfl)
theorem dX12_isThatSide_13 : decode cX12_isThatSide 13 = .ok (.iload_n 0, 1) := bd26 (btAt dk05cleaf_cX12_isThatSide_0_a 7 rfl)
theorem dX12_isThatSide_14 : decode cX12_isThatSide 14 = .ok (.ifCond .le 12, 3) := bd158 (a := 0) (b := 12) (btAt dk05cleaf_cX12_isThatSide_0_a 8 rfl)
theorem dX12_isThatSide_17 : decode cX12_isThatSide 17 = .ok (.iload_n 2, 1) := bd28 (btAt dk05cleaf_cX12_isThatSide_0_a 9 rfl)
theorem dX12_isThatSide_18 : decode cX12_isThatSide 18 = .ok (.iload_n 1, 1) := bd27 (btAt dk05cleaf_cX12_isThatSide_0_a 10 rfl)
theorem dX12_isThatSide_19 : decode cX12_isThatSide 19 = .ok (.if_icmp .le 7, 3) := bd164 (a := 0) (b := 7) (btAt dk05cleaf_cX12_isThatSide_0_a 11 rfl)
theorem dX12_isThatSide_22 : decode cX12_isThatSide 22 = .ok (.iconst 1, 1) := bd4 (btAt dk05cleaf_cX12_isThatSide_0_a 12 rfl)
theorem dX12_isThatSide_23 : decode cX12_isThatSide 23 = .ok (.goto 4, 3) := bd167 (a := 0) (b := 4) (btAt dk05cleaf_cX12_isThatSide_0_a 13 rfl)
theorem dX12_isThatSide_26 : decode cX12_isThatSide 26 = .ok (.iconst 0, 1) := bd3 (btAt dk05cleaf_cX12_isThatSide_0_a 14 rfl)
theorem dX12_isThatSide_27 : decode cX12_isThatSide 27 = .ok (.ireturn, 1) := bd172 (btAt dk05cleaf_cX12_isThatSide_0_a 15 rfl)
noncomputable def dk05cleaf_cX12_apart_0 : List (Nat × List Nat) := [(0, [26]), (1, [16, 6]), (3, [108]), (4, [27]), (5, [16, 6]), (7, [108]), (8, [100]), (9, [184, 0, 49]), (12, [61]), (13, [26]), (14, [16, 6]), (16, [112]), (17, [27]), (18, [16, 6]), (20, [112]), (21, [100]), (22, [184, 0, 49]), (25, [62]), (26, [28]), (27, [29]), (28, [164, 0, 7]), (31, [28]), (32, [167, 0, 4]), (35, [29]), (36, [172])]
set_option maxRecDepth 100000 in
theorem dk05cleaf_cX12_apart_0_a : btA cX12_apart dk05cleaf_cX12_apart_0 = true := by decide +kernel
theorem dX12_apart_0 : decode cX12_apart 0 = .ok (.iload_n 0, 1) := bd26 (btAt dk05cleaf_cX12_apart_0_a 0 rfl)
theorem dX12_apart_1 : decode cX12_apart 1 = .ok (.bipush 6, 2) := bd16 (a := 6) (btAt dk05cleaf_cX12_apart_0_a 1 rfl)
theorem dX12_apart_3 : decode cX12_apart 3 = .ok (.idiv, 1) := bd108 (btAt dk05cleaf_cX12_apart_0_a 2 rfl)
theorem dX12_apart_4 : decode cX12_apart 4 = .ok (.iload_n 1, 1) := bd27 (btAt dk05cleaf_cX12_apart_0_a 3 rfl)
theorem dX12_apart_5 : decode cX12_apart 5 = .ok (.bipush 6, 2) := bd16 (a := 6) (btAt dk05cleaf_cX12_apart_0_a 4 rfl)
theorem dX12_apart_7 : decode cX12_apart 7 = .ok (.idiv, 1) := bd108 (btAt dk05cleaf_cX12_apart_0_a 5 rfl)
theorem dX12_apart_8 : decode cX12_apart 8 = .ok (.isub, 1) := bd100 (btAt dk05cleaf_cX12_apart_0_a 6 rfl)
theorem dX12_apart_9 : decode cX12_apart 9 = .ok (.invokestatic 49, 3) := bd184 (a := 0) (b := 49) (btAt dk05cleaf_cX12_apart_0_a 7 rfl)
theorem dX12_apart_12 : decode cX12_apart 12 = .ok (.istore_n 2, 1) := bd61 (btAt dk05cleaf_cX12_apart_0_a 8 rfl)
theorem dX12_apart_13 : decode cX12_apart 13 = .ok (.iload_n 0, 1) := bd26 (btAt dk05cleaf_cX12_apart_0_a 9 rfl)
theorem dX12_apart_14 : decode cX12_apart 14 = .ok (.bipush 6, 2) := bd16 (a := 6) (btAt dk05cleaf_cX12_apart_0_a 10 rfl)
theorem dX12_apart_16 : decode cX12_apart 16 = .ok (.irem, 1) := bd112 (btAt dk05cleaf_cX12_apart_0_a 11 rfl)
theorem dX12_apart_17 : decode cX12_apart 17 = .ok (.iload_n 1, 1) := bd27 (btAt dk05cleaf_cX12_apart_0_a 12 rfl)
theorem dX12_apart_18 : decode cX12_apart 18 = .ok (.bipush 6, 2) := bd16 (a := 6) (btAt dk05cleaf_cX12_apart_0_a 13 rfl)
theorem dX12_apart_20 : decode cX12_apart 20 = .ok (.irem, 1) := bd112 (btAt dk05cleaf_cX12_apart_0_a 14 rfl)
theorem dX12_apart_21 : decode cX12_apart 21 = .ok (.isub, 1) := bd100 (btAt dk05cleaf_cX12_apart_0_a 15 rfl)
theorem dX12_apart_22 : decode cX12_apart 22 = .ok (.invokestatic 49, 3) := bd184 (a := 0) (b := 49) (btAt dk05cleaf_cX12_apart_0_a 16 rfl)
theorem dX12_apart_25 : decode cX12_apart 25 = .ok (.istore_n 3, 1) := bd62 (btAt dk05cleaf_cX12_apart_0_a 17 rfl)
theorem dX12_apart_26 : decode cX12_apart 26 = .ok (.iload_n 2, 1) := bd28 (btAt dk05cleaf_cX12_apart_0_a 18 rfl)
theorem dX12_apart_27 : decode cX12_apart 27 = .ok (.iload_n 3, 1) := bd29 (btAt dk05cleaf_cX12_apart_0_a 19 rfl)
theorem dX12_apart_28 : decode cX12_apart 28 = .ok (.if_icmp .le 7, 3) := bd164 (a := 0) (b := 7) (btAt dk05cleaf_cX12_apart_0_a 20 rfl)
theorem dX12_apart_31 : decode cX12_apart 31 = .ok (.iload_n 2, 1) := bd28 (btAt dk05cleaf_cX12_apart_0_a 21 rfl)
theorem dX12_apart_32 : decode cX12_apart 32 = .ok (.goto 4, 3) := bd167 (a := 0) (b := 4) (btAt dk05cleaf_cX12_apart_0_a 22 rfl)
theorem dX12_apart_35 : decode cX12_apart 35 = .ok (.iload_n 3, 1) := bd29 (btAt dk05cleaf_cX12_apart_0_a 23 rfl)
theorem dX12_apart_36 : decode cX12_apart 36 = .ok (.ireturn, 1) := bd172 (btAt dk05cleaf_cX12_apart_0_a 24 rfl)
noncomputable def dk05cleaf_cX12_isHeap_0 : List (Nat × List Nat) := [(0, [27]), (1, [3]), (2, [42]), (3, [180, 0, 9]), (6, [3]), (7, [46]), (8, [4]), (9, [100]), (10, [184, 0, 45]), (13, [172])]
set_option maxRecDepth 100000 in
theorem dk05cleaf_cX12_isHeap_0_a : btA cX12_isHeap dk05cleaf_cX12_isHeap_0 = true := by decide +kernel
theorem dX12_isHeap_0 : decode cX12_isHeap 0 = .ok (.iload_n 1, 1) := bd27 (btAt dk05cleaf_cX12_isHeap_0_a 0 rfl)
theorem dX12_isHeap_1 : decode cX12_isHeap 1 = .ok (.iconst 0, 1) := bd3 (btAt dk05cleaf_cX12_isHeap_0_a 1 rfl)
theorem dX12_isHeap_2 : decode cX12_isHeap 2 = .ok (.aload_n 0, 1) := bd42 (btAt dk05cleaf_cX12_isHeap_0_a 2 rfl)
theorem dX12_isHeap_3 : decode cX12_isHeap 3 = .ok (.getfield 9, 3) := bd180 (a := 0) (b := 9) (btAt dk05cleaf_cX12_isHeap_0_a 3 rfl)
theorem dX12_isHeap_6 : decode cX12_isHeap 6 = .ok (.iconst 0, 1) := bd3 (btAt dk05cleaf_cX12_isHeap_0_a 4 rfl)
theorem dX12_isHeap_7 : decode cX12_isHeap 7 = .ok (.iaload, 1) := bd46 (btAt dk05cleaf_cX12_isHeap_0_a 5 rfl)
theorem dX12_isHeap_8 : decode cX12_isHeap 8 = .ok (.iconst 1, 1) := bd4 (btAt dk05cleaf_cX12_isHeap_0_a 6 rfl)
theorem dX12_isHeap_9 : decode cX12_isHeap 9 = .ok (.isub, 1) := bd100 (btAt dk05cleaf_cX12_isHeap_0_a 7 rfl)
theorem dX12_isHeap_10 : decode cX12_isHeap 10 = .ok (.invokestatic 45, 3) := bd184 (a := 0) (b := 45) (btAt dk05cleaf_cX12_isHeap_0_a 8 rfl)
theorem dX12_isHeap_13 : decode cX12_isHeap 13 = .ok (.ireturn, 1) := bd172 (btAt dk05cleaf_cX12_isHeap_0_a 9 rfl)
set_option maxHeartbeats 4000000 in
set_option maxRecDepth 100000 in
theorem c_in (l : Launch) (dC : Nat → ClassId) (dI : Nat → Nat → Nat) (v lo hi : Int32) : Met l yX12_in wsX12_in ({ frames := 0, cells := 0, slots := 0, locals := 0 } : Room) (va_Pc [.int v, .int lo, .int hi] (fun U => True)) (vp_Si (fun r => (r = 1 ∧ ¬ v < lo ∧ ¬ hi < v) ∨ (r = 0 ∧ (v < lo ∨ hi < v)))) 0 0 (fun _ => False) := by
  refine met_ofQ (cc := cX12_in) (maxL := 3) (ret := (some .boolean)) (by decide) rfl ?_
  intro p e s m args below meth c s₁ Q B hml hv hQ
  obtain ⟨rfl, -⟩ := hv
  have hx := B.exec
  have hb := B.bytes
  have hr := B.returns
  have hts := atoms_spec (ws := wsX12_in) B.pre
  have hown : s.vm.findClass RX12 = some m.cls := findClass_of_methodNamed B.named
  have hlocks := B.notSynchronized
  obtain ⟨A, hAe⟩ : ∃ A : Nat → Prop, A = fun _ => False := ⟨_, rfl⟩
  rw [← hAe] at hQ
  have hS : va_S A s.heap s.heap [] := va_S.rf
  have hl := lv_entry [.int v, .int lo, .int hi] (n := 3) (Nat.le_of_ble_eq_true rfl)
  rw [lg_entry_eq]
  generalize (lg_sl [.int v, .int lo, .int hi] ++ List.replicate (3 - (lg_sl [.int v, .int lo, .int hi]).length) Slot.unset).toArray = ls at hl ⊢
  generalize hag : ([.int v, .int lo, .int hi] : List Value).toArray = args at hts hQ ⊢
  have hl : lv_has ls 3 [(0, .int v), (1, .int lo), (2, .int hi)] := hl
  refine lv_iload_n hx hb dX12_in_0 rfl (lv_at hl 0 rfl) ?_
  refine lv_iload_n hx hb dX12_in_1 rfl (lv_at hl 1 rfl) ?_
  refine lv_icmp_lt (tgt := 14) hx hb dX12_in_2 (by decide) (fun c_1 => ?_) (fun c_1 => ?_)
  · skip
    refine lv_iconst (v := 0) hx hb dX12_in_14 (by decide) ?_
    rw [hQ]
    exact W.zret (v := 0) hx hb hr rfl (fun tQ htQ hWQ => ⟨0, rfl, by simp_all, by rw [htQ]⟩) (fun q hq => absurd hq List.not_mem_nil) dX12_in_15
  · skip
    refine lv_iload_n hx hb dX12_in_5 rfl (lv_at hl 0 rfl) ?_
    refine lv_iload_n hx hb dX12_in_6 rfl (lv_at hl 2 rfl) ?_
    refine lv_icmp_gt (tgt := 14) hx hb dX12_in_7 (by decide) (fun c_2 => ?_) (fun c_2 => ?_)
    · skip
      refine lv_iconst (v := 0) hx hb dX12_in_14 (by decide) ?_
      rw [hQ]
      exact W.zret (v := 0) hx hb hr rfl (fun tQ htQ hWQ => ⟨0, rfl, by simp_all, by rw [htQ]⟩) (fun q hq => absurd hq List.not_mem_nil) dX12_in_15
    · skip
      refine lv_iconst (v := 1) hx hb dX12_in_10 (by decide) ?_
      refine lv_goto (tgt := 15) hx hb dX12_in_11 (by decide) ?_
      rw [hQ]
      exact W.zret (v := 1) hx hb hr rfl (fun tQ htQ hWQ => ⟨1, rfl, by simp_all, by rw [htQ]⟩) (fun q hq => absurd hq List.not_mem_nil) dX12_in_15

set_option maxHeartbeats 4000000 in
set_option maxRecDepth 100000 in
theorem c_size (l : Launch) (dC : Nat → ClassId) (dI : Nat → Nat → Nat) (v : Int32) : Met l yX12_size wsX12_size ({ frames := 0, cells := 0, slots := 0, locals := 0 } : Room) (va_Pc [.int v] (fun U => True)) (vp_Si (fun r => r = szR v)) 0 0 (fun _ => False) := by
  refine met_ofQ (cc := cX12_size) (maxL := 1) (ret := (some .int)) (by decide) rfl ?_
  intro p e s m args below meth c s₁ Q B hml hv hQ
  obtain ⟨rfl, -⟩ := hv
  have hx := B.exec
  have hb := B.bytes
  have hr := B.returns
  have hts := atoms_spec (ws := wsX12_size) B.pre
  have hown : s.vm.findClass RX12 = some m.cls := findClass_of_methodNamed B.named
  have hlocks := B.notSynchronized
  obtain ⟨A, hAe⟩ : ∃ A : Nat → Prop, A = fun _ => False := ⟨_, rfl⟩
  rw [← hAe] at hQ
  have hS : va_S A s.heap s.heap [] := va_S.rf
  have hl := lv_entry [.int v] (n := 1) (Nat.le_of_ble_eq_true rfl)
  rw [lg_entry_eq]
  generalize (lg_sl [.int v] ++ List.replicate (1 - (lg_sl [.int v]).length) Slot.unset).toArray = ls at hl ⊢
  generalize hag : ([.int v] : List Value).toArray = args at hts hQ ⊢
  have hl : lv_has ls 1 [(0, .int v)] := hl
  refine lv_iload_n hx hb dX12_size_0 rfl (lv_at hl 0 rfl) ?_
  refine lv_if_ge (tgt := 9) hx hb dX12_size_1 (by decide) (fun c_1 => ?_) (fun c_1 => ?_)
  · skip
    refine lv_iload_n hx hb dX12_size_9 rfl (lv_at hl 0 rfl) ?_
    rw [hQ]
    exact W.iret (v := v) hx hb hr (fun tQ htQ hWQ => ⟨v, rfl, by first | exact (if_pos (by assumption)).symm | exact (if_neg (by assumption)).symm, by rw [htQ]⟩) (fun q hq => absurd hq List.not_mem_nil) dX12_size_10
  · skip
    refine lv_iload_n hx hb dX12_size_4 rfl (lv_at hl 0 rfl) ?_
    refine lv_ineg hx hb dX12_size_5 ?_
    refine lv_goto (tgt := 10) hx hb dX12_size_6 (by decide) ?_
    rw [hQ]
    exact W.iret (v := -v) hx hb hr (fun tQ htQ hWQ => ⟨-v, rfl, by first | exact (if_pos (by assumption)).symm | exact (if_neg (by assumption)).symm, by rw [htQ]⟩) (fun q hq => absurd hq List.not_mem_nil) dX12_size_10

set_option maxHeartbeats 4000000 in
set_option maxRecDepth 100000 in
theorem c_mCell (l : Launch) (dC : Nat → ClassId) (dI : Nat → Nat → Nat) (c0 : Int32) : Met l yX12_isCell wsX12_isCell ({ frames := 1, cells := 0, slots := 0, locals := 22 } : Room) (va_Pc [.int c0] (fun U => True)) (vp_Si (fun r => (r = 1 ∧ ¬ c0 < 0 ∧ ¬ 35 < c0) ∨ (r = 0 ∧ (c0 < 0 ∨ 35 < c0)))) 0 0 (fun _ => False) := by
  refine met_ofQ (cc := cX12_isCell) (maxL := 1) (ret := (some .boolean)) (by decide) rfl ?_
  intro p e s m args below meth c s₁ Q B hml hv hQ
  obtain ⟨rfl, -⟩ := hv
  have hx := B.exec
  have hb := B.bytes
  have hr := B.returns
  have hts := atoms_spec (ws := wsX12_isCell) B.pre
  have hown : s.vm.findClass RX12 = some m.cls := findClass_of_methodNamed B.named
  have hlocks := B.notSynchronized
  obtain ⟨A, hAe⟩ : ∃ A : Nat → Prop, A = fun _ => False := ⟨_, rfl⟩
  rw [← hAe] at hQ
  have hS : va_S A s.heap s.heap [] := va_S.rf
  have hl := lv_entry [.int c0] (n := 1) (Nat.le_of_ble_eq_true rfl)
  rw [lg_entry_eq]
  generalize (lg_sl [.int c0] ++ List.replicate (1 - (lg_sl [.int c0]).length) Slot.unset).toArray = ls at hl ⊢
  generalize hag : ([.int c0] : List Value).toArray = args at hts hQ ⊢
  have hl : lv_has ls 1 [(0, .int c0)] := hl
  refine lv_iload_n hx hb dX12_isCell_0 rfl (lv_at hl 0 rfl) ?_
  refine lv_iconst (v := 0) hx hb dX12_isCell_1 (by decide) ?_
  refine lv_bipush (v := 35) hx hb dX12_isCell_2 (by decide) ?_
  refine vp_callSi (va_runS (As := [.int c0, .int 0, .int 35]) (rest := []) ⟨hx, hb, hml, hown, hts⟩ (c_in l dC dI c0 0 35) (va_cwS 3 hts gX12_isCell_X12_in rfl rfl rfl hd_yX12_in.2 ⟨Nat.le_of_ble_eq_true rfl, Nat.le_of_ble_eq_true rfl⟩) ⟨fun a U g mk q => ⟨q.1, trivial⟩, fun U hU hW => ⟨rfl, trivial⟩⟩ rfl rfl hl.1 rfl (lv_room (Nat.le_of_ble_eq_true rfl)) dX12_isCell_4 ⟨Nat.le_of_ble_eq_true rfl, Nat.le_of_ble_eq_true rfl⟩).run (fun r_1 hw_2 => ?_)
  rw [hQ]
  exact W.zret (v := r_1) hx hb hr (by rcases hw_2 with ⟨rfl, _⟩ | ⟨rfl, _⟩ <;> rfl) (fun tQ htQ hWQ => ⟨r_1, rfl, by assumption, by rw [htQ]⟩) (fun q hq => absurd hq List.not_mem_nil) dX12_isCell_7

set_option maxHeartbeats 4000000 in
set_option maxRecDepth 100000 in
theorem c_rowsOf (l : Launch) (dC : Nat → ClassId) (dI : Nat → Nat → Nat) (x : Int32) : Met l yX12_rowsOf wsX12_rowsOf ({ frames := 0, cells := 0, slots := 0, locals := 0 } : Room) (va_Pc [.int x] (fun U => True)) (vp_Si (fun r => r = rwR x)) 0 0 (fun _ => False) := by
  refine met_ofQ (cc := cX12_rowsOf) (maxL := 1) (ret := (some .int)) (by decide) rfl ?_
  intro p e s m args below meth c s₁ Q B hml hv hQ
  obtain ⟨rfl, -⟩ := hv
  have hx := B.exec
  have hb := B.bytes
  have hr := B.returns
  have hts := atoms_spec (ws := wsX12_rowsOf) B.pre
  have hown : s.vm.findClass RX12 = some m.cls := findClass_of_methodNamed B.named
  have hlocks := B.notSynchronized
  obtain ⟨A, hAe⟩ : ∃ A : Nat → Prop, A = fun _ => False := ⟨_, rfl⟩
  rw [← hAe] at hQ
  have hS : va_S A s.heap s.heap [] := va_S.rf
  have hl := lv_entry [.int x] (n := 1) (Nat.le_of_ble_eq_true rfl)
  rw [lg_entry_eq]
  generalize (lg_sl [.int x] ++ List.replicate (1 - (lg_sl [.int x]).length) Slot.unset).toArray = ls at hl ⊢
  generalize hag : ([.int x] : List Value).toArray = args at hts hQ ⊢
  have hl : lv_has ls 1 [(0, .int x)] := hl
  refine lv_iload_n hx hb dX12_rowsOf_0 rfl (lv_at hl 0 rfl) ?_
  refine lv_bipush (v := 7) hx hb dX12_rowsOf_1 (by decide) ?_
  refine lv_icmp_eq (tgt := 11) hx hb dX12_rowsOf_3 (by decide) (fun c_1 => ?_) (fun c_1 => ?_)
  · skip
    refine lv_iconst (v := (-1)) hx hb dX12_rowsOf_11 (by decide) ?_
    refine lv_goto (tgt := 31) hx hb dX12_rowsOf_12 (by decide) ?_
    rw [hQ]
    exact W.iret (v := (-1)) hx hb hr (fun tQ htQ hWQ => ⟨(-1), rfl, by first | exact rw_a (by assumption) | exact rw_b (by assumption) (by assumption) | exact rw_c (by assumption) (by assumption) (by assumption) | exact rw_d (by assumption) (by assumption) (by assumption) (by assumption) | exact rw_e (by assumption) (by assumption) (by assumption) (by assumption), by rw [htQ]⟩) (fun q hq => absurd hq List.not_mem_nil) dX12_rowsOf_31
  · skip
    refine lv_iload_n hx hb dX12_rowsOf_6 rfl (lv_at hl 0 rfl) ?_
    refine lv_iconst (v := 2) hx hb dX12_rowsOf_7 (by decide) ?_
    refine lv_icmp_ge (tgt := 15) hx hb dX12_rowsOf_8 (by decide) (fun c_2 => ?_) (fun c_2 => ?_)
    · skip
      refine lv_iload_n hx hb dX12_rowsOf_15 rfl (lv_at hl 0 rfl) ?_
      refine lv_iconst (v := 2) hx hb dX12_rowsOf_16 (by decide) ?_
      refine lv_icmp_le (tgt := 30) hx hb dX12_rowsOf_17 (by decide) (fun c_3 => ?_) (fun c_3 => ?_)
      · skip
        refine lv_iconst (v := 0) hx hb dX12_rowsOf_30 (by decide) ?_
        rw [hQ]
        exact W.iret (v := 0) hx hb hr (fun tQ htQ hWQ => ⟨0, rfl, by first | exact rw_a (by assumption) | exact rw_b (by assumption) (by assumption) | exact rw_c (by assumption) (by assumption) (by assumption) | exact rw_d (by assumption) (by assumption) (by assumption) (by assumption) | exact rw_e (by assumption) (by assumption) (by assumption) (by assumption), by rw [htQ]⟩) (fun q hq => absurd hq List.not_mem_nil) dX12_rowsOf_31
      · skip
        refine lv_iload_n hx hb dX12_rowsOf_20 rfl (lv_at hl 0 rfl) ?_
        refine lv_bipush (v := 6) hx hb dX12_rowsOf_21 (by decide) ?_
        refine lv_icmp_ge (tgt := 30) hx hb dX12_rowsOf_23 (by decide) (fun c_4 => ?_) (fun c_4 => ?_)
        · skip
          refine lv_iconst (v := 0) hx hb dX12_rowsOf_30 (by decide) ?_
          rw [hQ]
          exact W.iret (v := 0) hx hb hr (fun tQ htQ hWQ => ⟨0, rfl, by first | exact rw_a (by assumption) | exact rw_b (by assumption) (by assumption) | exact rw_c (by assumption) (by assumption) (by assumption) | exact rw_d (by assumption) (by assumption) (by assumption) (by assumption) | exact rw_e (by assumption) (by assumption) (by assumption) (by assumption), by rw [htQ]⟩) (fun q hq => absurd hq List.not_mem_nil) dX12_rowsOf_31
        · skip
          refine lv_iconst (v := 1) hx hb dX12_rowsOf_26 (by decide) ?_
          refine lv_goto (tgt := 31) hx hb dX12_rowsOf_27 (by decide) ?_
          rw [hQ]
          exact W.iret (v := 1) hx hb hr (fun tQ htQ hWQ => ⟨1, rfl, by first | exact rw_a (by assumption) | exact rw_b (by assumption) (by assumption) | exact rw_c (by assumption) (by assumption) (by assumption) | exact rw_d (by assumption) (by assumption) (by assumption) (by assumption) | exact rw_e (by assumption) (by assumption) (by assumption) (by assumption), by rw [htQ]⟩) (fun q hq => absurd hq List.not_mem_nil) dX12_rowsOf_31
    · skip
      refine lv_iconst (v := (-1)) hx hb dX12_rowsOf_11 (by decide) ?_
      refine lv_goto (tgt := 31) hx hb dX12_rowsOf_12 (by decide) ?_
      rw [hQ]
      exact W.iret (v := (-1)) hx hb hr (fun tQ htQ hWQ => ⟨(-1), rfl, by first | exact rw_a (by assumption) | exact rw_b (by assumption) (by assumption) | exact rw_c (by assumption) (by assumption) (by assumption) | exact rw_d (by assumption) (by assumption) (by assumption) (by assumption) | exact rw_e (by assumption) (by assumption) (by assumption) (by assumption), by rw [htQ]⟩) (fun q hq => absurd hq List.not_mem_nil) dX12_rowsOf_31

set_option maxHeartbeats 4000000 in
set_option maxRecDepth 100000 in
theorem c_columnsOf (l : Launch) (dC : Nat → ClassId) (dI : Nat → Nat → Nat) (x : Int32) : Met l yX12_columnsOf wsX12_columnsOf ({ frames := 1, cells := 0, slots := 0, locals := 22 } : Room) (va_Pc [.int x] (fun U => True)) (vp_Si (fun r => r = clR x)) 0 0 (fun _ => False) := by
  refine met_ofQ (cc := cX12_columnsOf) (maxL := 1) (ret := (some .int)) (by decide) rfl ?_
  intro p e s m args below meth c s₁ Q B hml hv hQ
  obtain ⟨rfl, -⟩ := hv
  have hx := B.exec
  have hb := B.bytes
  have hr := B.returns
  have hts := atoms_spec (ws := wsX12_columnsOf) B.pre
  have hown : s.vm.findClass RX12 = some m.cls := findClass_of_methodNamed B.named
  have hlocks := B.notSynchronized
  obtain ⟨A, hAe⟩ : ∃ A : Nat → Prop, A = fun _ => False := ⟨_, rfl⟩
  rw [← hAe] at hQ
  have hS : va_S A s.heap s.heap [] := va_S.rf
  have hl := lv_entry [.int x] (n := 1) (Nat.le_of_ble_eq_true rfl)
  rw [lg_entry_eq]
  generalize (lg_sl [.int x] ++ List.replicate (1 - (lg_sl [.int x]).length) Slot.unset).toArray = ls at hl ⊢
  generalize hag : ([.int x] : List Value).toArray = args at hts hQ ⊢
  have hl : lv_has ls 1 [(0, .int x)] := hl
  refine lv_iload_n hx hb dX12_columnsOf_0 rfl (lv_at hl 0 rfl) ?_
  refine lv_iconst (v := 1) hx hb dX12_columnsOf_1 (by decide) ?_
  refine lv_iconst (v := 3) hx hb dX12_columnsOf_2 (by decide) ?_
  refine vp_callSi (va_runS (As := [.int x, .int 1, .int 3]) (rest := []) ⟨hx, hb, hml, hown, hts⟩ (c_in l dC dI x 1 3) (va_cwS 3 hts gX12_columnsOf_X12_in rfl rfl rfl hd_yX12_in.2 ⟨Nat.le_of_ble_eq_true rfl, Nat.le_of_ble_eq_true rfl⟩) ⟨fun a U g mk q => ⟨q.1, trivial⟩, fun U hU hW => ⟨rfl, trivial⟩⟩ rfl rfl hl.1 rfl (lv_room (Nat.le_of_ble_eq_true rfl)) dX12_columnsOf_3 ⟨Nat.le_of_ble_eq_true rfl, Nat.le_of_ble_eq_true rfl⟩).run (fun r_1 hw_2 => ?_)
  rcases hw_2 with ⟨rfl, h_3, h_4⟩ | ⟨rfl, h_5⟩
  · skip
    refine lv_if_eq (tgt := 13) hx hb dX12_columnsOf_6 (by decide) (fun c_6 => absurd c_6 (by decide)) (fun _ => ?_)
    refine lv_iconst (v := 1) hx hb dX12_columnsOf_9 (by decide) ?_
    refine lv_goto (tgt := 23) hx hb dX12_columnsOf_10 (by decide) ?_
    rw [hQ]
    exact W.iret (v := 1) hx hb hr (fun tQ htQ hWQ => ⟨1, rfl, by first | exact cl_a (by assumption) (by assumption) | exact cl_b (by assumption) (by assumption) | exact cl_c (by assumption) (by assumption), by rw [htQ]⟩) (fun q hq => absurd hq List.not_mem_nil) dX12_columnsOf_23
  · skip
    refine lv_if_eq (tgt := 13) hx hb dX12_columnsOf_6 (by decide) (fun _ => ?_) (fun c_7 => absurd c_7 (by decide))
    refine lv_iload_n hx hb dX12_columnsOf_13 rfl (lv_at hl 0 rfl) ?_
    refine lv_iconst (v := 4) hx hb dX12_columnsOf_14 (by decide) ?_
    refine lv_icmp_le (tgt := 22) hx hb dX12_columnsOf_15 (by decide) (fun c_8 => ?_) (fun c_8 => ?_)
    · skip
      refine lv_iconst (v := 0) hx hb dX12_columnsOf_22 (by decide) ?_
      rw [hQ]
      exact W.iret (v := 0) hx hb hr (fun tQ htQ hWQ => ⟨0, rfl, by first | exact cl_a (by assumption) (by assumption) | exact cl_b (by assumption) (by assumption) | exact cl_c (by assumption) (by assumption), by rw [htQ]⟩) (fun q hq => absurd hq List.not_mem_nil) dX12_columnsOf_23
    · skip
      refine lv_iconst (v := (-1)) hx hb dX12_columnsOf_18 (by decide) ?_
      refine lv_goto (tgt := 23) hx hb dX12_columnsOf_19 (by decide) ?_
      rw [hQ]
      exact W.iret (v := (-1)) hx hb hr (fun tQ htQ hWQ => ⟨(-1), rfl, by first | exact cl_a (by assumption) (by assumption) | exact cl_b (by assumption) (by assumption) | exact cl_c (by assumption) (by assumption), by rw [htQ]⟩) (fun q hq => absurd hq List.not_mem_nil) dX12_columnsOf_23

set_option maxHeartbeats 4000000 in
set_option maxRecDepth 100000 in
theorem c_nextTo (l : Launch) (dC : Nat → ClassId) (dI : Nat → Nat → Nat) (j w : Nat) (zj : j < 36) (zw : w < 8) : Met l yX12_nextTo wsX12_nextTo ({ frames := 2, cells := 0, slots := 0, locals := 42 } : Room) (va_Pc [.int (nI j), .int (nI w)] (fun U => True)) (vp_Si (fun r => r = nI (nxN j w))) 0 0 (fun _ => False) := by
  refine met_ofQ (cc := cX12_nextTo) (maxL := 4) (ret := (some .int)) (by decide) rfl ?_
  intro p e s m args below meth c s₁ Q B hml hv hQ
  obtain ⟨rfl, -⟩ := hv
  have hx := B.exec
  have hb := B.bytes
  have hr := B.returns
  have hts := atoms_spec (ws := wsX12_nextTo) B.pre
  have hown : s.vm.findClass RX12 = some m.cls := findClass_of_methodNamed B.named
  have hlocks := B.notSynchronized
  obtain ⟨A, hAe⟩ : ∃ A : Nat → Prop, A = fun _ => False := ⟨_, rfl⟩
  rw [← hAe] at hQ
  have hS : va_S A s.heap s.heap [] := va_S.rf
  have hl := lv_entry [.int (nI j), .int (nI w)] (n := 4) (Nat.le_of_ble_eq_true rfl)
  rw [lg_entry_eq]
  generalize (lg_sl [.int (nI j), .int (nI w)] ++ List.replicate (4 - (lg_sl [.int (nI j), .int (nI w)]).length) Slot.unset).toArray = ls at hl ⊢
  generalize hag : ([.int (nI j), .int (nI w)] : List Value).toArray = args at hts hQ ⊢
  have hl : lv_has ls 4 [(0, .int (nI j)), (1, .int (nI w))] := hl
  refine lv_iload_n hx hb dX12_nextTo_0 rfl (lv_at hl 0 rfl) ?_
  refine lv_bipush (v := 6) hx hb dX12_nextTo_1 (by decide) ?_
  refine lv_idiv hx hb dX12_nextTo_3 (by decide) ?_
  refine qi_as (y := nI (j / 6)) (pk_div (a := j) (d := 6) (by omega) (by omega) (by omega)) ?_
  refine lv_iload_n hx hb dX12_nextTo_4 rfl (lv_at hl 1 rfl) ?_
  refine vp_callSi (va_runS (As := [.int (nI w)]) (rest := [.int (nI (j / 6))]) ⟨hx, hb, hml, hown, hts⟩ (c_rowsOf l dC dI (nI w)) (va_cwS 1 hts gX12_nextTo_X12_rowsOf rfl rfl rfl hd_yX12_rowsOf.2 ⟨Nat.le_of_ble_eq_true rfl, Nat.le_of_ble_eq_true rfl⟩) ⟨fun a U g mk q => ⟨q.1, trivial⟩, fun U hU hW => ⟨rfl, trivial⟩⟩ rfl rfl hl.1 rfl (lv_room (Nat.le_of_ble_eq_true rfl)) dX12_nextTo_5 ⟨Nat.le_of_ble_eq_true rfl, Nat.le_of_ble_eq_true rfl⟩).run (fun r_1 hw_2 => ?_)
  obtain rfl := hw_2
  refine lv_iadd hx hb dX12_nextTo_8 ?_
  refine lv_istore_n (lv' := [(2, .int ((nI (j / 6)) + (rwR (nI w)))), (0, .int (nI j)), (1, .int (nI w))]) hx hb dX12_nextTo_9 rfl hl (by decide) rfl (fun ls hl => ?_)
  refine lv_iload_n hx hb dX12_nextTo_10 rfl (lv_at hl 1 rfl) ?_
  refine lv_bipush (v := 6) hx hb dX12_nextTo_11 (by decide) ?_
  refine lv_irem hx hb dX12_nextTo_13 (by decide) ?_
  refine qi_as (y := nI (j % 6)) (pk_rem (a := j) (d := 6) (by omega) (by omega) (by omega)) ?_
  refine lv_iload_n hx hb dX12_nextTo_14 rfl (lv_at hl 2 rfl) ?_
  refine vp_callSi (va_runS (As := [.int (nI w)]) (rest := [.int (nI (j % 6))]) ⟨hx, hb, hml, hown, hts⟩ (c_columnsOf l dC dI (nI w)) (va_cwS 1 hts gX12_nextTo_X12_columnsOf rfl rfl rfl hd_yX12_columnsOf.2 ⟨Nat.le_of_ble_eq_true rfl, Nat.le_of_ble_eq_true rfl⟩) ⟨fun a U g mk q => ⟨q.1, trivial⟩, fun U hU hW => ⟨rfl, trivial⟩⟩ rfl rfl hl.1 rfl (lv_room (Nat.le_of_ble_eq_true rfl)) dX12_nextTo_15 ⟨Nat.le_of_ble_eq_true rfl, Nat.le_of_ble_eq_true rfl⟩).run (fun r_3 hw_4 => ?_)
  obtain rfl := hw_4
  refine lv_iadd hx hb dX12_nextTo_18 ?_
  refine lv_istore_n (lv' := [(3, .int ((nI (j % 6)) + (clR (nI w)))), (2, .int ((nI (j / 6)) + (rwR (nI w)))), (0, .int (nI j)), (1, .int (nI w))]) hx hb dX12_nextTo_19 rfl hl (by decide) rfl (fun ls hl => ?_)
  refine lv_iload_n hx hb dX12_nextTo_20 rfl (lv_at hl 1 rfl) ?_
  refine lv_iconst (v := 0) hx hb dX12_nextTo_21 (by decide) ?_
  refine lv_iconst (v := 5) hx hb dX12_nextTo_22 (by decide) ?_
  refine vp_callSi (va_runS (As := [.int ((nI (j / 6)) + (rwR (nI w))), .int 0, .int 5]) (rest := []) ⟨hx, hb, hml, hown, hts⟩ (c_in l dC dI ((nI (j / 6)) + (rwR (nI w))) 0 5) (va_cwS 3 hts gX12_nextTo_X12_in rfl rfl rfl hd_yX12_in.2 ⟨Nat.le_of_ble_eq_true rfl, Nat.le_of_ble_eq_true rfl⟩) ⟨fun a U g mk q => ⟨q.1, trivial⟩, fun U hU hW => ⟨rfl, trivial⟩⟩ rfl rfl hl.1 rfl (lv_room (Nat.le_of_ble_eq_true rfl)) dX12_nextTo_23 ⟨Nat.le_of_ble_eq_true rfl, Nat.le_of_ble_eq_true rfl⟩).run (fun r_5 hw_6 => ?_)
  rcases hw_6 with ⟨rfl, h_7, h_8⟩ | ⟨rfl, h_9⟩
  · skip
    refine lv_if_eq (tgt := 47) hx hb dX12_nextTo_26 (by decide) (fun c_10 => absurd c_10 (by decide)) (fun _ => ?_)
    refine lv_iload_n hx hb dX12_nextTo_29 rfl (lv_at hl 0 rfl) ?_
    refine lv_iconst (v := 0) hx hb dX12_nextTo_30 (by decide) ?_
    refine lv_iconst (v := 5) hx hb dX12_nextTo_31 (by decide) ?_
    refine vp_callSi (va_runS (As := [.int ((nI (j % 6)) + (clR (nI w))), .int 0, .int 5]) (rest := []) ⟨hx, hb, hml, hown, hts⟩ (c_in l dC dI ((nI (j % 6)) + (clR (nI w))) 0 5) (va_cwS 3 hts gX12_nextTo_X12_in rfl rfl rfl hd_yX12_in.2 ⟨Nat.le_of_ble_eq_true rfl, Nat.le_of_ble_eq_true rfl⟩) ⟨fun a U g mk q => ⟨q.1, trivial⟩, fun U hU hW => ⟨rfl, trivial⟩⟩ rfl rfl hl.1 rfl (lv_room (Nat.le_of_ble_eq_true rfl)) dX12_nextTo_32 ⟨Nat.le_of_ble_eq_true rfl, Nat.le_of_ble_eq_true rfl⟩).run (fun r_11 hw_12 => ?_)
    rcases hw_12 with ⟨rfl, h_13, h_14⟩ | ⟨rfl, h_15⟩
    · skip
      refine lv_if_eq (tgt := 47) hx hb dX12_nextTo_35 (by decide) (fun c_16 => absurd c_16 (by decide)) (fun _ => ?_)
      refine lv_bipush (v := 6) hx hb dX12_nextTo_38 (by decide) ?_
      refine lv_iload_n hx hb dX12_nextTo_40 rfl (lv_at hl 1 rfl) ?_
      refine lv_imul hx hb dX12_nextTo_41 ?_
      refine lv_iload_n hx hb dX12_nextTo_42 rfl (lv_at hl 0 rfl) ?_
      refine lv_iadd hx hb dX12_nextTo_43 ?_
      refine lv_goto (tgt := 48) hx hb dX12_nextTo_44 (by decide) ?_
      rw [hQ]
      exact W.iret (v := (6 * ((nI (j / 6)) + (rwR (nI w)))) + ((nI (j % 6)) + (clR (nI w)))) hx hb hr (fun tQ htQ hWQ => ⟨(6 * ((nI (j / 6)) + (rwR (nI w)))) + ((nI (j % 6)) + (clR (nI w))), rfl, nx_ri zj zw h_7 h_8 h_13 h_14, by rw [htQ]⟩) (fun q hq => absurd hq List.not_mem_nil) dX12_nextTo_48
    · skip
      refine lv_if_eq (tgt := 47) hx hb dX12_nextTo_35 (by decide) (fun _ => ?_) (fun c_17 => absurd c_17 (by decide))
      refine lv_iload_n hx hb dX12_nextTo_47 rfl (lv_at hl 2 rfl) ?_
      rw [hQ]
      exact W.iret (v := nI j) hx hb hr (fun tQ htQ hWQ => ⟨nI j, rfl, nx_o2 zj zw h_15, by rw [htQ]⟩) (fun q hq => absurd hq List.not_mem_nil) dX12_nextTo_48
  · skip
    refine lv_if_eq (tgt := 47) hx hb dX12_nextTo_26 (by decide) (fun _ => ?_) (fun c_18 => absurd c_18 (by decide))
    refine lv_iload_n hx hb dX12_nextTo_47 rfl (lv_at hl 2 rfl) ?_
    rw [hQ]
    exact W.iret (v := nI j) hx hb hr (fun tQ htQ hWQ => ⟨nI j, rfl, nx_o1 zj zw h_9, by rw [htQ]⟩) (fun q hq => absurd hq List.not_mem_nil) dX12_nextTo_48

set_option maxHeartbeats 4000000 in
set_option maxRecDepth 100000 in
theorem c_side (l : Launch) (dC : Nat → ClassId) (dI : Nat → Nat → Nat) (x y z : Int32) : Met l yX12_isThatSide wsX12_isThatSide ({ frames := 0, cells := 0, slots := 0, locals := 0 } : Room) (va_Pc [.int x, .int y, .int z] (fun U => True)) (vp_Si (fun r => (r = 1 ∧ sdR x y z) ∨ (r = 0 ∧ ¬ sdR x y z))) 0 0 (fun _ => False) := by
  refine met_ofQ (cc := cX12_isThatSide) (maxL := 3) (ret := (some .boolean)) (by decide) rfl ?_
  intro p e s m args below meth c s₁ Q B hml hv hQ
  obtain ⟨rfl, -⟩ := hv
  have hx := B.exec
  have hb := B.bytes
  have hr := B.returns
  have hts := atoms_spec (ws := wsX12_isThatSide) B.pre
  have hown : s.vm.findClass RX12 = some m.cls := findClass_of_methodNamed B.named
  have hlocks := B.notSynchronized
  obtain ⟨A, hAe⟩ : ∃ A : Nat → Prop, A = fun _ => False := ⟨_, rfl⟩
  rw [← hAe] at hQ
  have hS : va_S A s.heap s.heap [] := va_S.rf
  have hl := lv_entry [.int x, .int y, .int z] (n := 3) (Nat.le_of_ble_eq_true rfl)
  rw [lg_entry_eq]
  generalize (lg_sl [.int x, .int y, .int z] ++ List.replicate (3 - (lg_sl [.int x, .int y, .int z]).length) Slot.unset).toArray = ls at hl ⊢
  generalize hag : ([.int x, .int y, .int z] : List Value).toArray = args at hts hQ ⊢
  have hl : lv_has ls 3 [(0, .int x), (1, .int y), (2, .int z)] := hl
  refine lv_iload_n hx hb dX12_isThatSide_0 rfl (lv_at hl 0 rfl) ?_
  refine lv_if_eq (tgt := 22) hx hb dX12_isThatSide_1 (by decide) (fun c_1 => ?_) (fun c_1 => ?_)
  · skip
    refine lv_iconst (v := 1) hx hb dX12_isThatSide_22 (by decide) ?_
    refine lv_goto (tgt := 27) hx hb dX12_isThatSide_23 (by decide) ?_
    rw [hQ]
    exact W.zret (v := 1) hx hb hr rfl (fun tQ htQ hWQ => ⟨1, rfl, by first | exact Or.inl ⟨rfl, sd_a (by assumption)⟩ | exact Or.inl ⟨rfl, sd_b (by assumption) (by assumption)⟩ | exact Or.inl ⟨rfl, sd_c (by assumption) (by assumption)⟩ | exact Or.inr ⟨rfl, sd_f (by assumption) (by first | exact Or.inl (by assumption) | exact Or.inr (by assumption)) (by first | exact Or.inl (by assumption) | exact Or.inr (by assumption))⟩, by rw [htQ]⟩) (fun q hq => absurd hq List.not_mem_nil) dX12_isThatSide_27
  · skip
    refine lv_iload_n hx hb dX12_isThatSide_4 rfl (lv_at hl 0 rfl) ?_
    refine lv_if_ge (tgt := 13) hx hb dX12_isThatSide_5 (by decide) (fun c_2 => ?_) (fun c_2 => ?_)
    · skip
      refine lv_iload_n hx hb dX12_isThatSide_13 rfl (lv_at hl 0 rfl) ?_
      refine lv_if_le (tgt := 26) hx hb dX12_isThatSide_14 (by decide) (fun c_3 => ?_) (fun c_3 => ?_)
      · skip
        refine lv_iconst (v := 0) hx hb dX12_isThatSide_26 (by decide) ?_
        rw [hQ]
        exact W.zret (v := 0) hx hb hr rfl (fun tQ htQ hWQ => ⟨0, rfl, by first | exact Or.inl ⟨rfl, sd_a (by assumption)⟩ | exact Or.inl ⟨rfl, sd_b (by assumption) (by assumption)⟩ | exact Or.inl ⟨rfl, sd_c (by assumption) (by assumption)⟩ | exact Or.inr ⟨rfl, sd_f (by assumption) (by first | exact Or.inl (by assumption) | exact Or.inr (by assumption)) (by first | exact Or.inl (by assumption) | exact Or.inr (by assumption))⟩, by rw [htQ]⟩) (fun q hq => absurd hq List.not_mem_nil) dX12_isThatSide_27
      · skip
        refine lv_iload_n hx hb dX12_isThatSide_17 rfl (lv_at hl 2 rfl) ?_
        refine lv_iload_n hx hb dX12_isThatSide_18 rfl (lv_at hl 1 rfl) ?_
        refine lv_icmp_le (tgt := 26) hx hb dX12_isThatSide_19 (by decide) (fun c_4 => ?_) (fun c_4 => ?_)
        · skip
          refine lv_iconst (v := 0) hx hb dX12_isThatSide_26 (by decide) ?_
          rw [hQ]
          exact W.zret (v := 0) hx hb hr rfl (fun tQ htQ hWQ => ⟨0, rfl, by first | exact Or.inl ⟨rfl, sd_a (by assumption)⟩ | exact Or.inl ⟨rfl, sd_b (by assumption) (by assumption)⟩ | exact Or.inl ⟨rfl, sd_c (by assumption) (by assumption)⟩ | exact Or.inr ⟨rfl, sd_f (by assumption) (by first | exact Or.inl (by assumption) | exact Or.inr (by assumption)) (by first | exact Or.inl (by assumption) | exact Or.inr (by assumption))⟩, by rw [htQ]⟩) (fun q hq => absurd hq List.not_mem_nil) dX12_isThatSide_27
        · skip
          refine lv_iconst (v := 1) hx hb dX12_isThatSide_22 (by decide) ?_
          refine lv_goto (tgt := 27) hx hb dX12_isThatSide_23 (by decide) ?_
          rw [hQ]
          exact W.zret (v := 1) hx hb hr rfl (fun tQ htQ hWQ => ⟨1, rfl, by first | exact Or.inl ⟨rfl, sd_a (by assumption)⟩ | exact Or.inl ⟨rfl, sd_b (by assumption) (by assumption)⟩ | exact Or.inl ⟨rfl, sd_c (by assumption) (by assumption)⟩ | exact Or.inr ⟨rfl, sd_f (by assumption) (by first | exact Or.inl (by assumption) | exact Or.inr (by assumption)) (by first | exact Or.inl (by assumption) | exact Or.inr (by assumption))⟩, by rw [htQ]⟩) (fun q hq => absurd hq List.not_mem_nil) dX12_isThatSide_27
    · skip
      refine lv_iload_n hx hb dX12_isThatSide_8 rfl (lv_at hl 2 rfl) ?_
      refine lv_iload_n hx hb dX12_isThatSide_9 rfl (lv_at hl 1 rfl) ?_
      refine lv_icmp_lt (tgt := 22) hx hb dX12_isThatSide_10 (by decide) (fun c_5 => ?_) (fun c_5 => ?_)
      · skip
        refine lv_iconst (v := 1) hx hb dX12_isThatSide_22 (by decide) ?_
        refine lv_goto (tgt := 27) hx hb dX12_isThatSide_23 (by decide) ?_
        rw [hQ]
        exact W.zret (v := 1) hx hb hr rfl (fun tQ htQ hWQ => ⟨1, rfl, by first | exact Or.inl ⟨rfl, sd_a (by assumption)⟩ | exact Or.inl ⟨rfl, sd_b (by assumption) (by assumption)⟩ | exact Or.inl ⟨rfl, sd_c (by assumption) (by assumption)⟩ | exact Or.inr ⟨rfl, sd_f (by assumption) (by first | exact Or.inl (by assumption) | exact Or.inr (by assumption)) (by first | exact Or.inl (by assumption) | exact Or.inr (by assumption))⟩, by rw [htQ]⟩) (fun q hq => absurd hq List.not_mem_nil) dX12_isThatSide_27
      · skip
        refine lv_iload_n hx hb dX12_isThatSide_13 rfl (lv_at hl 0 rfl) ?_
        refine lv_if_le (tgt := 26) hx hb dX12_isThatSide_14 (by decide) (fun c_6 => ?_) (fun c_6 => ?_)
        · skip
          refine lv_iconst (v := 0) hx hb dX12_isThatSide_26 (by decide) ?_
          rw [hQ]
          exact W.zret (v := 0) hx hb hr rfl (fun tQ htQ hWQ => ⟨0, rfl, by first | exact Or.inl ⟨rfl, sd_a (by assumption)⟩ | exact Or.inl ⟨rfl, sd_b (by assumption) (by assumption)⟩ | exact Or.inl ⟨rfl, sd_c (by assumption) (by assumption)⟩ | exact Or.inr ⟨rfl, sd_f (by assumption) (by first | exact Or.inl (by assumption) | exact Or.inr (by assumption)) (by first | exact Or.inl (by assumption) | exact Or.inr (by assumption))⟩, by rw [htQ]⟩) (fun q hq => absurd hq List.not_mem_nil) dX12_isThatSide_27
        · skip
          refine lv_iload_n hx hb dX12_isThatSide_17 rfl (lv_at hl 2 rfl) ?_
          refine lv_iload_n hx hb dX12_isThatSide_18 rfl (lv_at hl 1 rfl) ?_
          refine lv_icmp_le (tgt := 26) hx hb dX12_isThatSide_19 (by decide) (fun c_7 => ?_) (fun c_7 => ?_)
          · skip
            refine lv_iconst (v := 0) hx hb dX12_isThatSide_26 (by decide) ?_
            rw [hQ]
            exact W.zret (v := 0) hx hb hr rfl (fun tQ htQ hWQ => ⟨0, rfl, by first | exact Or.inl ⟨rfl, sd_a (by assumption)⟩ | exact Or.inl ⟨rfl, sd_b (by assumption) (by assumption)⟩ | exact Or.inl ⟨rfl, sd_c (by assumption) (by assumption)⟩ | exact Or.inr ⟨rfl, sd_f (by assumption) (by first | exact Or.inl (by assumption) | exact Or.inr (by assumption)) (by first | exact Or.inl (by assumption) | exact Or.inr (by assumption))⟩, by rw [htQ]⟩) (fun q hq => absurd hq List.not_mem_nil) dX12_isThatSide_27
          · skip
            refine lv_iconst (v := 1) hx hb dX12_isThatSide_22 (by decide) ?_
            refine lv_goto (tgt := 27) hx hb dX12_isThatSide_23 (by decide) ?_
            rw [hQ]
            exact W.zret (v := 1) hx hb hr rfl (fun tQ htQ hWQ => ⟨1, rfl, by first | exact Or.inl ⟨rfl, sd_a (by assumption)⟩ | exact Or.inl ⟨rfl, sd_b (by assumption) (by assumption)⟩ | exact Or.inl ⟨rfl, sd_c (by assumption) (by assumption)⟩ | exact Or.inr ⟨rfl, sd_f (by assumption) (by first | exact Or.inl (by assumption) | exact Or.inr (by assumption)) (by first | exact Or.inl (by assumption) | exact Or.inr (by assumption))⟩, by rw [htQ]⟩) (fun q hq => absurd hq List.not_mem_nil) dX12_isThatSide_27

set_option maxHeartbeats 4000000 in
set_option maxRecDepth 100000 in
theorem c_apart (l : Launch) (dC : Nat → ClassId) (dI : Nat → Nat → Nat) (x y : Int32) : Met l yX12_apart wsX12_apart ({ frames := 1, cells := 0, slots := 0, locals := 20 } : Room) (va_Pc [.int x, .int y] (fun U => True)) (vp_Si (fun r => r = apR x y)) 0 0 (fun _ => False) := by
  refine met_ofQ (cc := cX12_apart) (maxL := 4) (ret := (some .int)) (by decide) rfl ?_
  intro p e s m args below meth c s₁ Q B hml hv hQ
  obtain ⟨rfl, -⟩ := hv
  have hx := B.exec
  have hb := B.bytes
  have hr := B.returns
  have hts := atoms_spec (ws := wsX12_apart) B.pre
  have hown : s.vm.findClass RX12 = some m.cls := findClass_of_methodNamed B.named
  have hlocks := B.notSynchronized
  obtain ⟨A, hAe⟩ : ∃ A : Nat → Prop, A = fun _ => False := ⟨_, rfl⟩
  rw [← hAe] at hQ
  have hS : va_S A s.heap s.heap [] := va_S.rf
  have hl := lv_entry [.int x, .int y] (n := 4) (Nat.le_of_ble_eq_true rfl)
  rw [lg_entry_eq]
  generalize (lg_sl [.int x, .int y] ++ List.replicate (4 - (lg_sl [.int x, .int y]).length) Slot.unset).toArray = ls at hl ⊢
  generalize hag : ([.int x, .int y] : List Value).toArray = args at hts hQ ⊢
  have hl : lv_has ls 4 [(0, .int x), (1, .int y)] := hl
  refine lv_iload_n hx hb dX12_apart_0 rfl (lv_at hl 0 rfl) ?_
  refine lv_bipush (v := 6) hx hb dX12_apart_1 (by decide) ?_
  refine lv_idiv hx hb dX12_apart_3 (by decide) ?_
  refine lv_iload_n hx hb dX12_apart_4 rfl (lv_at hl 1 rfl) ?_
  refine lv_bipush (v := 6) hx hb dX12_apart_5 (by decide) ?_
  refine lv_idiv hx hb dX12_apart_7 (by decide) ?_
  refine lv_isub hx hb dX12_apart_8 ?_
  refine vp_callSi (va_runS (As := [.int ((x / 6) - (y / 6))]) (rest := []) ⟨hx, hb, hml, hown, hts⟩ (c_size l dC dI ((x / 6) - (y / 6))) (va_cwS 1 hts gX12_apart_X12_size rfl rfl rfl hd_yX12_size.2 ⟨Nat.le_of_ble_eq_true rfl, Nat.le_of_ble_eq_true rfl⟩) ⟨fun a U g mk q => ⟨q.1, trivial⟩, fun U hU hW => ⟨rfl, trivial⟩⟩ rfl rfl hl.1 rfl (lv_room (Nat.le_of_ble_eq_true rfl)) dX12_apart_9 ⟨Nat.le_of_ble_eq_true rfl, Nat.le_of_ble_eq_true rfl⟩).run (fun r_1 hw_2 => ?_)
  obtain rfl := hw_2
  refine lv_istore_n (lv' := [(2, .int (szR ((x / 6) - (y / 6)))), (0, .int x), (1, .int y)]) hx hb dX12_apart_12 rfl hl (by decide) rfl (fun ls hl => ?_)
  refine lv_iload_n hx hb dX12_apart_13 rfl (lv_at hl 1 rfl) ?_
  refine lv_bipush (v := 6) hx hb dX12_apart_14 (by decide) ?_
  refine lv_irem hx hb dX12_apart_16 (by decide) ?_
  refine lv_iload_n hx hb dX12_apart_17 rfl (lv_at hl 2 rfl) ?_
  refine lv_bipush (v := 6) hx hb dX12_apart_18 (by decide) ?_
  refine lv_irem hx hb dX12_apart_20 (by decide) ?_
  refine lv_isub hx hb dX12_apart_21 ?_
  refine vp_callSi (va_runS (As := [.int ((x - x / 6 * 6) - (y - y / 6 * 6))]) (rest := []) ⟨hx, hb, hml, hown, hts⟩ (c_size l dC dI ((x - x / 6 * 6) - (y - y / 6 * 6))) (va_cwS 1 hts gX12_apart_X12_size rfl rfl rfl hd_yX12_size.2 ⟨Nat.le_of_ble_eq_true rfl, Nat.le_of_ble_eq_true rfl⟩) ⟨fun a U g mk q => ⟨q.1, trivial⟩, fun U hU hW => ⟨rfl, trivial⟩⟩ rfl rfl hl.1 rfl (lv_room (Nat.le_of_ble_eq_true rfl)) dX12_apart_22 ⟨Nat.le_of_ble_eq_true rfl, Nat.le_of_ble_eq_true rfl⟩).run (fun r_3 hw_4 => ?_)
  obtain rfl := hw_4
  refine lv_istore_n (lv' := [(3, .int (szR ((x - x / 6 * 6) - (y - y / 6 * 6)))), (2, .int (szR ((x / 6) - (y / 6)))), (0, .int x), (1, .int y)]) hx hb dX12_apart_25 rfl hl (by decide) rfl (fun ls hl => ?_)
  refine lv_iload_n hx hb dX12_apart_26 rfl (lv_at hl 1 rfl) ?_
  refine lv_iload_n hx hb dX12_apart_27 rfl (lv_at hl 0 rfl) ?_
  refine lv_icmp_le (tgt := 35) hx hb dX12_apart_28 (by decide) (fun c_5 => ?_) (fun c_5 => ?_)
  · skip
    refine lv_iload_n hx hb dX12_apart_35 rfl (lv_at hl 0 rfl) ?_
    rw [hQ]
    exact W.iret (v := szR ((x - x / 6 * 6) - (y - y / 6 * 6))) hx hb hr (fun tQ htQ hWQ => ⟨szR ((x - x / 6 * 6) - (y - y / 6 * 6)), rfl, by first | exact (if_pos (by assumption)).symm | exact (if_neg (by assumption)).symm, by rw [htQ]⟩) (fun q hq => absurd hq List.not_mem_nil) dX12_apart_36
  · skip
    refine lv_iload_n hx hb dX12_apart_31 rfl (lv_at hl 1 rfl) ?_
    refine lv_goto (tgt := 36) hx hb dX12_apart_32 (by decide) ?_
    rw [hQ]
    exact W.iret (v := szR ((x / 6) - (y / 6))) hx hb hr (fun tQ htQ hWQ => ⟨szR ((x / 6) - (y / 6)), rfl, by first | exact (if_pos (by assumption)).symm | exact (if_neg (by assumption)).symm, by rw [htQ]⟩) (fun q hq => absurd hq List.not_mem_nil) dX12_apart_36

theorem kc_isHeap_0 : ∀ w ∈ wsX120, w ∈ wsX12_isHeap := fun w h => List.mem_cons_of_mem _ (gin_wsX120 w h)
theorem kc_isHeap_1 : (.fieldLink RX12 9 "MistHeapsModel" "s" "[I" : Cond) ∈ wsX12_isHeap := kc_of 1141 rfl rfl rfl
set_option maxHeartbeats 4000000 in
set_option maxRecDepth 100000 in
theorem c_isHeap (l : Launch) (dC : Nat → ClassId) (dI : Nat → Nat → Nat) (m0 aS aI aB aT aG aO aN aD aY : Nat) (th im ac sp en wg op se dn rn kd nu tv : Int32) (bv : Int64) (cS : ClassId) (fS : Nat → Int32) (n : Nat) (x : Int32) (zn : fS 0 = nI n) (hn : n ≤ 8) : Met l yX12_isHeap wsX12_isHeap ({ frames := 1, cells := 0, slots := 0, locals := 22 } : Room) (va_Pc [.ref m0, .int x] (fun U => va_P (dC, dI) vwCl [(zo14irriiiiiirriirrrrlriiii m0 th aS aI im ac sp en wg op aB aT se dn aG aO aN aD bv aY rn kd nu tv), (zaI aS cS 901 fS)] U.heap ∧ va_K (dC, dI) vwCl [(cS, .int)] U)) (vp_Si (fun r => (r = 1 ∧ ∃ j : Nat, j < n ∧ x = nI j) ∨ (r = 0 ∧ ∀ j : Nat, j < n → x ≠ nI j))) 0 0 (fun _ => False) := by
  refine met_ofQ (cc := cX12_isHeap) (maxL := 2) (ret := (some .boolean)) (by decide) rfl ?_
  intro p e s m args below meth c s₁ Q B hml hv hQ
  obtain ⟨rfl, hP, hK⟩ := hv
  have hx := B.exec
  have hb := B.bytes
  have hr := B.returns
  have hts := atoms_spec (ws := wsX12_isHeap) B.pre
  have hown : s.vm.findClass RX12 = some m.cls := findClass_of_methodNamed B.named
  have hlocks := B.notSynchronized
  obtain ⟨A, hAe⟩ : ∃ A : Nat → Prop, A = fun _ => False := ⟨_, rfl⟩
  rw [← hAe] at hQ
  have hS : va_S A s.heap s.heap [] := va_S.rf
  have hl := lv_entry [.ref m0, .int x] (n := 2) (Nat.le_of_ble_eq_true rfl)
  rw [lg_entry_eq]
  generalize (lg_sl [.ref m0, .int x] ++ List.replicate (2 - (lg_sl [.ref m0, .int x]).length) Slot.unset).toArray = ls at hl ⊢
  generalize hag : ([.ref m0, .int x] : List Value).toArray = args at hts hQ ⊢
  have hl : lv_has ls 2 [(0, .ref m0), (1, .int x)] := hl
  refine lv_iload_n hx hb dX12_isHeap_0 rfl (lv_at hl 1 rfl) ?_
  refine lv_iconst (v := 0) hx hb dX12_isHeap_1 (by decide) ?_
  refine lv_aload_n hx hb dX12_isHeap_2 rfl (lv_at hl 0 rfl) ?_
  refine va_get (D := (dC, dI)) (ci := 14) (v := .ref aS) (C := RX12) (T := TX12) (N := 23) hx hb hts kc_isHeap_0 hown hK hP 0 rfl rfl 1 (by decide) (hts (.fieldLink RX12 9 "MistHeapsModel" "s" "[I") kc_isHeap_1) (fun _ h9 => h9) rfl dX12_isHeap_3 ?_
  refine lv_iconst (v := 0) hx hb dX12_isHeap_6 (by decide) ?_
  refine va_iald hx hb hK hP 1 0 rfl rfl (vp_in_nI (n := 0) (N := 901) (by omega) (by omega)) dX12_isHeap_7 ?_
  refine qi_as (y := nI n) ((show fS (0 : Int32).toNatClampNeg = fS 0 from rfl).trans (zn)) ?_
  refine lv_iconst (v := 1) hx hb dX12_isHeap_8 (by decide) ?_
  refine lv_isub hx hb dX12_isHeap_9 ?_
  refine vp_callSi (va_runS (As := [.int x, .int 0, .int ((nI n) - 1)]) (rest := []) ⟨hx, hb, hml, hown, hts⟩ (c_in l dC dI x 0 (nI n - 1)) (va_cwS 3 hts gX12_isHeap_X12_in rfl rfl rfl hd_yX12_in.2 ⟨Nat.le_of_ble_eq_true rfl, Nat.le_of_ble_eq_true rfl⟩) ⟨fun a U g mk q => ⟨q.1, trivial⟩, fun U hU hW => ⟨rfl, trivial⟩⟩ rfl rfl hl.1 rfl (lv_room (Nat.le_of_ble_eq_true rfl)) dX12_isHeap_10 ⟨Nat.le_of_ble_eq_true rfl, Nat.le_of_ble_eq_true rfl⟩).run (fun r_1 hw_2 => ?_)
  rw [hQ]
  exact W.zret (v := r_1) hx hb hr (by rcases hw_2 with ⟨e, _⟩ | ⟨e, _⟩ <;> rw [e] <;> rfl) (fun tQ htQ hWQ => ⟨r_1, rfl, isheap_of (by omega) hw_2, by rw [htQ]⟩) (fun q hq => absurd hq List.not_mem_nil) dX12_isHeap_13
end mg05
section mg05
theorem ggX12_reachOf_X12_looks : GoodIn wsX12_reachOf wsX12_looks := gga_of 1328 rfl rfl rfl
theorem gX12_reachOf_X12_looks : GoodIn wsX12_reachOf (wsV RX12 160 RX12 yX12_looks wsX12_looks) := goodIn_app (ggh_of [1325, 1327, 39, 72] rfl rfl rfl) ggX12_reachOf_X12_looks
theorem ggX12_reachOf_X12_sight : GoodIn wsX12_reachOf wsX12_sight := gga_of 1297 rfl rfl rfl
theorem gX12_reachOf_X12_sight : GoodIn wsX12_reachOf (wsV RX12 140 RX12 yX12_sight wsX12_sight) := goodIn_app (ggh_of [1294, 1296, 34, 72] rfl rfl rfl) ggX12_reachOf_X12_sight
theorem ggX12_isSeen_X12_apart : GoodIn wsX12_isSeen wsX12_apart := gga_of 1343 rfl rfl rfl
theorem gX12_isSeen_X12_apart : GoodIn wsX12_isSeen (va_wsS RX12 170 yX12_apart wsX12_apart) := goodIn_app (ggh_of [1341, 1342, 72] rfl rfl rfl) ggX12_isSeen_X12_apart
theorem ggX12_isSeen_X12_reachOf : GoodIn wsX12_isSeen wsX12_reachOf := gga_of 1324 rfl rfl rfl
theorem gX12_isSeen_X12_reachOf : GoodIn wsX12_isSeen (wsV RX12 167 RX12 yX12_reachOf wsX12_reachOf) := goodIn_app (ggh_of [1321, 1323, 38, 72] rfl rfl rfl) ggX12_isSeen_X12_reachOf
theorem ggX12_seesOf_X12_isSeen : GoodIn wsX12_seesOf wsX12_isSeen := gga_of 1340 rfl rfl rfl
theorem gX12_seesOf_X12_isSeen : GoodIn wsX12_seesOf (wsV RX12 174 RX12 yX12_isSeen wsX12_isSeen) := goodIn_app (ggh_of [1337, 1339, 41, 72] rfl rfl rfl) ggX12_seesOf_X12_isSeen
theorem ggX12_sees_X12_isCell : GoodIn wsX12_sees wsX12_isCell := gga_of 1304 rfl rfl rfl
theorem gX12_sees_X12_isCell : GoodIn wsX12_sees (va_wsS RX12 149 yX12_isCell wsX12_isCell) := goodIn_app (ggh_of [1302, 1303, 72] rfl rfl rfl) ggX12_sees_X12_isCell
theorem ggX12_sees_X12_seesOf : GoodIn wsX12_sees wsX12_seesOf := gga_of 1336 rfl rfl rfl
theorem gX12_sees_X12_seesOf : GoodIn wsX12_sees (wsV RX12 178 RX12 yX12_seesOf wsX12_seesOf) := goodIn_app (ggh_of [1333, 1335, 40, 72] rfl rfl rfl) ggX12_sees_X12_seesOf
theorem ggX12_where_X12_seesOf : GoodIn wsX12_where wsX12_seesOf := gga_of 1336 rfl rfl rfl
theorem gX12_where_X12_seesOf : GoodIn wsX12_where (wsV RX12 178 RX12 yX12_seesOf wsX12_seesOf) := goodIn_app (ggh_of [1333, 1335, 40, 72] rfl rfl rfl) ggX12_where_X12_seesOf
noncomputable def dk06ref2_cX12_looks_0 : List (Nat × List Nat) := [(0, [42]), (1, [180, 0, 18]), (4, [3]), (5, [27]), (6, [79]), (7, [42]), (8, [180, 0, 18]), (11, [4]), (12, [28]), (13, [79]), (14, [42]), (15, [180, 0, 18]), (18, [5]), (19, [29]), (20, [16, 6]), (22, [108]), (23, [79]), (24, [42]), (25, [180, 0, 18]), (28, [6]), (29, [29]), (30, [16, 6]), (32, [112]), (33, [79]), (34, [42]), (35, [180, 0, 18]), (38, [7]), (39, [42]), (40, [180, 0, 9]), (43, [16, 6]), (45, [46]), (46, [79]), (47, [42]), (48, [180, 0, 18]), (51, [8]), (52, [42]), (53, [180, 0, 9]), (56, [16, 7]), (58, [46]), (59, [79])]
set_option maxRecDepth 100000 in
theorem dk06ref2_cX12_looks_0_a : btA cX12_looks dk06ref2_cX12_looks_0 = true := by decide +kernel
theorem dX12_looks_0 : decode cX12_looks 0 = .ok (.aload_n 0, 1) := bd42 (btAt dk06ref2_cX12_looks_0_a 0 rfl)
theorem dX12_looks_1 : decode cX12_looks 1 = .ok (.getfield 18, 3) := bd180 (a := 0) (b := 18) (btAt dk06ref2_cX12_looks_0_a 1 rfl)
theorem dX12_looks_4 : decode cX12_looks 4 = .ok (.iconst 0, 1) := bd3 (btAt dk06ref2_cX12_looks_0_a 2 rfl)
theorem dX12_looks_5 : decode cX12_looks 5 = .ok (.iload_n 1, 1) := bd27 (btAt dk06ref2_cX12_looks_0_a 3 rfl)
theorem dX12_looks_6 : decode cX12_looks 6 = .ok (.iastore, 1) := bd79 (btAt dk06ref2_cX12_looks_0_a 4 rfl)
theorem dX12_looks_7 : decode cX12_looks 7 = .ok (.aload_n 0, 1) := bd42 (btAt dk06ref2_cX12_looks_0_a 5 rfl)
theorem dX12_looks_8 : decode cX12_looks 8 = .ok (.getfield 18, 3) := bd180 (a := 0) (b := 18) (btAt dk06ref2_cX12_looks_0_a 6 rfl)
theorem dX12_looks_11 : decode cX12_looks 11 = .ok (.iconst 1, 1) := bd4 (btAt dk06ref2_cX12_looks_0_a 7 rfl)
theorem dX12_looks_12 : decode cX12_looks 12 = .ok (.iload_n 2, 1) := bd28 (btAt dk06ref2_cX12_looks_0_a 8 rfl)
theorem dX12_looks_13 : decode cX12_looks 13 = .ok (.iastore, 1) := bd79 (btAt dk06ref2_cX12_looks_0_a 9 rfl)
theorem dX12_looks_14 : decode cX12_looks 14 = .ok (.aload_n 0, 1) := bd42 (btAt dk06ref2_cX12_looks_0_a 10 rfl)
theorem dX12_looks_15 : decode cX12_looks 15 = .ok (.getfield 18, 3) := bd180 (a := 0) (b := 18) (btAt dk06ref2_cX12_looks_0_a 11 rfl)
theorem dX12_looks_18 : decode cX12_looks 18 = .ok (.iconst 2, 1) := bd5 (btAt dk06ref2_cX12_looks_0_a 12 rfl)
theorem dX12_looks_19 : decode cX12_looks 19 = .ok (.iload_n 3, 1) := bd29 (btAt dk06ref2_cX12_looks_0_a 13 rfl)
theorem dX12_looks_20 : decode cX12_looks 20 = .ok (.bipush 6, 2) := bd16 (a := 6) (btAt dk06ref2_cX12_looks_0_a 14 rfl)
theorem dX12_looks_22 : decode cX12_looks 22 = .ok (.idiv, 1) := bd108 (btAt dk06ref2_cX12_looks_0_a 15 rfl)
theorem dX12_looks_23 : decode cX12_looks 23 = .ok (.iastore, 1) := bd79 (btAt dk06ref2_cX12_looks_0_a 16 rfl)
theorem dX12_looks_24 : decode cX12_looks 24 = .ok (.aload_n 0, 1) := bd42 (btAt dk06ref2_cX12_looks_0_a 17 rfl)
theorem dX12_looks_25 : decode cX12_looks 25 = .ok (.getfield 18, 3) := bd180 (a := 0) (b := 18) (btAt dk06ref2_cX12_looks_0_a 18 rfl)
theorem dX12_looks_28 : decode cX12_looks 28 = .ok (.iconst 3, 1) := bd6 (btAt dk06ref2_cX12_looks_0_a 19 rfl)
theorem dX12_looks_29 : decode cX12_looks 29 = .ok (.iload_n 3, 1) := bd29 (btAt dk06ref2_cX12_looks_0_a 20 rfl)
theorem dX12_looks_30 : decode cX12_looks 30 = .ok (.bipush 6, 2) := bd16 (a := 6) (btAt dk06ref2_cX12_looks_0_a 21 rfl)
theorem dX12_looks_32 : decode cX12_looks 32 = .ok (.irem, 1) := bd112 (btAt dk06ref2_cX12_looks_0_a 22 rfl)
theorem dX12_looks_33 : decode cX12_looks 33 = .ok (.iastore, 1) := bd79 (btAt dk06ref2_cX12_looks_0_a 23 rfl)
theorem dX12_looks_34 : decode cX12_looks 34 = .ok (.aload_n 0, 1) := bd42 (btAt dk06ref2_cX12_looks_0_a 24 rfl)
theorem dX12_looks_35 : decode cX12_looks 35 = .ok (.getfield 18, 3) := bd180 (a := 0) (b := 18) (btAt dk06ref2_cX12_looks_0_a 25 rfl)
theorem dX12_looks_38 : decode cX12_looks 38 = .ok (.iconst 4, 1) := bd7 (btAt dk06ref2_cX12_looks_0_a 26 rfl)
theorem dX12_looks_39 : decode cX12_looks 39 = .ok (.aload_n 0, 1) := bd42 (btAt dk06ref2_cX12_looks_0_a 27 rfl)
theorem dX12_looks_40 : decode cX12_looks 40 = .ok (.getfield 9, 3) := bd180 (a := 0) (b := 9) (btAt dk06ref2_cX12_looks_0_a 28 rfl)
theorem dX12_looks_43 : decode cX12_looks 43 = .ok (.bipush 6, 2) := bd16 (a := 6) (btAt dk06ref2_cX12_looks_0_a 29 rfl)
theorem dX12_looks_45 : decode cX12_looks 45 = .ok (.iaload, 1) := bd46 (btAt dk06ref2_cX12_looks_0_a 30 rfl)
theorem dX12_looks_46 : decode cX12_looks 46 = .ok (.iastore, 1) := bd79 (btAt dk06ref2_cX12_looks_0_a 31 rfl)
theorem dX12_looks_47 : decode cX12_looks 47 = .ok (.aload_n 0, 1) := bd42 (btAt dk06ref2_cX12_looks_0_a 32 rfl)
theorem dX12_looks_48 : decode cX12_looks 48 = .ok (.getfield 18, 3) := bd180 (a := 0) (b := 18) (btAt dk06ref2_cX12_looks_0_a 33 rfl)
theorem dX12_looks_51 : decode cX12_looks 51 = .ok (.iconst 5, 1) := bd8 (btAt dk06ref2_cX12_looks_0_a 34 rfl)
theorem dX12_looks_52 : decode cX12_looks 52 = .ok (.aload_n 0, 1) := bd42 (btAt dk06ref2_cX12_looks_0_a 35 rfl)
theorem dX12_looks_53 : decode cX12_looks 53 = .ok (.getfield 9, 3) := bd180 (a := 0) (b := 9) (btAt dk06ref2_cX12_looks_0_a 36 rfl)
theorem dX12_looks_56 : decode cX12_looks 56 = .ok (.bipush 7, 2) := bd16 (a := 7) (btAt dk06ref2_cX12_looks_0_a 37 rfl)
theorem dX12_looks_58 : decode cX12_looks 58 = .ok (.iaload, 1) := bd46 (btAt dk06ref2_cX12_looks_0_a 38 rfl)
theorem dX12_looks_59 : decode cX12_looks 59 = .ok (.iastore, 1) := bd79 (btAt dk06ref2_cX12_looks_0_a 39 rfl)
noncomputable def dk06ref2_cX12_looks_40 : List (Nat × List Nat) := [(60, [42]), (61, [3]), (62, [181, 0, 143]), (65, [42]), (66, [3]), (67, [181, 0, 146]), (70, [42]), (71, [180, 0, 9]), (74, [8]), (75, [46]), (76, [2]), (77, [160, 0, 7]), (80, [3]), (81, [167, 0, 18]), (84, [42]), (85, [180, 0, 9]), (88, [17, 0, 196]), (91, [42]), (92, [180, 0, 9]), (95, [8]), (99, [54, 4]), (101, [17, 0, 201]), (104, [17, 0, 140]), (107, [42]), (108, [180, 0, 9]), (111, [8]), (112, [46]), (113, [104]), (114, [96]), (115, [54, 5]), (117, [3]), (118, [54, 6]), (120, [21, 5]), (122, [54, 7]), (124, [21, 7]), (126, [21, 5]), (128, [21, 4]), (130, [96]), (131, [162, 1, 73]), (460, [177])]
set_option maxRecDepth 100000 in
theorem dk06ref2_cX12_looks_40_a : btA cX12_looks dk06ref2_cX12_looks_40 = true := by decide +kernel
theorem dX12_looks_60 : decode cX12_looks 60 = .ok (.aload_n 0, 1) := bd42 (btAt dk06ref2_cX12_looks_40_a 0 rfl)
theorem dX12_looks_61 : decode cX12_looks 61 = .ok (.iconst 0, 1) := bd3 (btAt dk06ref2_cX12_looks_40_a 1 rfl)
theorem dX12_looks_62 : decode cX12_looks 62 = .ok (.putfield 143, 3) := bd181 (a := 0) (b := 143) (btAt dk06ref2_cX12_looks_40_a 2 rfl)
theorem dX12_looks_65 : decode cX12_looks 65 = .ok (.aload_n 0, 1) := bd42 (btAt dk06ref2_cX12_looks_40_a 3 rfl)
theorem dX12_looks_66 : decode cX12_looks 66 = .ok (.iconst 0, 1) := bd3 (btAt dk06ref2_cX12_looks_40_a 4 rfl)
theorem dX12_looks_67 : decode cX12_looks 67 = .ok (.putfield 146, 3) := bd181 (a := 0) (b := 146) (btAt dk06ref2_cX12_looks_40_a 5 rfl)
theorem dX12_looks_70 : decode cX12_looks 70 = .ok (.aload_n 0, 1) := bd42 (btAt dk06ref2_cX12_looks_40_a 6 rfl)
theorem dX12_looks_71 : decode cX12_looks 71 = .ok (.getfield 9, 3) := bd180 (a := 0) (b := 9) (btAt dk06ref2_cX12_looks_40_a 7 rfl)
theorem dX12_looks_74 : decode cX12_looks 74 = .ok (.iconst 5, 1) := bd8 (btAt dk06ref2_cX12_looks_40_a 8 rfl)
theorem dX12_looks_75 : decode cX12_looks 75 = .ok (.iaload, 1) := bd46 (btAt dk06ref2_cX12_looks_40_a 9 rfl)
theorem dX12_looks_76 : decode cX12_looks 76 = .ok (.iconst (-1), 1) := bd2 (btAt dk06ref2_cX12_looks_40_a 10 rfl)
theorem dX12_looks_77 : decode cX12_looks 77 = .ok (.if_icmp .ne 7, 3) := bd160 (a := 0) (b := 7) (btAt dk06ref2_cX12_looks_40_a 11 rfl)
theorem dX12_looks_80 : decode cX12_looks 80 = .ok (.iconst 0, 1) := bd3 (btAt dk06ref2_cX12_looks_40_a 12 rfl)
theorem dX12_looks_81 : decode cX12_looks 81 = .ok (.goto 18, 3) := bd167 (a := 0) (b := 18) (btAt dk06ref2_cX12_looks_40_a 13 rfl)
theorem dX12_looks_84 : decode cX12_looks 84 = .ok (.aload_n 0, 1) := bd42 (btAt dk06ref2_cX12_looks_40_a 14 rfl)
theorem dX12_looks_85 : decode cX12_looks 85 = .ok (.getfield 9, 3) := bd180 (a := 0) (b := 9) (btAt dk06ref2_cX12_looks_40_a 15 rfl)
theorem dX12_looks_88 : decode cX12_looks 88 = .ok (.sipush 196, 3) := bd17 (a := 0) (b := 196) (btAt dk06ref2_cX12_looks_40_a 16 rfl)
theorem dX12_looks_91 : decode cX12_looks 91 = .ok (.aload_n 0, 1) := bd42 (btAt dk06ref2_cX12_looks_40_a 17 rfl)
theorem dX12_looks_92 : decode cX12_looks 92 = .ok (.getfield 9, 3) := bd180 (a := 0) (b := 9) (btAt dk06ref2_cX12_looks_40_a 18 rfl)
theorem dX12_looks_95 : decode cX12_looks 95 = .ok (.iconst 5, 1) := bd8 (btAt dk06ref2_cX12_looks_40_a 19 rfl)
theorem dX12_looks_99 : decode cX12_looks 99 = .ok (.istore 4, 2) := bd54 (a := 4) (btAt dk06ref2_cX12_looks_40_a 20 rfl)
theorem dX12_looks_101 : decode cX12_looks 101 = .ok (.sipush 201, 3) := bd17 (a := 0) (b := 201) (btAt dk06ref2_cX12_looks_40_a 21 rfl)
theorem dX12_looks_104 : decode cX12_looks 104 = .ok (.sipush 140, 3) := bd17 (a := 0) (b := 140) (btAt dk06ref2_cX12_looks_40_a 22 rfl)
theorem dX12_looks_107 : decode cX12_looks 107 = .ok (.aload_n 0, 1) := bd42 (btAt dk06ref2_cX12_looks_40_a 23 rfl)
theorem dX12_looks_108 : decode cX12_looks 108 = .ok (.getfield 9, 3) := bd180 (a := 0) (b := 9) (btAt dk06ref2_cX12_looks_40_a 24 rfl)
theorem dX12_looks_111 : decode cX12_looks 111 = .ok (.iconst 5, 1) := bd8 (btAt dk06ref2_cX12_looks_40_a 25 rfl)
theorem dX12_looks_112 : decode cX12_looks 112 = .ok (.iaload, 1) := bd46 (btAt dk06ref2_cX12_looks_40_a 26 rfl)
theorem dX12_looks_113 : decode cX12_looks 113 = .ok (.imul, 1) := bd104 (btAt dk06ref2_cX12_looks_40_a 27 rfl)
theorem dX12_looks_114 : decode cX12_looks 114 = .ok (.iadd, 1) := bd96 (btAt dk06ref2_cX12_looks_40_a 28 rfl)
theorem dX12_looks_115 : decode cX12_looks 115 = .ok (.istore 5, 2) := bd54 (a := 5) (btAt dk06ref2_cX12_looks_40_a 29 rfl)
theorem dX12_looks_117 : decode cX12_looks 117 = .ok (.iconst 0, 1) := bd3 (btAt dk06ref2_cX12_looks_40_a 30 rfl)
theorem dX12_looks_118 : decode cX12_looks 118 = .ok (.istore 6, 2) := bd54 (a := 6) (btAt dk06ref2_cX12_looks_40_a 31 rfl)
theorem dX12_looks_120 : decode cX12_looks 120 = .ok (.iload 5, 2) := bd21 (a := 5) (btAt dk06ref2_cX12_looks_40_a 32 rfl)
theorem dX12_looks_122 : decode cX12_looks 122 = .ok (.istore 7, 2) := bd54 (a := 7) (btAt dk06ref2_cX12_looks_40_a 33 rfl)
theorem dX12_looks_124 : decode cX12_looks 124 = .ok (.iload 7, 2) := bd21 (a := 7) (btAt dk06ref2_cX12_looks_40_a 34 rfl)
theorem dX12_looks_126 : decode cX12_looks 126 = .ok (.iload 5, 2) := bd21 (a := 5) (btAt dk06ref2_cX12_looks_40_a 35 rfl)
theorem dX12_looks_128 : decode cX12_looks 128 = .ok (.iload 4, 2) := bd21 (a := 4) (btAt dk06ref2_cX12_looks_40_a 36 rfl)
theorem dX12_looks_130 : decode cX12_looks 130 = .ok (.iadd, 1) := bd96 (btAt dk06ref2_cX12_looks_40_a 37 rfl)
theorem dX12_looks_131 : decode cX12_looks 131 = .ok (.if_icmp .ge 329, 3) := bd162 (a := 1) (b := 73) (btAt dk06ref2_cX12_looks_40_a 38 rfl)
theorem dX12_looks_460 : decode cX12_looks 460 = .ok (.return_, 1) := bd177 (btAt dk06ref2_cX12_looks_40_a 39 rfl)
noncomputable def dk06ref2_cX12_looks_80 : List (Nat × List Nat) := [(96, [46]), (97, [96]), (98, [46]), (134, [42]), (135, [180, 0, 9]), (138, [21, 7]), (140, [46]), (141, [54, 8]), (143, [21, 8]), (145, [155, 0, 97]), (148, [42]), (149, [180, 0, 18]), (152, [21, 8]), (154, [16, 8]), (156, [112]), (157, [46]), (158, [54, 9]), (160, [21, 8]), (162, [16, 8]), (164, [108]), (165, [7]), (166, [112]), (167, [54, 10]), (169, [21, 8]), (171, [16, 32]), (173, [108]), (174, [54, 11]), (176, [42]), (177, [180, 0, 21]), (180, [21, 6]), (182, [21, 10]), (184, [154, 0, 18]), (202, [21, 10]), (204, [4]), (205, [160, 0, 18]), (235, [84]), (236, [132, 6, 1]), (239, [167, 0, 215]), (454, [132, 7, 1]), (457, [167, 254, 179])]
set_option maxRecDepth 100000 in
theorem dk06ref2_cX12_looks_80_a : btA cX12_looks dk06ref2_cX12_looks_80 = true := by decide +kernel
theorem dX12_looks_96 : decode cX12_looks 96 = .ok (.iaload, 1) := bd46 (btAt dk06ref2_cX12_looks_80_a 0 rfl)
theorem dX12_looks_97 : decode cX12_looks 97 = .ok (.iadd, 1) := bd96 (btAt dk06ref2_cX12_looks_80_a 1 rfl)
theorem dX12_looks_98 : decode cX12_looks 98 = .ok (.iaload, 1) := bd46 (btAt dk06ref2_cX12_looks_80_a 2 rfl)
theorem dX12_looks_134 : decode cX12_looks 134 = .ok (.aload_n 0, 1) := bd42 (btAt dk06ref2_cX12_looks_80_a 3 rfl)
theorem dX12_looks_135 : decode cX12_looks 135 = .ok (.getfield 9, 3) := bd180 (a := 0) (b := 9) (btAt dk06ref2_cX12_looks_80_a 4 rfl)
theorem dX12_looks_138 : decode cX12_looks 138 = .ok (.iload 7, 2) := bd21 (a := 7) (btAt dk06ref2_cX12_looks_80_a 5 rfl)
theorem dX12_looks_140 : decode cX12_looks 140 = .ok (.iaload, 1) := bd46 (btAt dk06ref2_cX12_looks_80_a 6 rfl)
theorem dX12_looks_141 : decode cX12_looks 141 = .ok (.istore 8, 2) := bd54 (a := 8) (btAt dk06ref2_cX12_looks_80_a 7 rfl)
theorem dX12_looks_143 : decode cX12_looks 143 = .ok (.iload 8, 2) := bd21 (a := 8) (btAt dk06ref2_cX12_looks_80_a 8 rfl)
theorem dX12_looks_145 : decode cX12_looks 145 = .ok (.ifCond .lt 97, 3) := bd155 (a := 0) (b := 97) (btAt dk06ref2_cX12_looks_80_a 9 rfl)
theorem dX12_looks_148 : decode cX12_looks 148 = .ok (.aload_n 0, 1) := bd42 (btAt dk06ref2_cX12_looks_80_a 10 rfl)
theorem dX12_looks_149 : decode cX12_looks 149 = .ok (.getfield 18, 3) := bd180 (a := 0) (b := 18) (btAt dk06ref2_cX12_looks_80_a 11 rfl)
theorem dX12_looks_152 : decode cX12_looks 152 = .ok (.iload 8, 2) := bd21 (a := 8) (btAt dk06ref2_cX12_looks_80_a 12 rfl)
theorem dX12_looks_154 : decode cX12_looks 154 = .ok (.bipush 8, 2) := bd16 (a := 8) (btAt dk06ref2_cX12_looks_80_a 13 rfl)
theorem dX12_looks_156 : decode cX12_looks 156 = .ok (.irem, 1) := bd112 (btAt dk06ref2_cX12_looks_80_a 14 rfl)
theorem dX12_looks_157 : decode cX12_looks 157 = .ok (.iaload, 1) := bd46 (btAt dk06ref2_cX12_looks_80_a 15 rfl)
theorem dX12_looks_158 : decode cX12_looks 158 = .ok (.istore 9, 2) := bd54 (a := 9) (btAt dk06ref2_cX12_looks_80_a 16 rfl)
theorem dX12_looks_160 : decode cX12_looks 160 = .ok (.iload 8, 2) := bd21 (a := 8) (btAt dk06ref2_cX12_looks_80_a 17 rfl)
theorem dX12_looks_162 : decode cX12_looks 162 = .ok (.bipush 8, 2) := bd16 (a := 8) (btAt dk06ref2_cX12_looks_80_a 18 rfl)
theorem dX12_looks_164 : decode cX12_looks 164 = .ok (.idiv, 1) := bd108 (btAt dk06ref2_cX12_looks_80_a 19 rfl)
theorem dX12_looks_165 : decode cX12_looks 165 = .ok (.iconst 4, 1) := bd7 (btAt dk06ref2_cX12_looks_80_a 20 rfl)
theorem dX12_looks_166 : decode cX12_looks 166 = .ok (.irem, 1) := bd112 (btAt dk06ref2_cX12_looks_80_a 21 rfl)
theorem dX12_looks_167 : decode cX12_looks 167 = .ok (.istore 10, 2) := bd54 (a := 10) (btAt dk06ref2_cX12_looks_80_a 22 rfl)
theorem dX12_looks_169 : decode cX12_looks 169 = .ok (.iload 8, 2) := bd21 (a := 8) (btAt dk06ref2_cX12_looks_80_a 23 rfl)
theorem dX12_looks_171 : decode cX12_looks 171 = .ok (.bipush 32, 2) := bd16 (a := 32) (btAt dk06ref2_cX12_looks_80_a 24 rfl)
theorem dX12_looks_173 : decode cX12_looks 173 = .ok (.idiv, 1) := bd108 (btAt dk06ref2_cX12_looks_80_a 25 rfl)
theorem dX12_looks_174 : decode cX12_looks 174 = .ok (.istore 11, 2) := bd54 (a := 11) (btAt dk06ref2_cX12_looks_80_a 26 rfl)
theorem dX12_looks_176 : decode cX12_looks 176 = .ok (.aload_n 0, 1) := bd42 (btAt dk06ref2_cX12_looks_80_a 27 rfl)
theorem dX12_looks_177 : decode cX12_looks 177 = .ok (.getfield 21, 3) := bd180 (a := 0) (b := 21) (btAt dk06ref2_cX12_looks_80_a 28 rfl)
theorem dX12_looks_180 : decode cX12_looks 180 = .ok (.iload 6, 2) := bd21 (a := 6) (btAt dk06ref2_cX12_looks_80_a 29 rfl)
theorem dX12_looks_182 : decode cX12_looks 182 = .ok (.iload 10, 2) := bd21 (a := 10) (btAt dk06ref2_cX12_looks_80_a 30 rfl)
theorem dX12_looks_184 : decode cX12_looks 184 = .ok (.ifCond .ne 18, 3) := bd154 (a := 0) (b := 18) (btAt dk06ref2_cX12_looks_80_a 31 rfl)
theorem dX12_looks_202 : decode cX12_looks 202 = .ok (.iload 10, 2) := bd21 (a := 10) (btAt dk06ref2_cX12_looks_80_a 32 rfl)
theorem dX12_looks_204 : decode cX12_looks 204 = .ok (.iconst 1, 1) := bd4 (btAt dk06ref2_cX12_looks_80_a 33 rfl)
theorem dX12_looks_205 : decode cX12_looks 205 = .ok (.if_icmp .ne 18, 3) := bd160 (a := 0) (b := 18) (btAt dk06ref2_cX12_looks_80_a 34 rfl)
theorem dX12_looks_235 : decode cX12_looks 235 = .ok (.bastore, 1) := bd84 (btAt dk06ref2_cX12_looks_80_a 35 rfl)
theorem dX12_looks_236 : decode cX12_looks 236 = .ok (.iinc 6 1, 3) := bd132 (a := 6) (b := 1) (btAt dk06ref2_cX12_looks_80_a 36 rfl)
theorem dX12_looks_239 : decode cX12_looks 239 = .ok (.goto 215, 3) := bd167 (a := 0) (b := 215) (btAt dk06ref2_cX12_looks_80_a 37 rfl)
theorem dX12_looks_454 : decode cX12_looks 454 = .ok (.iinc 7 1, 3) := bd132 (a := 7) (b := 1) (btAt dk06ref2_cX12_looks_80_a 38 rfl)
theorem dX12_looks_457 : decode cX12_looks 457 = .ok (.goto (-333), 3) := bd167 (a := 254) (b := 179) (btAt dk06ref2_cX12_looks_80_a 39 rfl)
noncomputable def dk06ref2_cX12_looks_120 : List (Nat × List Nat) := [(187, [21, 9]), (189, [21, 11]), (191, [162, 0, 7]), (194, [4]), (195, [167, 0, 40]), (198, [3]), (199, [167, 0, 36]), (208, [21, 9]), (210, [21, 11]), (212, [160, 0, 7]), (215, [4]), (216, [167, 0, 19]), (219, [3]), (220, [167, 0, 15]), (223, [21, 9]), (225, [21, 11]), (227, [164, 0, 7]), (230, [4]), (231, [167, 0, 4]), (234, [3]), (242, [21, 8]), (244, [2]), (245, [160, 0, 32]), (248, [42]), (249, [180, 0, 21]), (252, [21, 6]), (254, [4]), (255, [100]), (256, [42]), (257, [180, 0, 21]), (260, [21, 6]), (262, [4]), (263, [100]), (264, [51]), (265, [154, 0, 7]), (268, [4]), (269, [167, 0, 4]), (272, [3]), (273, [84]), (274, [167, 0, 180])]
set_option maxRecDepth 100000 in
theorem dk06ref2_cX12_looks_120_a : btA cX12_looks dk06ref2_cX12_looks_120 = true := by decide +kernel
theorem dX12_looks_187 : decode cX12_looks 187 = .ok (.iload 9, 2) := bd21 (a := 9) (btAt dk06ref2_cX12_looks_120_a 0 rfl)
theorem dX12_looks_189 : decode cX12_looks 189 = .ok (.iload 11, 2) := bd21 (a := 11) (btAt dk06ref2_cX12_looks_120_a 1 rfl)
theorem dX12_looks_191 : decode cX12_looks 191 = .ok (.if_icmp .ge 7, 3) := bd162 (a := 0) (b := 7) (btAt dk06ref2_cX12_looks_120_a 2 rfl)
theorem dX12_looks_194 : decode cX12_looks 194 = .ok (.iconst 1, 1) := bd4 (btAt dk06ref2_cX12_looks_120_a 3 rfl)
theorem dX12_looks_195 : decode cX12_looks 195 = .ok (.goto 40, 3) := bd167 (a := 0) (b := 40) (btAt dk06ref2_cX12_looks_120_a 4 rfl)
theorem dX12_looks_198 : decode cX12_looks 198 = .ok (.iconst 0, 1) := bd3 (btAt dk06ref2_cX12_looks_120_a 5 rfl)
theorem dX12_looks_199 : decode cX12_looks 199 = .ok (.goto 36, 3) := bd167 (a := 0) (b := 36) (btAt dk06ref2_cX12_looks_120_a 6 rfl)
theorem dX12_looks_208 : decode cX12_looks 208 = .ok (.iload 9, 2) := bd21 (a := 9) (btAt dk06ref2_cX12_looks_120_a 7 rfl)
theorem dX12_looks_210 : decode cX12_looks 210 = .ok (.iload 11, 2) := bd21 (a := 11) (btAt dk06ref2_cX12_looks_120_a 8 rfl)
theorem dX12_looks_212 : decode cX12_looks 212 = .ok (.if_icmp .ne 7, 3) := bd160 (a := 0) (b := 7) (btAt dk06ref2_cX12_looks_120_a 9 rfl)
theorem dX12_looks_215 : decode cX12_looks 215 = .ok (.iconst 1, 1) := bd4 (btAt dk06ref2_cX12_looks_120_a 10 rfl)
theorem dX12_looks_216 : decode cX12_looks 216 = .ok (.goto 19, 3) := bd167 (a := 0) (b := 19) (btAt dk06ref2_cX12_looks_120_a 11 rfl)
theorem dX12_looks_219 : decode cX12_looks 219 = .ok (.iconst 0, 1) := bd3 (btAt dk06ref2_cX12_looks_120_a 12 rfl)
theorem dX12_looks_220 : decode cX12_looks 220 = .ok (.goto 15, 3) := bd167 (a := 0) (b := 15) (btAt dk06ref2_cX12_looks_120_a 13 rfl)
theorem dX12_looks_223 : decode cX12_looks 223 = .ok (.iload 9, 2) := bd21 (a := 9) (btAt dk06ref2_cX12_looks_120_a 14 rfl)
theorem dX12_looks_225 : decode cX12_looks 225 = .ok (.iload 11, 2) := bd21 (a := 11) (btAt dk06ref2_cX12_looks_120_a 15 rfl)
theorem dX12_looks_227 : decode cX12_looks 227 = .ok (.if_icmp .le 7, 3) := bd164 (a := 0) (b := 7) (btAt dk06ref2_cX12_looks_120_a 16 rfl)
theorem dX12_looks_230 : decode cX12_looks 230 = .ok (.iconst 1, 1) := bd4 (btAt dk06ref2_cX12_looks_120_a 17 rfl)
theorem dX12_looks_231 : decode cX12_looks 231 = .ok (.goto 4, 3) := bd167 (a := 0) (b := 4) (btAt dk06ref2_cX12_looks_120_a 18 rfl)
theorem dX12_looks_234 : decode cX12_looks 234 = .ok (.iconst 0, 1) := bd3 (btAt dk06ref2_cX12_looks_120_a 19 rfl)
theorem dX12_looks_242 : decode cX12_looks 242 = .ok (.iload 8, 2) := bd21 (a := 8) (btAt dk06ref2_cX12_looks_120_a 20 rfl)
theorem dX12_looks_244 : decode cX12_looks 244 = .ok (.iconst (-1), 1) := bd2 (btAt dk06ref2_cX12_looks_120_a 21 rfl)
theorem dX12_looks_245 : decode cX12_looks 245 = .ok (.if_icmp .ne 32, 3) := bd160 (a := 0) (b := 32) (btAt dk06ref2_cX12_looks_120_a 22 rfl)
theorem dX12_looks_248 : decode cX12_looks 248 = .ok (.aload_n 0, 1) := bd42 (btAt dk06ref2_cX12_looks_120_a 23 rfl)
theorem dX12_looks_249 : decode cX12_looks 249 = .ok (.getfield 21, 3) := bd180 (a := 0) (b := 21) (btAt dk06ref2_cX12_looks_120_a 24 rfl)
theorem dX12_looks_252 : decode cX12_looks 252 = .ok (.iload 6, 2) := bd21 (a := 6) (btAt dk06ref2_cX12_looks_120_a 25 rfl)
theorem dX12_looks_254 : decode cX12_looks 254 = .ok (.iconst 1, 1) := bd4 (btAt dk06ref2_cX12_looks_120_a 26 rfl)
theorem dX12_looks_255 : decode cX12_looks 255 = .ok (.isub, 1) := bd100 (btAt dk06ref2_cX12_looks_120_a 27 rfl)
theorem dX12_looks_256 : decode cX12_looks 256 = .ok (.aload_n 0, 1) := bd42 (btAt dk06ref2_cX12_looks_120_a 28 rfl)
theorem dX12_looks_257 : decode cX12_looks 257 = .ok (.getfield 21, 3) := bd180 (a := 0) (b := 21) (btAt dk06ref2_cX12_looks_120_a 29 rfl)
theorem dX12_looks_260 : decode cX12_looks 260 = .ok (.iload 6, 2) := bd21 (a := 6) (btAt dk06ref2_cX12_looks_120_a 30 rfl)
theorem dX12_looks_262 : decode cX12_looks 262 = .ok (.iconst 1, 1) := bd4 (btAt dk06ref2_cX12_looks_120_a 31 rfl)
theorem dX12_looks_263 : decode cX12_looks 263 = .ok (.isub, 1) := bd100 (btAt dk06ref2_cX12_looks_120_a 32 rfl)
theorem dX12_looks_264 : decode cX12_looks 264 = .ok (.baload, 1) := bd51 (btAt dk06ref2_cX12_looks_120_a 33 rfl)
theorem dX12_looks_265 : decode cX12_looks 265 = .ok (.ifCond .ne 7, 3) := bd154 (a := 0) (b := 7) (btAt dk06ref2_cX12_looks_120_a 34 rfl)
theorem dX12_looks_268 : decode cX12_looks 268 = .ok (.iconst 1, 1) := bd4 (btAt dk06ref2_cX12_looks_120_a 35 rfl)
theorem dX12_looks_269 : decode cX12_looks 269 = .ok (.goto 4, 3) := bd167 (a := 0) (b := 4) (btAt dk06ref2_cX12_looks_120_a 36 rfl)
theorem dX12_looks_272 : decode cX12_looks 272 = .ok (.iconst 0, 1) := bd3 (btAt dk06ref2_cX12_looks_120_a 37 rfl)
theorem dX12_looks_273 : decode cX12_looks 273 = .ok (.bastore, 1) := bd84 (btAt dk06ref2_cX12_looks_120_a 38 rfl)
theorem dX12_looks_274 : decode cX12_looks 274 = .ok (.goto 180, 3) := bd167 (a := 0) (b := 180) (btAt dk06ref2_cX12_looks_120_a 39 rfl)
noncomputable def dk06ref2_cX12_looks_160 : List (Nat × List Nat) := [(277, [21, 8]), (279, [16, 246]), (281, [164, 0, 82]), (284, [132, 6, 255]), (287, [42]), (288, [180, 0, 21]), (291, [21, 6]), (293, [4]), (294, [100]), (295, [21, 8]), (297, [16, 254]), (299, [160, 0, 33]), (302, [42]), (303, [180, 0, 21]), (306, [21, 6]), (308, [4]), (309, [100]), (310, [51]), (311, [153, 0, 17]), (314, [42]), (315, [180, 0, 21]), (318, [21, 6]), (320, [51]), (321, [153, 0, 7]), (324, [4]), (325, [167, 0, 34]), (328, [3]), (329, [167, 0, 30]), (332, [42]), (333, [180, 0, 21]), (336, [21, 6]), (338, [4]), (339, [100]), (340, [51]), (341, [154, 0, 13]), (344, [42]), (354, [4]), (355, [167, 0, 4]), (359, [84]), (360, [167, 0, 94])]
set_option maxRecDepth 100000 in
theorem dk06ref2_cX12_looks_160_a : btA cX12_looks dk06ref2_cX12_looks_160 = true := by decide +kernel
theorem dX12_looks_277 : decode cX12_looks 277 = .ok (.iload 8, 2) := bd21 (a := 8) (btAt dk06ref2_cX12_looks_160_a 0 rfl)
theorem dX12_looks_279 : decode cX12_looks 279 = .ok (.bipush (-10), 2) := bd16 (a := 246) (btAt dk06ref2_cX12_looks_160_a 1 rfl)
theorem dX12_looks_281 : decode cX12_looks 281 = .ok (.if_icmp .le 82, 3) := bd164 (a := 0) (b := 82) (btAt dk06ref2_cX12_looks_160_a 2 rfl)
theorem dX12_looks_284 : decode cX12_looks 284 = .ok (.iinc 6 (-1), 3) := bd132 (a := 6) (b := 255) (btAt dk06ref2_cX12_looks_160_a 3 rfl)
theorem dX12_looks_287 : decode cX12_looks 287 = .ok (.aload_n 0, 1) := bd42 (btAt dk06ref2_cX12_looks_160_a 4 rfl)
theorem dX12_looks_288 : decode cX12_looks 288 = .ok (.getfield 21, 3) := bd180 (a := 0) (b := 21) (btAt dk06ref2_cX12_looks_160_a 5 rfl)
theorem dX12_looks_291 : decode cX12_looks 291 = .ok (.iload 6, 2) := bd21 (a := 6) (btAt dk06ref2_cX12_looks_160_a 6 rfl)
theorem dX12_looks_293 : decode cX12_looks 293 = .ok (.iconst 1, 1) := bd4 (btAt dk06ref2_cX12_looks_160_a 7 rfl)
theorem dX12_looks_294 : decode cX12_looks 294 = .ok (.isub, 1) := bd100 (btAt dk06ref2_cX12_looks_160_a 8 rfl)
theorem dX12_looks_295 : decode cX12_looks 295 = .ok (.iload 8, 2) := bd21 (a := 8) (btAt dk06ref2_cX12_looks_160_a 9 rfl)
theorem dX12_looks_297 : decode cX12_looks 297 = .ok (.bipush (-2), 2) := bd16 (a := 254) (btAt dk06ref2_cX12_looks_160_a 10 rfl)
theorem dX12_looks_299 : decode cX12_looks 299 = .ok (.if_icmp .ne 33, 3) := bd160 (a := 0) (b := 33) (btAt dk06ref2_cX12_looks_160_a 11 rfl)
theorem dX12_looks_302 : decode cX12_looks 302 = .ok (.aload_n 0, 1) := bd42 (btAt dk06ref2_cX12_looks_160_a 12 rfl)
theorem dX12_looks_303 : decode cX12_looks 303 = .ok (.getfield 21, 3) := bd180 (a := 0) (b := 21) (btAt dk06ref2_cX12_looks_160_a 13 rfl)
theorem dX12_looks_306 : decode cX12_looks 306 = .ok (.iload 6, 2) := bd21 (a := 6) (btAt dk06ref2_cX12_looks_160_a 14 rfl)
theorem dX12_looks_308 : decode cX12_looks 308 = .ok (.iconst 1, 1) := bd4 (btAt dk06ref2_cX12_looks_160_a 15 rfl)
theorem dX12_looks_309 : decode cX12_looks 309 = .ok (.isub, 1) := bd100 (btAt dk06ref2_cX12_looks_160_a 16 rfl)
theorem dX12_looks_310 : decode cX12_looks 310 = .ok (.baload, 1) := bd51 (btAt dk06ref2_cX12_looks_160_a 17 rfl)
theorem dX12_looks_311 : decode cX12_looks 311 = .ok (.ifCond .eq 17, 3) := bd153 (a := 0) (b := 17) (btAt dk06ref2_cX12_looks_160_a 18 rfl)
theorem dX12_looks_314 : decode cX12_looks 314 = .ok (.aload_n 0, 1) := bd42 (btAt dk06ref2_cX12_looks_160_a 19 rfl)
theorem dX12_looks_315 : decode cX12_looks 315 = .ok (.getfield 21, 3) := bd180 (a := 0) (b := 21) (btAt dk06ref2_cX12_looks_160_a 20 rfl)
theorem dX12_looks_318 : decode cX12_looks 318 = .ok (.iload 6, 2) := bd21 (a := 6) (btAt dk06ref2_cX12_looks_160_a 21 rfl)
theorem dX12_looks_320 : decode cX12_looks 320 = .ok (.baload, 1) := bd51 (btAt dk06ref2_cX12_looks_160_a 22 rfl)
theorem dX12_looks_321 : decode cX12_looks 321 = .ok (.ifCond .eq 7, 3) := bd153 (a := 0) (b := 7) (btAt dk06ref2_cX12_looks_160_a 23 rfl)
theorem dX12_looks_324 : decode cX12_looks 324 = .ok (.iconst 1, 1) := bd4 (btAt dk06ref2_cX12_looks_160_a 24 rfl)
theorem dX12_looks_325 : decode cX12_looks 325 = .ok (.goto 34, 3) := bd167 (a := 0) (b := 34) (btAt dk06ref2_cX12_looks_160_a 25 rfl)
theorem dX12_looks_328 : decode cX12_looks 328 = .ok (.iconst 0, 1) := bd3 (btAt dk06ref2_cX12_looks_160_a 26 rfl)
theorem dX12_looks_329 : decode cX12_looks 329 = .ok (.goto 30, 3) := bd167 (a := 0) (b := 30) (btAt dk06ref2_cX12_looks_160_a 27 rfl)
theorem dX12_looks_332 : decode cX12_looks 332 = .ok (.aload_n 0, 1) := bd42 (btAt dk06ref2_cX12_looks_160_a 28 rfl)
theorem dX12_looks_333 : decode cX12_looks 333 = .ok (.getfield 21, 3) := bd180 (a := 0) (b := 21) (btAt dk06ref2_cX12_looks_160_a 29 rfl)
theorem dX12_looks_336 : decode cX12_looks 336 = .ok (.iload 6, 2) := bd21 (a := 6) (btAt dk06ref2_cX12_looks_160_a 30 rfl)
theorem dX12_looks_338 : decode cX12_looks 338 = .ok (.iconst 1, 1) := bd4 (btAt dk06ref2_cX12_looks_160_a 31 rfl)
theorem dX12_looks_339 : decode cX12_looks 339 = .ok (.isub, 1) := bd100 (btAt dk06ref2_cX12_looks_160_a 32 rfl)
theorem dX12_looks_340 : decode cX12_looks 340 = .ok (.baload, 1) := bd51 (btAt dk06ref2_cX12_looks_160_a 33 rfl)
theorem dX12_looks_341 : decode cX12_looks 341 = .ok (.ifCond .ne 13, 3) := bd154 (a := 0) (b := 13) (btAt dk06ref2_cX12_looks_160_a 34 rfl)
theorem dX12_looks_344 : decode cX12_looks 344 = .ok (.aload_n 0, 1) := bd42 (btAt dk06ref2_cX12_looks_160_a 35 rfl)
theorem dX12_looks_354 : decode cX12_looks 354 = .ok (.iconst 1, 1) := bd4 (btAt dk06ref2_cX12_looks_160_a 36 rfl)
theorem dX12_looks_355 : decode cX12_looks 355 = .ok (.goto 4, 3) := bd167 (a := 0) (b := 4) (btAt dk06ref2_cX12_looks_160_a 37 rfl)
theorem dX12_looks_359 : decode cX12_looks 359 = .ok (.bastore, 1) := bd84 (btAt dk06ref2_cX12_looks_160_a 38 rfl)
theorem dX12_looks_360 : decode cX12_looks 360 = .ok (.goto 94, 3) := bd167 (a := 0) (b := 94) (btAt dk06ref2_cX12_looks_160_a 39 rfl)
noncomputable def dk06ref2_cX12_looks_200 : List (Nat × List Nat) := [(345, [180, 0, 21]), (348, [21, 6]), (350, [51]), (351, [153, 0, 7]), (358, [3]), (363, [3]), (364, [54, 6]), (366, [42]), (367, [180, 0, 21]), (370, [3]), (371, [51]), (372, [54, 9]), (374, [42]), (375, [89]), (376, [180, 0, 143]), (379, [21, 9]), (381, [153, 0, 11]), (384, [21, 8]), (386, [17, 254, 112]), (389, [163, 0, 7]), (392, [3]), (393, [167, 0, 25]), (396, [21, 8]), (398, [17, 255, 56]), (401, [164, 0, 11]), (404, [16, 246]), (406, [21, 8]), (418, [96]), (419, [181, 0, 143]), (422, [42]), (423, [89]), (424, [180, 0, 146]), (427, [21, 9]), (429, [153, 0, 20]), (432, [21, 8]), (434, [17, 254, 112]), (437, [163, 0, 12]), (449, [3]), (450, [96]), (451, [181, 0, 146])]
set_option maxRecDepth 100000 in
theorem dk06ref2_cX12_looks_200_a : btA cX12_looks dk06ref2_cX12_looks_200 = true := by decide +kernel
theorem dX12_looks_345 : decode cX12_looks 345 = .ok (.getfield 21, 3) := bd180 (a := 0) (b := 21) (btAt dk06ref2_cX12_looks_200_a 0 rfl)
theorem dX12_looks_348 : decode cX12_looks 348 = .ok (.iload 6, 2) := bd21 (a := 6) (btAt dk06ref2_cX12_looks_200_a 1 rfl)
theorem dX12_looks_350 : decode cX12_looks 350 = .ok (.baload, 1) := bd51 (btAt dk06ref2_cX12_looks_200_a 2 rfl)
theorem dX12_looks_351 : decode cX12_looks 351 = .ok (.ifCond .eq 7, 3) := bd153 (a := 0) (b := 7) (btAt dk06ref2_cX12_looks_200_a 3 rfl)
theorem dX12_looks_358 : decode cX12_looks 358 = .ok (.iconst 0, 1) := bd3 (btAt dk06ref2_cX12_looks_200_a 4 rfl)
theorem dX12_looks_363 : decode cX12_looks 363 = .ok (.iconst 0, 1) := bd3 (btAt dk06ref2_cX12_looks_200_a 5 rfl)
theorem dX12_looks_364 : decode cX12_looks 364 = .ok (.istore 6, 2) := bd54 (a := 6) (btAt dk06ref2_cX12_looks_200_a 6 rfl)
theorem dX12_looks_366 : decode cX12_looks 366 = .ok (.aload_n 0, 1) := bd42 (btAt dk06ref2_cX12_looks_200_a 7 rfl)
theorem dX12_looks_367 : decode cX12_looks 367 = .ok (.getfield 21, 3) := bd180 (a := 0) (b := 21) (btAt dk06ref2_cX12_looks_200_a 8 rfl)
theorem dX12_looks_370 : decode cX12_looks 370 = .ok (.iconst 0, 1) := bd3 (btAt dk06ref2_cX12_looks_200_a 9 rfl)
theorem dX12_looks_371 : decode cX12_looks 371 = .ok (.baload, 1) := bd51 (btAt dk06ref2_cX12_looks_200_a 10 rfl)
theorem dX12_looks_372 : decode cX12_looks 372 = .ok (.istore 9, 2) := bd54 (a := 9) (btAt dk06ref2_cX12_looks_200_a 11 rfl)
theorem dX12_looks_374 : decode cX12_looks 374 = .ok (.aload_n 0, 1) := bd42 (btAt dk06ref2_cX12_looks_200_a 12 rfl)
theorem dX12_looks_375 : decode cX12_looks 375 = .ok (.dup, 1) := bd89 (btAt dk06ref2_cX12_looks_200_a 13 rfl)
theorem dX12_looks_376 : decode cX12_looks 376 = .ok (.getfield 143, 3) := bd180 (a := 0) (b := 143) (btAt dk06ref2_cX12_looks_200_a 14 rfl)
theorem dX12_looks_379 : decode cX12_looks 379 = .ok (.iload 9, 2) := bd21 (a := 9) (btAt dk06ref2_cX12_looks_200_a 15 rfl)
theorem dX12_looks_381 : decode cX12_looks 381 = .ok (.ifCond .eq 11, 3) := bd153 (a := 0) (b := 11) (btAt dk06ref2_cX12_looks_200_a 16 rfl)
theorem dX12_looks_384 : decode cX12_looks 384 = .ok (.iload 8, 2) := bd21 (a := 8) (btAt dk06ref2_cX12_looks_200_a 17 rfl)
theorem dX12_looks_386 : decode cX12_looks 386 = .ok (.sipush (-400), 3) := bd17 (a := 254) (b := 112) (btAt dk06ref2_cX12_looks_200_a 18 rfl)
theorem dX12_looks_389 : decode cX12_looks 389 = .ok (.if_icmp .gt 7, 3) := bd163 (a := 0) (b := 7) (btAt dk06ref2_cX12_looks_200_a 19 rfl)
theorem dX12_looks_392 : decode cX12_looks 392 = .ok (.iconst 0, 1) := bd3 (btAt dk06ref2_cX12_looks_200_a 20 rfl)
theorem dX12_looks_393 : decode cX12_looks 393 = .ok (.goto 25, 3) := bd167 (a := 0) (b := 25) (btAt dk06ref2_cX12_looks_200_a 21 rfl)
theorem dX12_looks_396 : decode cX12_looks 396 = .ok (.iload 8, 2) := bd21 (a := 8) (btAt dk06ref2_cX12_looks_200_a 22 rfl)
theorem dX12_looks_398 : decode cX12_looks 398 = .ok (.sipush (-200), 3) := bd17 (a := 255) (b := 56) (btAt dk06ref2_cX12_looks_200_a 23 rfl)
theorem dX12_looks_401 : decode cX12_looks 401 = .ok (.if_icmp .le 11, 3) := bd164 (a := 0) (b := 11) (btAt dk06ref2_cX12_looks_200_a 24 rfl)
theorem dX12_looks_404 : decode cX12_looks 404 = .ok (.bipush (-10), 2) := bd16 (a := 246) (btAt dk06ref2_cX12_looks_200_a 25 rfl)
theorem dX12_looks_406 : decode cX12_looks 406 = .ok (.iload 8, 2) := bd21 (a := 8) (btAt dk06ref2_cX12_looks_200_a 26 rfl)
theorem dX12_looks_418 : decode cX12_looks 418 = .ok (.iadd, 1) := bd96 (btAt dk06ref2_cX12_looks_200_a 27 rfl)
theorem dX12_looks_419 : decode cX12_looks 419 = .ok (.putfield 143, 3) := bd181 (a := 0) (b := 143) (btAt dk06ref2_cX12_looks_200_a 28 rfl)
theorem dX12_looks_422 : decode cX12_looks 422 = .ok (.aload_n 0, 1) := bd42 (btAt dk06ref2_cX12_looks_200_a 29 rfl)
theorem dX12_looks_423 : decode cX12_looks 423 = .ok (.dup, 1) := bd89 (btAt dk06ref2_cX12_looks_200_a 30 rfl)
theorem dX12_looks_424 : decode cX12_looks 424 = .ok (.getfield 146, 3) := bd180 (a := 0) (b := 146) (btAt dk06ref2_cX12_looks_200_a 31 rfl)
theorem dX12_looks_427 : decode cX12_looks 427 = .ok (.iload 9, 2) := bd21 (a := 9) (btAt dk06ref2_cX12_looks_200_a 32 rfl)
theorem dX12_looks_429 : decode cX12_looks 429 = .ok (.ifCond .eq 20, 3) := bd153 (a := 0) (b := 20) (btAt dk06ref2_cX12_looks_200_a 33 rfl)
theorem dX12_looks_432 : decode cX12_looks 432 = .ok (.iload 8, 2) := bd21 (a := 8) (btAt dk06ref2_cX12_looks_200_a 34 rfl)
theorem dX12_looks_434 : decode cX12_looks 434 = .ok (.sipush (-400), 3) := bd17 (a := 254) (b := 112) (btAt dk06ref2_cX12_looks_200_a 35 rfl)
theorem dX12_looks_437 : decode cX12_looks 437 = .ok (.if_icmp .gt 12, 3) := bd163 (a := 0) (b := 12) (btAt dk06ref2_cX12_looks_200_a 36 rfl)
theorem dX12_looks_449 : decode cX12_looks 449 = .ok (.iconst 0, 1) := bd3 (btAt dk06ref2_cX12_looks_200_a 37 rfl)
theorem dX12_looks_450 : decode cX12_looks 450 = .ok (.iadd, 1) := bd96 (btAt dk06ref2_cX12_looks_200_a 38 rfl)
theorem dX12_looks_451 : decode cX12_looks 451 = .ok (.putfield 146, 3) := bd181 (a := 0) (b := 146) (btAt dk06ref2_cX12_looks_200_a 39 rfl)
noncomputable def dk06ref2_cX12_looks_240 : List (Nat × List Nat) := [(408, [100]), (409, [167, 0, 9]), (412, [21, 8]), (414, [17, 255, 56]), (417, [100]), (440, [17, 254, 112]), (443, [21, 8]), (445, [100]), (446, [167, 0, 4])]
set_option maxRecDepth 100000 in
theorem dk06ref2_cX12_looks_240_a : btA cX12_looks dk06ref2_cX12_looks_240 = true := by decide +kernel
theorem dX12_looks_408 : decode cX12_looks 408 = .ok (.isub, 1) := bd100 (btAt dk06ref2_cX12_looks_240_a 0 rfl)
theorem dX12_looks_409 : decode cX12_looks 409 = .ok (.goto 9, 3) := bd167 (a := 0) (b := 9) (btAt dk06ref2_cX12_looks_240_a 1 rfl)
theorem dX12_looks_412 : decode cX12_looks 412 = .ok (.iload 8, 2) := bd21 (a := 8) (btAt dk06ref2_cX12_looks_240_a 2 rfl)
theorem dX12_looks_414 : decode cX12_looks 414 = .ok (.sipush (-200), 3) := bd17 (a := 255) (b := 56) (btAt dk06ref2_cX12_looks_240_a 3 rfl)
theorem dX12_looks_417 : decode cX12_looks 417 = .ok (.isub, 1) := bd100 (btAt dk06ref2_cX12_looks_240_a 4 rfl)
theorem dX12_looks_440 : decode cX12_looks 440 = .ok (.sipush (-400), 3) := bd17 (a := 254) (b := 112) (btAt dk06ref2_cX12_looks_240_a 5 rfl)
theorem dX12_looks_443 : decode cX12_looks 443 = .ok (.iload 8, 2) := bd21 (a := 8) (btAt dk06ref2_cX12_looks_240_a 6 rfl)
theorem dX12_looks_445 : decode cX12_looks 445 = .ok (.isub, 1) := bd100 (btAt dk06ref2_cX12_looks_240_a 7 rfl)
theorem dX12_looks_446 : decode cX12_looks 446 = .ok (.goto 4, 3) := bd167 (a := 0) (b := 4) (btAt dk06ref2_cX12_looks_240_a 8 rfl)
noncomputable def dk06ref2_cX12_sight_0 : List (Nat × List Nat) := [(0, [42]), (1, [180, 0, 9]), (4, [8]), (5, [46]), (6, [2]), (7, [160, 0, 7]), (10, [6]), (11, [167, 0, 18]), (14, [42]), (15, [180, 0, 9]), (18, [17, 0, 191]), (21, [42]), (22, [180, 0, 9]), (25, [8]), (26, [46]), (27, [96]), (28, [46]), (29, [172])]
set_option maxRecDepth 100000 in
theorem dk06ref2_cX12_sight_0_a : btA cX12_sight dk06ref2_cX12_sight_0 = true := by decide +kernel
theorem dX12_sight_0 : decode cX12_sight 0 = .ok (.aload_n 0, 1) := bd42 (btAt dk06ref2_cX12_sight_0_a 0 rfl)
theorem dX12_sight_1 : decode cX12_sight 1 = .ok (.getfield 9, 3) := bd180 (a := 0) (b := 9) (btAt dk06ref2_cX12_sight_0_a 1 rfl)
theorem dX12_sight_4 : decode cX12_sight 4 = .ok (.iconst 5, 1) := bd8 (btAt dk06ref2_cX12_sight_0_a 2 rfl)
theorem dX12_sight_5 : decode cX12_sight 5 = .ok (.iaload, 1) := bd46 (btAt dk06ref2_cX12_sight_0_a 3 rfl)
theorem dX12_sight_6 : decode cX12_sight 6 = .ok (.iconst (-1), 1) := bd2 (btAt dk06ref2_cX12_sight_0_a 4 rfl)
theorem dX12_sight_7 : decode cX12_sight 7 = .ok (.if_icmp .ne 7, 3) := bd160 (a := 0) (b := 7) (btAt dk06ref2_cX12_sight_0_a 5 rfl)
theorem dX12_sight_10 : decode cX12_sight 10 = .ok (.iconst 3, 1) := bd6 (btAt dk06ref2_cX12_sight_0_a 6 rfl)
theorem dX12_sight_11 : decode cX12_sight 11 = .ok (.goto 18, 3) := bd167 (a := 0) (b := 18) (btAt dk06ref2_cX12_sight_0_a 7 rfl)
theorem dX12_sight_14 : decode cX12_sight 14 = .ok (.aload_n 0, 1) := bd42 (btAt dk06ref2_cX12_sight_0_a 8 rfl)
theorem dX12_sight_15 : decode cX12_sight 15 = .ok (.getfield 9, 3) := bd180 (a := 0) (b := 9) (btAt dk06ref2_cX12_sight_0_a 9 rfl)
theorem dX12_sight_18 : decode cX12_sight 18 = .ok (.sipush 191, 3) := bd17 (a := 0) (b := 191) (btAt dk06ref2_cX12_sight_0_a 10 rfl)
theorem dX12_sight_21 : decode cX12_sight 21 = .ok (.aload_n 0, 1) := bd42 (btAt dk06ref2_cX12_sight_0_a 11 rfl)
theorem dX12_sight_22 : decode cX12_sight 22 = .ok (.getfield 9, 3) := bd180 (a := 0) (b := 9) (btAt dk06ref2_cX12_sight_0_a 12 rfl)
theorem dX12_sight_25 : decode cX12_sight 25 = .ok (.iconst 5, 1) := bd8 (btAt dk06ref2_cX12_sight_0_a 13 rfl)
theorem dX12_sight_26 : decode cX12_sight 26 = .ok (.iaload, 1) := bd46 (btAt dk06ref2_cX12_sight_0_a 14 rfl)
theorem dX12_sight_27 : decode cX12_sight 27 = .ok (.iadd, 1) := bd96 (btAt dk06ref2_cX12_sight_0_a 15 rfl)
theorem dX12_sight_28 : decode cX12_sight 28 = .ok (.iaload, 1) := bd46 (btAt dk06ref2_cX12_sight_0_a 16 rfl)
theorem dX12_sight_29 : decode cX12_sight 29 = .ok (.ireturn, 1) := bd172 (btAt dk06ref2_cX12_sight_0_a 17 rfl)
noncomputable def dk06ref2_cX12_reachOf_0 : List (Nat × List Nat) := [(0, [42]), (1, [180, 0, 9]), (4, [16, 10]), (6, [27]), (7, [96]), (8, [46]), (9, [61]), (10, [42]), (11, [180, 0, 9]), (14, [16, 19]), (16, [27]), (17, [96]), (18, [46]), (19, [62]), (20, [42]), (21, [27]), (22, [28]), (23, [42]), (24, [180, 0, 9]), (27, [16, 28]), (29, [27]), (30, [96]), (31, [46]), (32, [182, 0, 160]), (35, [42]), (36, [182, 0, 140]), (39, [42]), (40, [180, 0, 143]), (43, [96]), (44, [42]), (45, [180, 0, 9]), (48, [16, 6]), (50, [46]), (51, [100]), (52, [54, 4]), (54, [21, 4]), (56, [28]), (57, [4]), (87, [96]), (88, [54, 4])]
set_option maxRecDepth 100000 in
theorem dk06ref2_cX12_reachOf_0_a : btA cX12_reachOf dk06ref2_cX12_reachOf_0 = true := by decide +kernel
theorem dX12_reachOf_0 : decode cX12_reachOf 0 = .ok (.aload_n 0, 1) := bd42 (btAt dk06ref2_cX12_reachOf_0_a 0 rfl)
theorem dX12_reachOf_1 : decode cX12_reachOf 1 = .ok (.getfield 9, 3) := bd180 (a := 0) (b := 9) (btAt dk06ref2_cX12_reachOf_0_a 1 rfl)
theorem dX12_reachOf_4 : decode cX12_reachOf 4 = .ok (.bipush 10, 2) := bd16 (a := 10) (btAt dk06ref2_cX12_reachOf_0_a 2 rfl)
theorem dX12_reachOf_6 : decode cX12_reachOf 6 = .ok (.iload_n 1, 1) := bd27 (btAt dk06ref2_cX12_reachOf_0_a 3 rfl)
theorem dX12_reachOf_7 : decode cX12_reachOf 7 = .ok (.iadd, 1) := bd96 (btAt dk06ref2_cX12_reachOf_0_a 4 rfl)
theorem dX12_reachOf_8 : decode cX12_reachOf 8 = .ok (.iaload, 1) := bd46 (btAt dk06ref2_cX12_reachOf_0_a 5 rfl)
theorem dX12_reachOf_9 : decode cX12_reachOf 9 = .ok (.istore_n 2, 1) := bd61 (btAt dk06ref2_cX12_reachOf_0_a 6 rfl)
theorem dX12_reachOf_10 : decode cX12_reachOf 10 = .ok (.aload_n 0, 1) := bd42 (btAt dk06ref2_cX12_reachOf_0_a 7 rfl)
theorem dX12_reachOf_11 : decode cX12_reachOf 11 = .ok (.getfield 9, 3) := bd180 (a := 0) (b := 9) (btAt dk06ref2_cX12_reachOf_0_a 8 rfl)
theorem dX12_reachOf_14 : decode cX12_reachOf 14 = .ok (.bipush 19, 2) := bd16 (a := 19) (btAt dk06ref2_cX12_reachOf_0_a 9 rfl)
theorem dX12_reachOf_16 : decode cX12_reachOf 16 = .ok (.iload_n 1, 1) := bd27 (btAt dk06ref2_cX12_reachOf_0_a 10 rfl)
theorem dX12_reachOf_17 : decode cX12_reachOf 17 = .ok (.iadd, 1) := bd96 (btAt dk06ref2_cX12_reachOf_0_a 11 rfl)
theorem dX12_reachOf_18 : decode cX12_reachOf 18 = .ok (.iaload, 1) := bd46 (btAt dk06ref2_cX12_reachOf_0_a 12 rfl)
theorem dX12_reachOf_19 : decode cX12_reachOf 19 = .ok (.istore_n 3, 1) := bd62 (btAt dk06ref2_cX12_reachOf_0_a 13 rfl)
theorem dX12_reachOf_20 : decode cX12_reachOf 20 = .ok (.aload_n 0, 1) := bd42 (btAt dk06ref2_cX12_reachOf_0_a 14 rfl)
theorem dX12_reachOf_21 : decode cX12_reachOf 21 = .ok (.iload_n 1, 1) := bd27 (btAt dk06ref2_cX12_reachOf_0_a 15 rfl)
theorem dX12_reachOf_22 : decode cX12_reachOf 22 = .ok (.iload_n 2, 1) := bd28 (btAt dk06ref2_cX12_reachOf_0_a 16 rfl)
theorem dX12_reachOf_23 : decode cX12_reachOf 23 = .ok (.aload_n 0, 1) := bd42 (btAt dk06ref2_cX12_reachOf_0_a 17 rfl)
theorem dX12_reachOf_24 : decode cX12_reachOf 24 = .ok (.getfield 9, 3) := bd180 (a := 0) (b := 9) (btAt dk06ref2_cX12_reachOf_0_a 18 rfl)
theorem dX12_reachOf_27 : decode cX12_reachOf 27 = .ok (.bipush 28, 2) := bd16 (a := 28) (btAt dk06ref2_cX12_reachOf_0_a 19 rfl)
theorem dX12_reachOf_29 : decode cX12_reachOf 29 = .ok (.iload_n 1, 1) := bd27 (btAt dk06ref2_cX12_reachOf_0_a 20 rfl)
theorem dX12_reachOf_30 : decode cX12_reachOf 30 = .ok (.iadd, 1) := bd96 (btAt dk06ref2_cX12_reachOf_0_a 21 rfl)
theorem dX12_reachOf_31 : decode cX12_reachOf 31 = .ok (.iaload, 1) := bd46 (btAt dk06ref2_cX12_reachOf_0_a 22 rfl)
theorem dX12_reachOf_32 : decode cX12_reachOf 32 = .ok (.invokevirtual 160, 3) := bd182 (a := 0) (b := 160) (btAt dk06ref2_cX12_reachOf_0_a 23 rfl)
theorem dX12_reachOf_35 : decode cX12_reachOf 35 = .ok (.aload_n 0, 1) := bd42 (btAt dk06ref2_cX12_reachOf_0_a 24 rfl)
theorem dX12_reachOf_36 : decode cX12_reachOf 36 = .ok (.invokevirtual 140, 3) := bd182 (a := 0) (b := 140) (btAt dk06ref2_cX12_reachOf_0_a 25 rfl)
theorem dX12_reachOf_39 : decode cX12_reachOf 39 = .ok (.aload_n 0, 1) := bd42 (btAt dk06ref2_cX12_reachOf_0_a 26 rfl)
theorem dX12_reachOf_40 : decode cX12_reachOf 40 = .ok (.getfield 143, 3) := bd180 (a := 0) (b := 143) (btAt dk06ref2_cX12_reachOf_0_a 27 rfl)
theorem dX12_reachOf_43 : decode cX12_reachOf 43 = .ok (.iadd, 1) := bd96 (btAt dk06ref2_cX12_reachOf_0_a 28 rfl)
theorem dX12_reachOf_44 : decode cX12_reachOf 44 = .ok (.aload_n 0, 1) := bd42 (btAt dk06ref2_cX12_reachOf_0_a 29 rfl)
theorem dX12_reachOf_45 : decode cX12_reachOf 45 = .ok (.getfield 9, 3) := bd180 (a := 0) (b := 9) (btAt dk06ref2_cX12_reachOf_0_a 30 rfl)
theorem dX12_reachOf_48 : decode cX12_reachOf 48 = .ok (.bipush 6, 2) := bd16 (a := 6) (btAt dk06ref2_cX12_reachOf_0_a 31 rfl)
theorem dX12_reachOf_50 : decode cX12_reachOf 50 = .ok (.iaload, 1) := bd46 (btAt dk06ref2_cX12_reachOf_0_a 32 rfl)
theorem dX12_reachOf_51 : decode cX12_reachOf 51 = .ok (.isub, 1) := bd100 (btAt dk06ref2_cX12_reachOf_0_a 33 rfl)
theorem dX12_reachOf_52 : decode cX12_reachOf 52 = .ok (.istore 4, 2) := bd54 (a := 4) (btAt dk06ref2_cX12_reachOf_0_a 34 rfl)
theorem dX12_reachOf_54 : decode cX12_reachOf 54 = .ok (.iload 4, 2) := bd21 (a := 4) (btAt dk06ref2_cX12_reachOf_0_a 35 rfl)
theorem dX12_reachOf_56 : decode cX12_reachOf 56 = .ok (.iload_n 2, 1) := bd28 (btAt dk06ref2_cX12_reachOf_0_a 36 rfl)
theorem dX12_reachOf_57 : decode cX12_reachOf 57 = .ok (.iconst 1, 1) := bd4 (btAt dk06ref2_cX12_reachOf_0_a 37 rfl)
theorem dX12_reachOf_87 : decode cX12_reachOf 87 = .ok (.iadd, 1) := bd96 (btAt dk06ref2_cX12_reachOf_0_a 38 rfl)
theorem dX12_reachOf_88 : decode cX12_reachOf 88 = .ok (.istore 4, 2) := bd54 (a := 4) (btAt dk06ref2_cX12_reachOf_0_a 39 rfl)
noncomputable def dk06ref2_cX12_reachOf_40 : List (Nat × List Nat) := [(58, [159, 0, 8]), (61, [28]), (62, [7]), (63, [160, 0, 9]), (66, [29]), (67, [6]), (68, [108]), (69, [167, 0, 18]), (72, [28]), (73, [5]), (74, [159, 0, 8]), (77, [28]), (78, [8]), (82, [2]), (83, [167, 0, 4]), (90, [21, 4]), (92, [155, 0, 19]), (95, [28]), (96, [8]), (97, [160, 0, 18]), (100, [42]), (101, [180, 0, 9]), (104, [16, 7]), (106, [46]), (107, [29]), (108, [164, 0, 7]), (111, [3]), (112, [167, 0, 5]), (115, [21, 4]), (117, [54, 4]), (119, [28]), (120, [16, 6]), (122, [160, 0, 13]), (125, [21, 4]), (127, [4]), (128, [164, 0, 7]), (131, [4]), (132, [167, 0, 5]), (135, [21, 4]), (137, [172])]
set_option maxRecDepth 100000 in
theorem dk06ref2_cX12_reachOf_40_a : btA cX12_reachOf dk06ref2_cX12_reachOf_40 = true := by decide +kernel
theorem dX12_reachOf_58 : decode cX12_reachOf 58 = .ok (.if_icmp .eq 8, 3) := bd159 (a := 0) (b := 8) (btAt dk06ref2_cX12_reachOf_40_a 0 rfl)
theorem dX12_reachOf_61 : decode cX12_reachOf 61 = .ok (.iload_n 2, 1) := bd28 (btAt dk06ref2_cX12_reachOf_40_a 1 rfl)
theorem dX12_reachOf_62 : decode cX12_reachOf 62 = .ok (.iconst 4, 1) := bd7 (btAt dk06ref2_cX12_reachOf_40_a 2 rfl)
theorem dX12_reachOf_63 : decode cX12_reachOf 63 = .ok (.if_icmp .ne 9, 3) := bd160 (a := 0) (b := 9) (btAt dk06ref2_cX12_reachOf_40_a 3 rfl)
theorem dX12_reachOf_66 : decode cX12_reachOf 66 = .ok (.iload_n 3, 1) := bd29 (btAt dk06ref2_cX12_reachOf_40_a 4 rfl)
theorem dX12_reachOf_67 : decode cX12_reachOf 67 = .ok (.iconst 3, 1) := bd6 (btAt dk06ref2_cX12_reachOf_40_a 5 rfl)
theorem dX12_reachOf_68 : decode cX12_reachOf 68 = .ok (.idiv, 1) := bd108 (btAt dk06ref2_cX12_reachOf_40_a 6 rfl)
theorem dX12_reachOf_69 : decode cX12_reachOf 69 = .ok (.goto 18, 3) := bd167 (a := 0) (b := 18) (btAt dk06ref2_cX12_reachOf_40_a 7 rfl)
theorem dX12_reachOf_72 : decode cX12_reachOf 72 = .ok (.iload_n 2, 1) := bd28 (btAt dk06ref2_cX12_reachOf_40_a 8 rfl)
theorem dX12_reachOf_73 : decode cX12_reachOf 73 = .ok (.iconst 2, 1) := bd5 (btAt dk06ref2_cX12_reachOf_40_a 9 rfl)
theorem dX12_reachOf_74 : decode cX12_reachOf 74 = .ok (.if_icmp .eq 8, 3) := bd159 (a := 0) (b := 8) (btAt dk06ref2_cX12_reachOf_40_a 10 rfl)
theorem dX12_reachOf_77 : decode cX12_reachOf 77 = .ok (.iload_n 2, 1) := bd28 (btAt dk06ref2_cX12_reachOf_40_a 11 rfl)
theorem dX12_reachOf_78 : decode cX12_reachOf 78 = .ok (.iconst 5, 1) := bd8 (btAt dk06ref2_cX12_reachOf_40_a 12 rfl)
theorem dX12_reachOf_82 : decode cX12_reachOf 82 = .ok (.iconst (-1), 1) := bd2 (btAt dk06ref2_cX12_reachOf_40_a 13 rfl)
theorem dX12_reachOf_83 : decode cX12_reachOf 83 = .ok (.goto 4, 3) := bd167 (a := 0) (b := 4) (btAt dk06ref2_cX12_reachOf_40_a 14 rfl)
theorem dX12_reachOf_90 : decode cX12_reachOf 90 = .ok (.iload 4, 2) := bd21 (a := 4) (btAt dk06ref2_cX12_reachOf_40_a 15 rfl)
theorem dX12_reachOf_92 : decode cX12_reachOf 92 = .ok (.ifCond .lt 19, 3) := bd155 (a := 0) (b := 19) (btAt dk06ref2_cX12_reachOf_40_a 16 rfl)
theorem dX12_reachOf_95 : decode cX12_reachOf 95 = .ok (.iload_n 2, 1) := bd28 (btAt dk06ref2_cX12_reachOf_40_a 17 rfl)
theorem dX12_reachOf_96 : decode cX12_reachOf 96 = .ok (.iconst 5, 1) := bd8 (btAt dk06ref2_cX12_reachOf_40_a 18 rfl)
theorem dX12_reachOf_97 : decode cX12_reachOf 97 = .ok (.if_icmp .ne 18, 3) := bd160 (a := 0) (b := 18) (btAt dk06ref2_cX12_reachOf_40_a 19 rfl)
theorem dX12_reachOf_100 : decode cX12_reachOf 100 = .ok (.aload_n 0, 1) := bd42 (btAt dk06ref2_cX12_reachOf_40_a 20 rfl)
theorem dX12_reachOf_101 : decode cX12_reachOf 101 = .ok (.getfield 9, 3) := bd180 (a := 0) (b := 9) (btAt dk06ref2_cX12_reachOf_40_a 21 rfl)
theorem dX12_reachOf_104 : decode cX12_reachOf 104 = .ok (.bipush 7, 2) := bd16 (a := 7) (btAt dk06ref2_cX12_reachOf_40_a 22 rfl)
theorem dX12_reachOf_106 : decode cX12_reachOf 106 = .ok (.iaload, 1) := bd46 (btAt dk06ref2_cX12_reachOf_40_a 23 rfl)
theorem dX12_reachOf_107 : decode cX12_reachOf 107 = .ok (.iload_n 3, 1) := bd29 (btAt dk06ref2_cX12_reachOf_40_a 24 rfl)
theorem dX12_reachOf_108 : decode cX12_reachOf 108 = .ok (.if_icmp .le 7, 3) := bd164 (a := 0) (b := 7) (btAt dk06ref2_cX12_reachOf_40_a 25 rfl)
theorem dX12_reachOf_111 : decode cX12_reachOf 111 = .ok (.iconst 0, 1) := bd3 (btAt dk06ref2_cX12_reachOf_40_a 26 rfl)
theorem dX12_reachOf_112 : decode cX12_reachOf 112 = .ok (.goto 5, 3) := bd167 (a := 0) (b := 5) (btAt dk06ref2_cX12_reachOf_40_a 27 rfl)
theorem dX12_reachOf_115 : decode cX12_reachOf 115 = .ok (.iload 4, 2) := bd21 (a := 4) (btAt dk06ref2_cX12_reachOf_40_a 28 rfl)
theorem dX12_reachOf_117 : decode cX12_reachOf 117 = .ok (.istore 4, 2) := bd54 (a := 4) (btAt dk06ref2_cX12_reachOf_40_a 29 rfl)
theorem dX12_reachOf_119 : decode cX12_reachOf 119 = .ok (.iload_n 2, 1) := bd28 (btAt dk06ref2_cX12_reachOf_40_a 30 rfl)
theorem dX12_reachOf_120 : decode cX12_reachOf 120 = .ok (.bipush 6, 2) := bd16 (a := 6) (btAt dk06ref2_cX12_reachOf_40_a 31 rfl)
theorem dX12_reachOf_122 : decode cX12_reachOf 122 = .ok (.if_icmp .ne 13, 3) := bd160 (a := 0) (b := 13) (btAt dk06ref2_cX12_reachOf_40_a 32 rfl)
theorem dX12_reachOf_125 : decode cX12_reachOf 125 = .ok (.iload 4, 2) := bd21 (a := 4) (btAt dk06ref2_cX12_reachOf_40_a 33 rfl)
theorem dX12_reachOf_127 : decode cX12_reachOf 127 = .ok (.iconst 1, 1) := bd4 (btAt dk06ref2_cX12_reachOf_40_a 34 rfl)
theorem dX12_reachOf_128 : decode cX12_reachOf 128 = .ok (.if_icmp .le 7, 3) := bd164 (a := 0) (b := 7) (btAt dk06ref2_cX12_reachOf_40_a 35 rfl)
theorem dX12_reachOf_131 : decode cX12_reachOf 131 = .ok (.iconst 1, 1) := bd4 (btAt dk06ref2_cX12_reachOf_40_a 36 rfl)
theorem dX12_reachOf_132 : decode cX12_reachOf 132 = .ok (.goto 5, 3) := bd167 (a := 0) (b := 5) (btAt dk06ref2_cX12_reachOf_40_a 37 rfl)
theorem dX12_reachOf_135 : decode cX12_reachOf 135 = .ok (.iload 4, 2) := bd21 (a := 4) (btAt dk06ref2_cX12_reachOf_40_a 38 rfl)
theorem dX12_reachOf_137 : decode cX12_reachOf 137 = .ok (.ireturn, 1) := bd172 (btAt dk06ref2_cX12_reachOf_40_a 39 rfl)
noncomputable def dk06ref2_cX12_reachOf_80 : List (Nat × List Nat) := [(79, [160, 0, 7]), (86, [3])]
set_option maxRecDepth 100000 in
theorem dk06ref2_cX12_reachOf_80_a : btA cX12_reachOf dk06ref2_cX12_reachOf_80 = true := by decide +kernel
theorem dX12_reachOf_79 : decode cX12_reachOf 79 = .ok (.if_icmp .ne 7, 3) := bd160 (a := 0) (b := 7) (btAt dk06ref2_cX12_reachOf_80_a 0 rfl)
theorem dX12_reachOf_86 : decode cX12_reachOf 86 = .ok (.iconst 0, 1) := bd3 (btAt dk06ref2_cX12_reachOf_80_a 1 rfl)
noncomputable def dk06ref2_cX12_isSeen_0 : List (Nat × List Nat) := [(0, [28]), (1, [42]), (2, [180, 0, 9]), (5, [16, 28]), (7, [27]), (8, [96]), (9, [46]), (10, [184, 0, 170]), (13, [42]), (14, [27]), (15, [182, 0, 167]), (18, [163, 0, 7]), (21, [4]), (22, [167, 0, 4]), (25, [3]), (26, [172])]
set_option maxRecDepth 100000 in
theorem dk06ref2_cX12_isSeen_0_a : btA cX12_isSeen dk06ref2_cX12_isSeen_0 = true := by decide +kernel
theorem dX12_isSeen_0 : decode cX12_isSeen 0 = .ok (.iload_n 2, 1) := bd28 (btAt dk06ref2_cX12_isSeen_0_a 0 rfl)
theorem dX12_isSeen_1 : decode cX12_isSeen 1 = .ok (.aload_n 0, 1) := bd42 (btAt dk06ref2_cX12_isSeen_0_a 1 rfl)
theorem dX12_isSeen_2 : decode cX12_isSeen 2 = .ok (.getfield 9, 3) := bd180 (a := 0) (b := 9) (btAt dk06ref2_cX12_isSeen_0_a 2 rfl)
theorem dX12_isSeen_5 : decode cX12_isSeen 5 = .ok (.bipush 28, 2) := bd16 (a := 28) (btAt dk06ref2_cX12_isSeen_0_a 3 rfl)
theorem dX12_isSeen_7 : decode cX12_isSeen 7 = .ok (.iload_n 1, 1) := bd27 (btAt dk06ref2_cX12_isSeen_0_a 4 rfl)
theorem dX12_isSeen_8 : decode cX12_isSeen 8 = .ok (.iadd, 1) := bd96 (btAt dk06ref2_cX12_isSeen_0_a 5 rfl)
theorem dX12_isSeen_9 : decode cX12_isSeen 9 = .ok (.iaload, 1) := bd46 (btAt dk06ref2_cX12_isSeen_0_a 6 rfl)
theorem dX12_isSeen_10 : decode cX12_isSeen 10 = .ok (.invokestatic 170, 3) := bd184 (a := 0) (b := 170) (btAt dk06ref2_cX12_isSeen_0_a 7 rfl)
theorem dX12_isSeen_13 : decode cX12_isSeen 13 = .ok (.aload_n 0, 1) := bd42 (btAt dk06ref2_cX12_isSeen_0_a 8 rfl)
theorem dX12_isSeen_14 : decode cX12_isSeen 14 = .ok (.iload_n 1, 1) := bd27 (btAt dk06ref2_cX12_isSeen_0_a 9 rfl)
theorem dX12_isSeen_15 : decode cX12_isSeen 15 = .ok (.invokevirtual 167, 3) := bd182 (a := 0) (b := 167) (btAt dk06ref2_cX12_isSeen_0_a 10 rfl)
theorem dX12_isSeen_18 : decode cX12_isSeen 18 = .ok (.if_icmp .gt 7, 3) := bd163 (a := 0) (b := 7) (btAt dk06ref2_cX12_isSeen_0_a 11 rfl)
theorem dX12_isSeen_21 : decode cX12_isSeen 21 = .ok (.iconst 1, 1) := bd4 (btAt dk06ref2_cX12_isSeen_0_a 12 rfl)
theorem dX12_isSeen_22 : decode cX12_isSeen 22 = .ok (.goto 4, 3) := bd167 (a := 0) (b := 4) (btAt dk06ref2_cX12_isSeen_0_a 13 rfl)
theorem dX12_isSeen_25 : decode cX12_isSeen 25 = .ok (.iconst 0, 1) := bd3 (btAt dk06ref2_cX12_isSeen_0_a 14 rfl)
theorem dX12_isSeen_26 : decode cX12_isSeen 26 = .ok (.ireturn, 1) := bd172 (btAt dk06ref2_cX12_isSeen_0_a 15 rfl)
noncomputable def dk06ref2_cX12_seesOf_0 : List (Nat × List Nat) := [(0, [3]), (1, [61]), (2, [3]), (3, [62]), (4, [29]), (5, [42]), (6, [180, 0, 9]), (9, [3]), (10, [46]), (11, [162, 0, 28]), (14, [28]), (15, [42]), (16, [29]), (17, [27]), (18, [182, 0, 174]), (21, [153, 0, 9]), (24, [4]), (25, [29]), (26, [120]), (27, [167, 0, 4]), (30, [3]), (31, [128]), (32, [61]), (33, [132, 3, 1]), (36, [167, 255, 224]), (39, [28]), (40, [172])]
set_option maxRecDepth 100000 in
theorem dk06ref2_cX12_seesOf_0_a : btA cX12_seesOf dk06ref2_cX12_seesOf_0 = true := by decide +kernel
theorem dX12_seesOf_0 : decode cX12_seesOf 0 = .ok (.iconst 0, 1) := bd3 (btAt dk06ref2_cX12_seesOf_0_a 0 rfl)
theorem dX12_seesOf_1 : decode cX12_seesOf 1 = .ok (.istore_n 2, 1) := bd61 (btAt dk06ref2_cX12_seesOf_0_a 1 rfl)
theorem dX12_seesOf_2 : decode cX12_seesOf 2 = .ok (.iconst 0, 1) := bd3 (btAt dk06ref2_cX12_seesOf_0_a 2 rfl)
theorem dX12_seesOf_3 : decode cX12_seesOf 3 = .ok (.istore_n 3, 1) := bd62 (btAt dk06ref2_cX12_seesOf_0_a 3 rfl)
theorem dX12_seesOf_4 : decode cX12_seesOf 4 = .ok (.iload_n 3, 1) := bd29 (btAt dk06ref2_cX12_seesOf_0_a 4 rfl)
theorem dX12_seesOf_5 : decode cX12_seesOf 5 = .ok (.aload_n 0, 1) := bd42 (btAt dk06ref2_cX12_seesOf_0_a 5 rfl)
theorem dX12_seesOf_6 : decode cX12_seesOf 6 = .ok (.getfield 9, 3) := bd180 (a := 0) (b := 9) (btAt dk06ref2_cX12_seesOf_0_a 6 rfl)
theorem dX12_seesOf_9 : decode cX12_seesOf 9 = .ok (.iconst 0, 1) := bd3 (btAt dk06ref2_cX12_seesOf_0_a 7 rfl)
theorem dX12_seesOf_10 : decode cX12_seesOf 10 = .ok (.iaload, 1) := bd46 (btAt dk06ref2_cX12_seesOf_0_a 8 rfl)
theorem dX12_seesOf_11 : decode cX12_seesOf 11 = .ok (.if_icmp .ge 28, 3) := bd162 (a := 0) (b := 28) (btAt dk06ref2_cX12_seesOf_0_a 9 rfl)
theorem dX12_seesOf_14 : decode cX12_seesOf 14 = .ok (.iload_n 2, 1) := bd28 (btAt dk06ref2_cX12_seesOf_0_a 10 rfl)
theorem dX12_seesOf_15 : decode cX12_seesOf 15 = .ok (.aload_n 0, 1) := bd42 (btAt dk06ref2_cX12_seesOf_0_a 11 rfl)
theorem dX12_seesOf_16 : decode cX12_seesOf 16 = .ok (.iload_n 3, 1) := bd29 (btAt dk06ref2_cX12_seesOf_0_a 12 rfl)
theorem dX12_seesOf_17 : decode cX12_seesOf 17 = .ok (.iload_n 1, 1) := bd27 (btAt dk06ref2_cX12_seesOf_0_a 13 rfl)
theorem dX12_seesOf_18 : decode cX12_seesOf 18 = .ok (.invokevirtual 174, 3) := bd182 (a := 0) (b := 174) (btAt dk06ref2_cX12_seesOf_0_a 14 rfl)
theorem dX12_seesOf_21 : decode cX12_seesOf 21 = .ok (.ifCond .eq 9, 3) := bd153 (a := 0) (b := 9) (btAt dk06ref2_cX12_seesOf_0_a 15 rfl)
theorem dX12_seesOf_24 : decode cX12_seesOf 24 = .ok (.iconst 1, 1) := bd4 (btAt dk06ref2_cX12_seesOf_0_a 16 rfl)
theorem dX12_seesOf_25 : decode cX12_seesOf 25 = .ok (.iload_n 3, 1) := bd29 (btAt dk06ref2_cX12_seesOf_0_a 17 rfl)
theorem dX12_seesOf_26 : decode cX12_seesOf 26 = .ok (.ishl, 1) := bd120 (btAt dk06ref2_cX12_seesOf_0_a 18 rfl)
theorem dX12_seesOf_27 : decode cX12_seesOf 27 = .ok (.goto 4, 3) := bd167 (a := 0) (b := 4) (btAt dk06ref2_cX12_seesOf_0_a 19 rfl)
theorem dX12_seesOf_30 : decode cX12_seesOf 30 = .ok (.iconst 0, 1) := bd3 (btAt dk06ref2_cX12_seesOf_0_a 20 rfl)
theorem dX12_seesOf_31 : decode cX12_seesOf 31 = .ok (.ior, 1) := bd128 (btAt dk06ref2_cX12_seesOf_0_a 21 rfl)
theorem dX12_seesOf_32 : decode cX12_seesOf 32 = .ok (.istore_n 2, 1) := bd61 (btAt dk06ref2_cX12_seesOf_0_a 22 rfl)
theorem dX12_seesOf_33 : decode cX12_seesOf 33 = .ok (.iinc 3 1, 3) := bd132 (a := 3) (b := 1) (btAt dk06ref2_cX12_seesOf_0_a 23 rfl)
theorem dX12_seesOf_36 : decode cX12_seesOf 36 = .ok (.goto (-32), 3) := bd167 (a := 255) (b := 224) (btAt dk06ref2_cX12_seesOf_0_a 24 rfl)
theorem dX12_seesOf_39 : decode cX12_seesOf 39 = .ok (.iload_n 2, 1) := bd28 (btAt dk06ref2_cX12_seesOf_0_a 25 rfl)
theorem dX12_seesOf_40 : decode cX12_seesOf 40 = .ok (.ireturn, 1) := bd172 (btAt dk06ref2_cX12_seesOf_0_a 26 rfl)
noncomputable def dk06ref2_cX12_sees_0 : List (Nat × List Nat) := [(0, [27]), (1, [184, 0, 149]), (4, [153, 0, 11]), (7, [42]), (8, [27]), (9, [182, 0, 178]), (12, [167, 0, 4]), (15, [2]), (16, [172])]
set_option maxRecDepth 100000 in
theorem dk06ref2_cX12_sees_0_a : btA cX12_sees dk06ref2_cX12_sees_0 = true := by decide +kernel
theorem dX12_sees_0 : decode cX12_sees 0 = .ok (.iload_n 1, 1) := bd27 (btAt dk06ref2_cX12_sees_0_a 0 rfl)
theorem dX12_sees_1 : decode cX12_sees 1 = .ok (.invokestatic 149, 3) := bd184 (a := 0) (b := 149) (btAt dk06ref2_cX12_sees_0_a 1 rfl)
theorem dX12_sees_4 : decode cX12_sees 4 = .ok (.ifCond .eq 11, 3) := bd153 (a := 0) (b := 11) (btAt dk06ref2_cX12_sees_0_a 2 rfl)
theorem dX12_sees_7 : decode cX12_sees 7 = .ok (.aload_n 0, 1) := bd42 (btAt dk06ref2_cX12_sees_0_a 3 rfl)
theorem dX12_sees_8 : decode cX12_sees 8 = .ok (.iload_n 1, 1) := bd27 (btAt dk06ref2_cX12_sees_0_a 4 rfl)
theorem dX12_sees_9 : decode cX12_sees 9 = .ok (.invokevirtual 178, 3) := bd182 (a := 0) (b := 178) (btAt dk06ref2_cX12_sees_0_a 5 rfl)
theorem dX12_sees_12 : decode cX12_sees 12 = .ok (.goto 4, 3) := bd167 (a := 0) (b := 4) (btAt dk06ref2_cX12_sees_0_a 6 rfl)
theorem dX12_sees_15 : decode cX12_sees 15 = .ok (.iconst (-1), 1) := bd2 (btAt dk06ref2_cX12_sees_0_a 7 rfl)
theorem dX12_sees_16 : decode cX12_sees 16 = .ok (.ireturn, 1) := bd172 (btAt dk06ref2_cX12_sees_0_a 8 rfl)
noncomputable def dk06ref2_cX12_where_0 : List (Nat × List Nat) := [(0, [27]), (1, [155, 0, 14]), (4, [27]), (5, [42]), (6, [180, 0, 9]), (9, [3]), (10, [46]), (11, [122]), (12, [153, 0, 7]), (15, [20, 0, 181]), (18, [173]), (19, [9]), (20, [65]), (21, [3]), (22, [54, 4]), (24, [21, 4]), (26, [16, 36]), (28, [162, 0, 30]), (31, [32]), (32, [42]), (33, [21, 4]), (35, [182, 0, 178]), (38, [27]), (39, [160, 0, 10]), (42, [10]), (43, [21, 4]), (45, [121]), (46, [167, 0, 4]), (49, [9]), (50, [129]), (51, [65]), (52, [132, 4, 1]), (55, [167, 255, 225]), (58, [32]), (59, [173])]
set_option maxRecDepth 100000 in
theorem dk06ref2_cX12_where_0_a : btA cX12_where dk06ref2_cX12_where_0 = true := by decide +kernel
theorem dX12_where_0 : decode cX12_where 0 = .ok (.iload_n 1, 1) := bd27 (btAt dk06ref2_cX12_where_0_a 0 rfl)
theorem dX12_where_1 : decode cX12_where 1 = .ok (.ifCond .lt 14, 3) := bd155 (a := 0) (b := 14) (btAt dk06ref2_cX12_where_0_a 1 rfl)
theorem dX12_where_4 : decode cX12_where 4 = .ok (.iload_n 1, 1) := bd27 (btAt dk06ref2_cX12_where_0_a 2 rfl)
theorem dX12_where_5 : decode cX12_where 5 = .ok (.aload_n 0, 1) := bd42 (btAt dk06ref2_cX12_where_0_a 3 rfl)
theorem dX12_where_6 : decode cX12_where 6 = .ok (.getfield 9, 3) := bd180 (a := 0) (b := 9) (btAt dk06ref2_cX12_where_0_a 4 rfl)
theorem dX12_where_9 : decode cX12_where 9 = .ok (.iconst 0, 1) := bd3 (btAt dk06ref2_cX12_where_0_a 5 rfl)
theorem dX12_where_10 : decode cX12_where 10 = .ok (.iaload, 1) := bd46 (btAt dk06ref2_cX12_where_0_a 6 rfl)
theorem dX12_where_11 : decode cX12_where 11 = .ok (.ishr, 1) := bd122 (btAt dk06ref2_cX12_where_0_a 7 rfl)
theorem dX12_where_12 : decode cX12_where 12 = .ok (.ifCond .eq 7, 3) := bd153 (a := 0) (b := 7) (btAt dk06ref2_cX12_where_0_a 8 rfl)
theorem dX12_where_15 : decode cX12_where 15 = .ok (.ldc2_w 181, 3) := bd20 (a := 0) (b := 181) (btAt dk06ref2_cX12_where_0_a 9 rfl)
theorem dX12_where_18 : decode cX12_where 18 = .ok (.lreturn, 1) := bd173 (btAt dk06ref2_cX12_where_0_a 10 rfl)
theorem dX12_where_19 : decode cX12_where 19 = .ok (.lconst 0, 1) := bd9 (btAt dk06ref2_cX12_where_0_a 11 rfl)
theorem dX12_where_20 : decode cX12_where 20 = .ok (.lstore_n 2, 1) := bd65 (btAt dk06ref2_cX12_where_0_a 12 rfl)
theorem dX12_where_21 : decode cX12_where 21 = .ok (.iconst 0, 1) := bd3 (btAt dk06ref2_cX12_where_0_a 13 rfl)
theorem dX12_where_22 : decode cX12_where 22 = .ok (.istore 4, 2) := bd54 (a := 4) (btAt dk06ref2_cX12_where_0_a 14 rfl)
theorem dX12_where_24 : decode cX12_where 24 = .ok (.iload 4, 2) := bd21 (a := 4) (btAt dk06ref2_cX12_where_0_a 15 rfl)
theorem dX12_where_26 : decode cX12_where 26 = .ok (.bipush 36, 2) := bd16 (a := 36) (btAt dk06ref2_cX12_where_0_a 16 rfl)
theorem dX12_where_28 : decode cX12_where 28 = .ok (.if_icmp .ge 30, 3) := bd162 (a := 0) (b := 30) (btAt dk06ref2_cX12_where_0_a 17 rfl)
theorem dX12_where_31 : decode cX12_where 31 = .ok (.lload_n 2, 1) := bd32 (btAt dk06ref2_cX12_where_0_a 18 rfl)
theorem dX12_where_32 : decode cX12_where 32 = .ok (.aload_n 0, 1) := bd42 (btAt dk06ref2_cX12_where_0_a 19 rfl)
theorem dX12_where_33 : decode cX12_where 33 = .ok (.iload 4, 2) := bd21 (a := 4) (btAt dk06ref2_cX12_where_0_a 20 rfl)
theorem dX12_where_35 : decode cX12_where 35 = .ok (.invokevirtual 178, 3) := bd182 (a := 0) (b := 178) (btAt dk06ref2_cX12_where_0_a 21 rfl)
theorem dX12_where_38 : decode cX12_where 38 = .ok (.iload_n 1, 1) := bd27 (btAt dk06ref2_cX12_where_0_a 22 rfl)
theorem dX12_where_39 : decode cX12_where 39 = .ok (.if_icmp .ne 10, 3) := bd160 (a := 0) (b := 10) (btAt dk06ref2_cX12_where_0_a 23 rfl)
theorem dX12_where_42 : decode cX12_where 42 = .ok (.lconst 1, 1) := bd10 (btAt dk06ref2_cX12_where_0_a 24 rfl)
theorem dX12_where_43 : decode cX12_where 43 = .ok (.iload 4, 2) := bd21 (a := 4) (btAt dk06ref2_cX12_where_0_a 25 rfl)
theorem dX12_where_45 : decode cX12_where 45 = .ok (.lshl, 1) := bd121 (btAt dk06ref2_cX12_where_0_a 26 rfl)
theorem dX12_where_46 : decode cX12_where 46 = .ok (.goto 4, 3) := bd167 (a := 0) (b := 4) (btAt dk06ref2_cX12_where_0_a 27 rfl)
theorem dX12_where_49 : decode cX12_where 49 = .ok (.lconst 0, 1) := bd9 (btAt dk06ref2_cX12_where_0_a 28 rfl)
theorem dX12_where_50 : decode cX12_where 50 = .ok (.lor, 1) := bd129 (btAt dk06ref2_cX12_where_0_a 29 rfl)
theorem dX12_where_51 : decode cX12_where 51 = .ok (.lstore_n 2, 1) := bd65 (btAt dk06ref2_cX12_where_0_a 30 rfl)
theorem dX12_where_52 : decode cX12_where 52 = .ok (.iinc 4 1, 3) := bd132 (a := 4) (b := 1) (btAt dk06ref2_cX12_where_0_a 31 rfl)
theorem dX12_where_55 : decode cX12_where 55 = .ok (.goto (-31), 3) := bd167 (a := 255) (b := 225) (btAt dk06ref2_cX12_where_0_a 32 rfl)
theorem dX12_where_58 : decode cX12_where 58 = .ok (.lload_n 2, 1) := bd32 (btAt dk06ref2_cX12_where_0_a 33 rfl)
theorem dX12_where_59 : decode cX12_where 59 = .ok (.lreturn, 1) := bd173 (btAt dk06ref2_cX12_where_0_a 34 rfl)
theorem kc_looks_0 : ∀ w ∈ wsX120, w ∈ wsX12_looks := fun w h => List.mem_cons_of_mem _ (gin_wsX120 w h)
theorem kc_looks_1 : (.fieldLink RX12 18 "MistHeapsModel" "by" "[I" : Cond) ∈ wsX12_looks := kc_of 1149 rfl rfl rfl
theorem kc_looks_2 : (.fieldLink RX12 9 "MistHeapsModel" "s" "[I" : Cond) ∈ wsX12_looks := kc_of 1141 rfl rfl rfl
theorem kc_looks_3 : (.fieldLink RX12 143 "MistHeapsModel" "seeing" "I" : Cond) ∈ wsX12_looks := kc_of 1151 rfl rfl rfl
theorem kc_looks_4 : (.fieldLink RX12 146 "MistHeapsModel" "drifting" "I" : Cond) ∈ wsX12_looks := kc_of 1152 rfl rfl rfl
theorem kc_looks_5 : (.fieldLink RX12 21 "MistHeapsModel" "truths" "[Z" : Cond) ∈ wsX12_looks := kc_of 1150 rfl rfl rfl
set_option maxHeartbeats 4000000 in
set_option maxRecDepth 100000 in
theorem c_looks (l : Launch) (dC : Nat → ClassId) (dI : Nat → Nat → Nat) (m0 aS aI aB aT aG aO aN aD aY : Nat) (th im ac sp en wg op se dn rn kd nu tv : Int32) (bv : Int64) (cS cB cT : ClassId) (fS : Nat → Int32) (fB : Nat → Int32) (fT : Nat → Int32) (x y z : Int32) (cz : List pCla) (sz : Nat) (zh : hol fS cz) : Met l yX12_looks wsX12_looks ({ frames := 0, cells := 0, slots := 0, locals := 0 } : Room) (va_Pc [.ref m0, .int x, .int y, .int z] (fun U => U.heap.size = sz ∧ va_P (dC, dI) vwCl [(zo14irriiiiiirriirrrrlriiii m0 th aS aI im ac sp en wg op aB aT se dn aG aO aN aD bv aY rn kd nu tv), (zaI aS cS 901 fS), (zaI aB cB 6 fB), (zaI aT cT 64 fT)] U.heap ∧ va_K (dC, dI) vwCl [(cS, .int), (cB, .int), (cT, .boolean)] U ∧ va_D (fun _ => True) [(zo14irriiiiiirriirrrrlriiii m0 th aS aI im ac sp en wg op aB aT se dn aG aO aN aD bv aY rn kd nu tv), (zaI aS cS 901 fS), (zaI aB cB 6 fB), (zaI aT cT 64 fT)])) (va_Qv (fun (u : (Nat → Int32) × (Nat → Int32) × (Int32) × (Int32)) => match u with | (fB9, fT9, se9, dn9) => se9 = sTt (fct x y z (fS 6) (fS 7)) cz ∧ dn9 = tot (fct x y z (fS 6) (fS 7)) 3 cz) (fun (u : (Nat → Int32) × (Nat → Int32) × (Int32) × (Int32)) (t : State) => match u with | (fB9, fT9, se9, dn9) => va_P (dC, dI) vwCl [(zo14irriiiiiirriirrrrlriiii m0 th aS aI im ac sp en wg op aB aT se9 dn9 aG aO aN aD bv aY rn kd nu tv), (zaI aS cS 901 fS), (zaI aB cB 6 fB9), (zaI aT cT 64 fT9)] t.heap ∧ va_K (dC, dI) vwCl [(cS, .int), (cB, .int), (cT, .boolean)] t ∧ va_D (va_A [(zo14irriiiiiirriirrrrlriiii m0 th aS aI im ac sp en wg op aB aT se dn aG aO aN aD bv aY rn kd nu tv), (zaI aS cS 901 fS), (zaI aB cB 6 fB), (zaI aT cT 64 fT)] sz) [(zo14irriiiiiirriirrrrlriiii m0 th aS aI im ac sp en wg op aB aT se9 dn9 aG aO aN aD bv aY rn kd nu tv), (zaI aS cS 901 fS), (zaI aB cB 6 fB9), (zaI aT cT 64 fT9)]) (va_A [(zo14irriiiiiirriirrrrlriiii m0 th aS aI im ac sp en wg op aB aT se dn aG aO aN aD bv aY rn kd nu tv), (zaI aS cS 901 fS), (zaI aB cB 6 fB), (zaI aT cT 64 fT)] sz)) 0 0 (va_A [(zo14irriiiiiirriirrrrlriiii m0 th aS aI im ac sp en wg op aB aT se dn aG aO aN aD bv aY rn kd nu tv), (zaI aS cS 901 fS), (zaI aB cB 6 fB), (zaI aT cT 64 fT)] sz) := by
  refine met_ofQ (cc := cX12_looks) (maxL := 12) (ret := none) (by decide) rfl ?_
  intro p e s m args below meth c s₁ Q B hml hv hQ
  obtain ⟨rfl, hsz, hP, hK, hD0⟩ := hv
  have hx := B.exec
  have hb := B.bytes
  have hr := B.returns
  have hts := atoms_spec (ws := wsX12_looks) B.pre
  have hown : s.vm.findClass RX12 = some m.cls := findClass_of_methodNamed B.named
  have hlocks := B.notSynchronized
  subst hsz
  have hD := hD0.self (sz := s.heap.size)
  generalize hAe : va_A [(zo14irriiiiiirriirrrrlriiii m0 th aS aI im ac sp en wg op aB aT se dn aG aO aN aD bv aY rn kd nu tv), (zaI aS cS 901 fS), (zaI aB cB 6 fB), (zaI aT cT 64 fT)] s.heap.size = A at hD hQ ⊢
  have hA : ∀ q : Nat, s.heap.size ≤ q → A q := fun q h => by rw [← hAe]; exact Or.inr h
  have hS : va_S A s.heap s.heap [] := va_S.rf
  have hl := lv_entry [.ref m0, .int x, .int y, .int z] (n := 12) (Nat.le_of_ble_eq_true rfl)
  rw [lg_entry_eq]
  generalize (lg_sl [.ref m0, .int x, .int y, .int z] ++ List.replicate (12 - (lg_sl [.ref m0, .int x, .int y, .int z]).length) Slot.unset).toArray = ls at hl ⊢
  generalize hag : ([.ref m0, .int x, .int y, .int z] : List Value).toArray = args at hts hQ ⊢
  have hl : lv_has ls 12 [(0, .ref m0), (1, .int x), (2, .int y), (3, .int z)] := hl
  obtain ⟨H, hH⟩ : ∃ H : Heap, H = s.heap := ⟨_, rfl⟩
  rw [← hH] at hP
  rw [← hH]
  have hS : va_S A s.heap H [] := by rw [hH]; exact hS
  obtain ⟨locs, hlo⟩ : ∃ L : List Loc, L = [] := ⟨_, rfl⟩
  rw [← hlo] at hS
  rw [← hlo]
  clear hH hlo
  obtain ⟨hwf, ⟨zh, rfl⟩ | ⟨h, hh, zh, ⟨k, hk, zk, zo⟩, hcd⟩⟩ := zh
  · skip
    refine lv_aload_n hx hb dX12_looks_0 rfl (lv_at hl 0 rfl) ?_
    refine va_get (D := (dC, dI)) (ci := 14) (v := .ref aB) (C := RX12) (T := TX12) (N := 23) hx hb hts kc_looks_0 hown hK hP 0 rfl rfl 9 (by decide) (hts (.fieldLink RX12 18 "MistHeapsModel" "by" "[I") kc_looks_1) (fun _ h9 => h9) rfl dX12_looks_1 ?_
    refine lv_iconst (v := 0) hx hb dX12_looks_4 (by decide) ?_
    refine lv_iload_n hx hb dX12_looks_5 rfl (lv_at hl 1 rfl) ?_
    refine va_iast hx hb hK hP hD hS 2 1 rfl rfl (vp_in_nI (n := 0) (N := 6) (by omega) (by omega)) dX12_looks_6 (fun H locs hP hD hS => ?_)
    have hP : va_P (dC, dI) vwCl [(zo14irriiiiiirriirrrrlriiii m0 th aS aI im ac sp en wg op aB aT se dn aG aO aN aD bv aY rn kd nu tv), (zaI aS cS 901 fS), (zaI aB cB 6 (upd fB 0 x)), (zaI aT cT 64 fT)] H := hP
    have hD : va_D A [(zo14irriiiiiirriirrrrlriiii m0 th aS aI im ac sp en wg op aB aT se dn aG aO aN aD bv aY rn kd nu tv), (zaI aS cS 901 fS), (zaI aB cB 6 (upd fB 0 x)), (zaI aT cT 64 fT)] := hD
    refine lv_aload_n hx hb dX12_looks_7 rfl (lv_at hl 0 rfl) ?_
    refine va_get (D := (dC, dI)) (ci := 14) (v := .ref aB) (C := RX12) (T := TX12) (N := 23) hx hb hts kc_looks_0 hown hK hP 0 rfl rfl 9 (by decide) (hts (.fieldLink RX12 18 "MistHeapsModel" "by" "[I") kc_looks_1) (fun _ h9 => h9) rfl dX12_looks_8 ?_
    refine lv_iconst (v := 1) hx hb dX12_looks_11 (by decide) ?_
    refine lv_iload_n hx hb dX12_looks_12 rfl (lv_at hl 2 rfl) ?_
    refine va_iast hx hb hK hP hD hS 2 1 rfl rfl (vp_in_nI (n := 1) (N := 6) (by omega) (by omega)) dX12_looks_13 (fun H locs hP hD hS => ?_)
    have hP : va_P (dC, dI) vwCl [(zo14irriiiiiirriirrrrlriiii m0 th aS aI im ac sp en wg op aB aT se dn aG aO aN aD bv aY rn kd nu tv), (zaI aS cS 901 fS), (zaI aB cB 6 (upd (upd fB 0 x) 1 y)), (zaI aT cT 64 fT)] H := hP
    have hD : va_D A [(zo14irriiiiiirriirrrrlriiii m0 th aS aI im ac sp en wg op aB aT se dn aG aO aN aD bv aY rn kd nu tv), (zaI aS cS 901 fS), (zaI aB cB 6 (upd (upd fB 0 x) 1 y)), (zaI aT cT 64 fT)] := hD
    refine lv_aload_n hx hb dX12_looks_14 rfl (lv_at hl 0 rfl) ?_
    refine va_get (D := (dC, dI)) (ci := 14) (v := .ref aB) (C := RX12) (T := TX12) (N := 23) hx hb hts kc_looks_0 hown hK hP 0 rfl rfl 9 (by decide) (hts (.fieldLink RX12 18 "MistHeapsModel" "by" "[I") kc_looks_1) (fun _ h9 => h9) rfl dX12_looks_15 ?_
    refine lv_iconst (v := 2) hx hb dX12_looks_18 (by decide) ?_
    refine lv_iload_n hx hb dX12_looks_19 rfl (lv_at hl 3 rfl) ?_
    refine lv_bipush (v := 6) hx hb dX12_looks_20 (by decide) ?_
    refine lv_idiv hx hb dX12_looks_22 (by decide) ?_
    refine va_iast hx hb hK hP hD hS 2 1 rfl rfl (vp_in_nI (n := 2) (N := 6) (by omega) (by omega)) dX12_looks_23 (fun H locs hP hD hS => ?_)
    have hP : va_P (dC, dI) vwCl [(zo14irriiiiiirriirrrrlriiii m0 th aS aI im ac sp en wg op aB aT se dn aG aO aN aD bv aY rn kd nu tv), (zaI aS cS 901 fS), (zaI aB cB 6 (upd (upd (upd fB 0 x) 1 y) 2 (z / 6))), (zaI aT cT 64 fT)] H := hP
    have hD : va_D A [(zo14irriiiiiirriirrrrlriiii m0 th aS aI im ac sp en wg op aB aT se dn aG aO aN aD bv aY rn kd nu tv), (zaI aS cS 901 fS), (zaI aB cB 6 (upd (upd (upd fB 0 x) 1 y) 2 (z / 6))), (zaI aT cT 64 fT)] := hD
    refine lv_aload_n hx hb dX12_looks_24 rfl (lv_at hl 0 rfl) ?_
    refine va_get (D := (dC, dI)) (ci := 14) (v := .ref aB) (C := RX12) (T := TX12) (N := 23) hx hb hts kc_looks_0 hown hK hP 0 rfl rfl 9 (by decide) (hts (.fieldLink RX12 18 "MistHeapsModel" "by" "[I") kc_looks_1) (fun _ h9 => h9) rfl dX12_looks_25 ?_
    refine lv_iconst (v := 3) hx hb dX12_looks_28 (by decide) ?_
    refine lv_iload_n hx hb dX12_looks_29 rfl (lv_at hl 3 rfl) ?_
    refine lv_bipush (v := 6) hx hb dX12_looks_30 (by decide) ?_
    refine lv_irem hx hb dX12_looks_32 (by decide) ?_
    refine va_iast hx hb hK hP hD hS 2 1 rfl rfl (vp_in_nI (n := 3) (N := 6) (by omega) (by omega)) dX12_looks_33 (fun H locs hP hD hS => ?_)
    have hP : va_P (dC, dI) vwCl [(zo14irriiiiiirriirrrrlriiii m0 th aS aI im ac sp en wg op aB aT se dn aG aO aN aD bv aY rn kd nu tv), (zaI aS cS 901 fS), (zaI aB cB 6 (upd (upd (upd (upd fB 0 x) 1 y) 2 (z / 6)) 3 (z - z / 6 * 6))), (zaI aT cT 64 fT)] H := hP
    have hD : va_D A [(zo14irriiiiiirriirrrrlriiii m0 th aS aI im ac sp en wg op aB aT se dn aG aO aN aD bv aY rn kd nu tv), (zaI aS cS 901 fS), (zaI aB cB 6 (upd (upd (upd (upd fB 0 x) 1 y) 2 (z / 6)) 3 (z - z / 6 * 6))), (zaI aT cT 64 fT)] := hD
    refine lv_aload_n hx hb dX12_looks_34 rfl (lv_at hl 0 rfl) ?_
    refine va_get (D := (dC, dI)) (ci := 14) (v := .ref aB) (C := RX12) (T := TX12) (N := 23) hx hb hts kc_looks_0 hown hK hP 0 rfl rfl 9 (by decide) (hts (.fieldLink RX12 18 "MistHeapsModel" "by" "[I") kc_looks_1) (fun _ h9 => h9) rfl dX12_looks_35 ?_
    refine lv_iconst (v := 4) hx hb dX12_looks_38 (by decide) ?_
    refine lv_aload_n hx hb dX12_looks_39 rfl (lv_at hl 0 rfl) ?_
    refine va_get (D := (dC, dI)) (ci := 14) (v := .ref aS) (C := RX12) (T := TX12) (N := 23) hx hb hts kc_looks_0 hown hK hP 0 rfl rfl 1 (by decide) (hts (.fieldLink RX12 9 "MistHeapsModel" "s" "[I") kc_looks_2) (fun _ h9 => h9) rfl dX12_looks_40 ?_
    refine lv_bipush (v := 6) hx hb dX12_looks_43 (by decide) ?_
    refine va_iald hx hb hK hP 1 0 rfl rfl (vp_in_nI (n := 6) (N := 901) (by omega) (by omega)) dX12_looks_45 ?_
    refine qi_as (y := fS 6) (rfl) ?_
    refine va_iast hx hb hK hP hD hS 2 1 rfl rfl (vp_in_nI (n := 4) (N := 6) (by omega) (by omega)) dX12_looks_46 (fun H locs hP hD hS => ?_)
    have hP : va_P (dC, dI) vwCl [(zo14irriiiiiirriirrrrlriiii m0 th aS aI im ac sp en wg op aB aT se dn aG aO aN aD bv aY rn kd nu tv), (zaI aS cS 901 fS), (zaI aB cB 6 (upd (upd (upd (upd (upd fB 0 x) 1 y) 2 (z / 6)) 3 (z - z / 6 * 6)) 4 (fS 6))), (zaI aT cT 64 fT)] H := hP
    have hD : va_D A [(zo14irriiiiiirriirrrrlriiii m0 th aS aI im ac sp en wg op aB aT se dn aG aO aN aD bv aY rn kd nu tv), (zaI aS cS 901 fS), (zaI aB cB 6 (upd (upd (upd (upd (upd fB 0 x) 1 y) 2 (z / 6)) 3 (z - z / 6 * 6)) 4 (fS 6))), (zaI aT cT 64 fT)] := hD
    refine lv_aload_n hx hb dX12_looks_47 rfl (lv_at hl 0 rfl) ?_
    refine va_get (D := (dC, dI)) (ci := 14) (v := .ref aB) (C := RX12) (T := TX12) (N := 23) hx hb hts kc_looks_0 hown hK hP 0 rfl rfl 9 (by decide) (hts (.fieldLink RX12 18 "MistHeapsModel" "by" "[I") kc_looks_1) (fun _ h9 => h9) rfl dX12_looks_48 ?_
    refine lv_iconst (v := 5) hx hb dX12_looks_51 (by decide) ?_
    refine lv_aload_n hx hb dX12_looks_52 rfl (lv_at hl 0 rfl) ?_
    refine va_get (D := (dC, dI)) (ci := 14) (v := .ref aS) (C := RX12) (T := TX12) (N := 23) hx hb hts kc_looks_0 hown hK hP 0 rfl rfl 1 (by decide) (hts (.fieldLink RX12 9 "MistHeapsModel" "s" "[I") kc_looks_2) (fun _ h9 => h9) rfl dX12_looks_53 ?_
    refine lv_bipush (v := 7) hx hb dX12_looks_56 (by decide) ?_
    refine va_iald hx hb hK hP 1 0 rfl rfl (vp_in_nI (n := 7) (N := 901) (by omega) (by omega)) dX12_looks_58 ?_
    refine qi_as (y := fS 7) (rfl) ?_
    refine va_iast hx hb hK hP hD hS 2 1 rfl rfl (vp_in_nI (n := 5) (N := 6) (by omega) (by omega)) dX12_looks_59 (fun H locs hP hD hS => ?_)
    have hP : va_P (dC, dI) vwCl [(zo14irriiiiiirriirrrrlriiii m0 th aS aI im ac sp en wg op aB aT se dn aG aO aN aD bv aY rn kd nu tv), (zaI aS cS 901 fS), (zaI aB cB 6 (upd (upd (upd (upd (upd (upd fB 0 x) 1 y) 2 (z / 6)) 3 (z - z / 6 * 6)) 4 (fS 6)) 5 (fS 7))), (zaI aT cT 64 fT)] H := hP
    have hD : va_D A [(zo14irriiiiiirriirrrrlriiii m0 th aS aI im ac sp en wg op aB aT se dn aG aO aN aD bv aY rn kd nu tv), (zaI aS cS 901 fS), (zaI aB cB 6 (upd (upd (upd (upd (upd (upd fB 0 x) 1 y) 2 (z / 6)) 3 (z - z / 6 * 6)) 4 (fS 6)) 5 (fS 7))), (zaI aT cT 64 fT)] := hD
    obtain ⟨fB3, eB3⟩ : ∃ g : Nat → Int32, g = upd (upd (upd (upd (upd (upd fB 0 x) 1 y) 2 (z / 6)) 3 (z - z / 6 * 6)) 4 (fS 6)) 5 (fS 7) := ⟨_, rfl⟩
    have hfB : ∀ j, j < 6 → fB3 j = fct x y z (fS 6) (fS 7) j := fun j hj => by rw [eB3]; exact fct_of j hj
    rw [show upd (upd (upd (upd (upd (upd fB 0 x) 1 y) 2 (z / 6)) 3 (z - z / 6 * 6)) 4 (fS 6)) 5 (fS 7) = fB3 from eB3.symm] at hP hD
    have hP : va_P (dC, dI) vwCl [(zo14irriiiiiirriirrrrlriiii m0 th aS aI im ac sp en wg op aB aT se dn aG aO aN aD bv aY rn kd nu tv), (zaI aS cS 901 fS), (zaI aB cB 6 fB3), (zaI aT cT 64 fT)] H := hP
    have hD : va_D A [(zo14irriiiiiirriirrrrlriiii m0 th aS aI im ac sp en wg op aB aT se dn aG aO aN aD bv aY rn kd nu tv), (zaI aS cS 901 fS), (zaI aB cB 6 fB3), (zaI aT cT 64 fT)] := hD
    refine lv_aload_n hx hb dX12_looks_60 rfl (lv_at hl 0 rfl) ?_
    refine lv_iconst (v := 0) hx hb dX12_looks_61 (by decide) ?_
    refine va_put (D := (dC, dI)) (ci := 14) (v := .int 0) (ty := .int) (C := RX12) (T := TX12) (N := 23) hx hb hts kc_looks_0 tyX12 tyX12_ok nmX12 hown hK hP hD hS 0 rfl rfl 11 (by decide) (hts (.fieldLink RX12 143 "MistHeapsModel" "seeing" "I") kc_looks_3) (fun _ h9 => h9) rfl (by decide +kernel) rfl rfl (Nat.le_of_ble_eq_true rfl) dX12_looks_62 (fun H locs hP hD hS => ?_)
    have hP : va_P (dC, dI) vwCl [(zo14irriiiiiirriirrrrlriiii m0 th aS aI im ac sp en wg op aB aT 0 dn aG aO aN aD bv aY rn kd nu tv), (zaI aS cS 901 fS), (zaI aB cB 6 fB3), (zaI aT cT 64 fT)] H := hP
    have hD : va_D A [(zo14irriiiiiirriirrrrlriiii m0 th aS aI im ac sp en wg op aB aT 0 dn aG aO aN aD bv aY rn kd nu tv), (zaI aS cS 901 fS), (zaI aB cB 6 fB3), (zaI aT cT 64 fT)] := hD
    refine lv_aload_n hx hb dX12_looks_65 rfl (lv_at hl 0 rfl) ?_
    refine lv_iconst (v := 0) hx hb dX12_looks_66 (by decide) ?_
    refine va_put (D := (dC, dI)) (ci := 14) (v := .int 0) (ty := .int) (C := RX12) (T := TX12) (N := 23) hx hb hts kc_looks_0 tyX12 tyX12_ok nmX12 hown hK hP hD hS 0 rfl rfl 12 (by decide) (hts (.fieldLink RX12 146 "MistHeapsModel" "drifting" "I") kc_looks_4) (fun _ h9 => h9) rfl (by decide +kernel) rfl rfl (Nat.le_of_ble_eq_true rfl) dX12_looks_67 (fun H locs hP hD hS => ?_)
    have hP : va_P (dC, dI) vwCl [(zo14irriiiiiirriirrrrlriiii m0 th aS aI im ac sp en wg op aB aT 0 0 aG aO aN aD bv aY rn kd nu tv), (zaI aS cS 901 fS), (zaI aB cB 6 fB3), (zaI aT cT 64 fT)] H := hP
    have hD : va_D A [(zo14irriiiiiirriirrrrlriiii m0 th aS aI im ac sp en wg op aB aT 0 0 aG aO aN aD bv aY rn kd nu tv), (zaI aS cS 901 fS), (zaI aB cB 6 fB3), (zaI aT cT 64 fT)] := hD
    refine lv_aload_n hx hb dX12_looks_70 rfl (lv_at hl 0 rfl) ?_
    refine va_get (D := (dC, dI)) (ci := 14) (v := .ref aS) (C := RX12) (T := TX12) (N := 23) hx hb hts kc_looks_0 hown hK hP 0 rfl rfl 1 (by decide) (hts (.fieldLink RX12 9 "MistHeapsModel" "s" "[I") kc_looks_2) (fun _ h9 => h9) rfl dX12_looks_71 ?_
    refine lv_iconst (v := 5) hx hb dX12_looks_74 (by decide) ?_
    refine va_iald hx hb hK hP 1 0 rfl rfl (vp_in_nI (n := 5) (N := 901) (by omega) (by omega)) dX12_looks_75 ?_
    refine qi_as (y := (-1)) ((show fS (5 : Int32).toNatClampNeg = fS 5 from rfl).trans (zh)) ?_
    refine lv_iconst (v := (-1)) hx hb dX12_looks_76 (by decide) ?_
    refine lv_icmp_ne (tgt := 84) hx hb dX12_looks_77 (by decide) (fun c_1 => absurd c_1 (by decide)) (fun _ => ?_)
    refine lv_iconst (v := 0) hx hb dX12_looks_80 (by decide) ?_
    refine lv_goto (tgt := 99) hx hb dX12_looks_81 (by decide) ?_
    refine lv_istore (lv' := [(4, .int 0), (0, .ref m0), (1, .int x), (2, .int y), (3, .int z)]) hx hb dX12_looks_99 hl (by decide) rfl (fun ls hl => ?_)
    refine lv_sipush (v := 201) hx hb dX12_looks_101 (by decide) ?_
    refine lv_sipush (v := 140) hx hb dX12_looks_104 (by decide) ?_
    refine lv_aload_n hx hb dX12_looks_107 rfl (lv_at hl 1 rfl) ?_
    refine va_get (D := (dC, dI)) (ci := 14) (v := .ref aS) (C := RX12) (T := TX12) (N := 23) hx hb hts kc_looks_0 hown hK hP 0 rfl rfl 1 (by decide) (hts (.fieldLink RX12 9 "MistHeapsModel" "s" "[I") kc_looks_2) (fun _ h9 => h9) rfl dX12_looks_108 ?_
    refine lv_iconst (v := 5) hx hb dX12_looks_111 (by decide) ?_
    refine va_iald hx hb hK hP 1 0 rfl rfl (vp_in_nI (n := 5) (N := 901) (by omega) (by omega)) dX12_looks_112 ?_
    refine qi_as (y := (-1)) ((show fS (5 : Int32).toNatClampNeg = fS 5 from rfl).trans (zh)) ?_
    refine lv_imul hx hb dX12_looks_113 ?_
    refine qi_as (y := (-140)) (by decide) ?_
    refine lv_iadd hx hb dX12_looks_114 ?_
    refine qi_as (y := 61) (by decide) ?_
    refine lv_istore (lv' := [(5, .int 61), (4, .int 0), (0, .ref m0), (1, .int x), (2, .int y), (3, .int z)]) hx hb dX12_looks_115 hl (by decide) rfl (fun ls hl => ?_)
    refine lv_iconst (v := 0) hx hb dX12_looks_117 (by decide) ?_
    refine lv_istore (lv' := [(6, .int 0), (5, .int 61), (4, .int 0), (0, .ref m0), (1, .int x), (2, .int y), (3, .int z)]) hx hb dX12_looks_118 hl (by decide) rfl (fun ls hl => ?_)
    refine lv_iload hx hb dX12_looks_120 (lv_at hl 1 rfl) ?_
    refine lv_istore (lv' := [(7, .int 61), (6, .int 0), (5, .int 61), (4, .int 0), (0, .ref m0), (1, .int x), (2, .int y), (3, .int z)]) hx hb dX12_looks_122 hl (by decide) rfl (fun ls hl => ?_)
    refine lv_iload hx hb dX12_looks_124 (lv_at hl 0 rfl) ?_
    refine lv_iload hx hb dX12_looks_126 (lv_at hl 2 rfl) ?_
    refine lv_iload hx hb dX12_looks_128 (lv_at hl 3 rfl) ?_
    refine lv_iadd hx hb dX12_looks_130 ?_
    refine qi_as (y := 61) (by decide) ?_
    refine lv_icmp_ge (tgt := 460) hx hb dX12_looks_131 (by decide) (fun _ => ?_) (fun c_2 => absurd c_2 (by decide))
    rw [hQ]
    have hP9 := hP.sub (ws' := [(zo14irriiiiiirriirrrrlriiii m0 th aS aI im ac sp en wg op aB aT 0 0 aG aO aN aD bv aY rn kd nu tv), (zaI aS cS 901 fS), (zaI aB cB 6 fB3), (zaI aT cT 64 fT)]) [0, 1, 2, 3] rfl
    have hD9 := hD.sub (ws' := [(zo14irriiiiiirriirrrrlriiii m0 th aS aI im ac sp en wg op aB aT 0 0 aG aO aN aD bv aY rn kd nu tv), (zaI aS cS 901 fS), (zaI aB cB 6 fB3), (zaI aT cT 64 fT)]) [0, 1, 2, 3] (by decide) rfl
    have hK9 := hK.sub (tys' := [(cS, .int), (cB, .int), (cT, .boolean)]) [0, 1, 2] rfl
    exact W.vret hx hb hr (fun tQ htQ hWQ => ⟨⟨(fB3, fT, 0, 0), rfl, ⟨rfl, rfl⟩, by rw [htQ]; exact hP9, va_K.moved hWQ.alike hK9, hD9⟩, hS.F htQ⟩) hS.2.2 dX12_looks_460
  · skip
    have ek : k = (flC cz).length := (nI_eq (by omega) (by have := hcd.2.2.1; omega)).mp (zk.symm.trans hcd.1)
    refine lv_aload_n hx hb dX12_looks_0 rfl (lv_at hl 0 rfl) ?_
    refine va_get (D := (dC, dI)) (ci := 14) (v := .ref aB) (C := RX12) (T := TX12) (N := 23) hx hb hts kc_looks_0 hown hK hP 0 rfl rfl 9 (by decide) (hts (.fieldLink RX12 18 "MistHeapsModel" "by" "[I") kc_looks_1) (fun _ h9 => h9) rfl dX12_looks_1 ?_
    refine lv_iconst (v := 0) hx hb dX12_looks_4 (by decide) ?_
    refine lv_iload_n hx hb dX12_looks_5 rfl (lv_at hl 1 rfl) ?_
    refine va_iast hx hb hK hP hD hS 2 1 rfl rfl (vp_in_nI (n := 0) (N := 6) (by omega) (by omega)) dX12_looks_6 (fun H locs hP hD hS => ?_)
    have hP : va_P (dC, dI) vwCl [(zo14irriiiiiirriirrrrlriiii m0 th aS aI im ac sp en wg op aB aT se dn aG aO aN aD bv aY rn kd nu tv), (zaI aS cS 901 fS), (zaI aB cB 6 (upd fB 0 x)), (zaI aT cT 64 fT)] H := hP
    have hD : va_D A [(zo14irriiiiiirriirrrrlriiii m0 th aS aI im ac sp en wg op aB aT se dn aG aO aN aD bv aY rn kd nu tv), (zaI aS cS 901 fS), (zaI aB cB 6 (upd fB 0 x)), (zaI aT cT 64 fT)] := hD
    refine lv_aload_n hx hb dX12_looks_7 rfl (lv_at hl 0 rfl) ?_
    refine va_get (D := (dC, dI)) (ci := 14) (v := .ref aB) (C := RX12) (T := TX12) (N := 23) hx hb hts kc_looks_0 hown hK hP 0 rfl rfl 9 (by decide) (hts (.fieldLink RX12 18 "MistHeapsModel" "by" "[I") kc_looks_1) (fun _ h9 => h9) rfl dX12_looks_8 ?_
    refine lv_iconst (v := 1) hx hb dX12_looks_11 (by decide) ?_
    refine lv_iload_n hx hb dX12_looks_12 rfl (lv_at hl 2 rfl) ?_
    refine va_iast hx hb hK hP hD hS 2 1 rfl rfl (vp_in_nI (n := 1) (N := 6) (by omega) (by omega)) dX12_looks_13 (fun H locs hP hD hS => ?_)
    have hP : va_P (dC, dI) vwCl [(zo14irriiiiiirriirrrrlriiii m0 th aS aI im ac sp en wg op aB aT se dn aG aO aN aD bv aY rn kd nu tv), (zaI aS cS 901 fS), (zaI aB cB 6 (upd (upd fB 0 x) 1 y)), (zaI aT cT 64 fT)] H := hP
    have hD : va_D A [(zo14irriiiiiirriirrrrlriiii m0 th aS aI im ac sp en wg op aB aT se dn aG aO aN aD bv aY rn kd nu tv), (zaI aS cS 901 fS), (zaI aB cB 6 (upd (upd fB 0 x) 1 y)), (zaI aT cT 64 fT)] := hD
    refine lv_aload_n hx hb dX12_looks_14 rfl (lv_at hl 0 rfl) ?_
    refine va_get (D := (dC, dI)) (ci := 14) (v := .ref aB) (C := RX12) (T := TX12) (N := 23) hx hb hts kc_looks_0 hown hK hP 0 rfl rfl 9 (by decide) (hts (.fieldLink RX12 18 "MistHeapsModel" "by" "[I") kc_looks_1) (fun _ h9 => h9) rfl dX12_looks_15 ?_
    refine lv_iconst (v := 2) hx hb dX12_looks_18 (by decide) ?_
    refine lv_iload_n hx hb dX12_looks_19 rfl (lv_at hl 3 rfl) ?_
    refine lv_bipush (v := 6) hx hb dX12_looks_20 (by decide) ?_
    refine lv_idiv hx hb dX12_looks_22 (by decide) ?_
    refine va_iast hx hb hK hP hD hS 2 1 rfl rfl (vp_in_nI (n := 2) (N := 6) (by omega) (by omega)) dX12_looks_23 (fun H locs hP hD hS => ?_)
    have hP : va_P (dC, dI) vwCl [(zo14irriiiiiirriirrrrlriiii m0 th aS aI im ac sp en wg op aB aT se dn aG aO aN aD bv aY rn kd nu tv), (zaI aS cS 901 fS), (zaI aB cB 6 (upd (upd (upd fB 0 x) 1 y) 2 (z / 6))), (zaI aT cT 64 fT)] H := hP
    have hD : va_D A [(zo14irriiiiiirriirrrrlriiii m0 th aS aI im ac sp en wg op aB aT se dn aG aO aN aD bv aY rn kd nu tv), (zaI aS cS 901 fS), (zaI aB cB 6 (upd (upd (upd fB 0 x) 1 y) 2 (z / 6))), (zaI aT cT 64 fT)] := hD
    refine lv_aload_n hx hb dX12_looks_24 rfl (lv_at hl 0 rfl) ?_
    refine va_get (D := (dC, dI)) (ci := 14) (v := .ref aB) (C := RX12) (T := TX12) (N := 23) hx hb hts kc_looks_0 hown hK hP 0 rfl rfl 9 (by decide) (hts (.fieldLink RX12 18 "MistHeapsModel" "by" "[I") kc_looks_1) (fun _ h9 => h9) rfl dX12_looks_25 ?_
    refine lv_iconst (v := 3) hx hb dX12_looks_28 (by decide) ?_
    refine lv_iload_n hx hb dX12_looks_29 rfl (lv_at hl 3 rfl) ?_
    refine lv_bipush (v := 6) hx hb dX12_looks_30 (by decide) ?_
    refine lv_irem hx hb dX12_looks_32 (by decide) ?_
    refine va_iast hx hb hK hP hD hS 2 1 rfl rfl (vp_in_nI (n := 3) (N := 6) (by omega) (by omega)) dX12_looks_33 (fun H locs hP hD hS => ?_)
    have hP : va_P (dC, dI) vwCl [(zo14irriiiiiirriirrrrlriiii m0 th aS aI im ac sp en wg op aB aT se dn aG aO aN aD bv aY rn kd nu tv), (zaI aS cS 901 fS), (zaI aB cB 6 (upd (upd (upd (upd fB 0 x) 1 y) 2 (z / 6)) 3 (z - z / 6 * 6))), (zaI aT cT 64 fT)] H := hP
    have hD : va_D A [(zo14irriiiiiirriirrrrlriiii m0 th aS aI im ac sp en wg op aB aT se dn aG aO aN aD bv aY rn kd nu tv), (zaI aS cS 901 fS), (zaI aB cB 6 (upd (upd (upd (upd fB 0 x) 1 y) 2 (z / 6)) 3 (z - z / 6 * 6))), (zaI aT cT 64 fT)] := hD
    refine lv_aload_n hx hb dX12_looks_34 rfl (lv_at hl 0 rfl) ?_
    refine va_get (D := (dC, dI)) (ci := 14) (v := .ref aB) (C := RX12) (T := TX12) (N := 23) hx hb hts kc_looks_0 hown hK hP 0 rfl rfl 9 (by decide) (hts (.fieldLink RX12 18 "MistHeapsModel" "by" "[I") kc_looks_1) (fun _ h9 => h9) rfl dX12_looks_35 ?_
    refine lv_iconst (v := 4) hx hb dX12_looks_38 (by decide) ?_
    refine lv_aload_n hx hb dX12_looks_39 rfl (lv_at hl 0 rfl) ?_
    refine va_get (D := (dC, dI)) (ci := 14) (v := .ref aS) (C := RX12) (T := TX12) (N := 23) hx hb hts kc_looks_0 hown hK hP 0 rfl rfl 1 (by decide) (hts (.fieldLink RX12 9 "MistHeapsModel" "s" "[I") kc_looks_2) (fun _ h9 => h9) rfl dX12_looks_40 ?_
    refine lv_bipush (v := 6) hx hb dX12_looks_43 (by decide) ?_
    refine va_iald hx hb hK hP 1 0 rfl rfl (vp_in_nI (n := 6) (N := 901) (by omega) (by omega)) dX12_looks_45 ?_
    refine qi_as (y := fS 6) (rfl) ?_
    refine va_iast hx hb hK hP hD hS 2 1 rfl rfl (vp_in_nI (n := 4) (N := 6) (by omega) (by omega)) dX12_looks_46 (fun H locs hP hD hS => ?_)
    have hP : va_P (dC, dI) vwCl [(zo14irriiiiiirriirrrrlriiii m0 th aS aI im ac sp en wg op aB aT se dn aG aO aN aD bv aY rn kd nu tv), (zaI aS cS 901 fS), (zaI aB cB 6 (upd (upd (upd (upd (upd fB 0 x) 1 y) 2 (z / 6)) 3 (z - z / 6 * 6)) 4 (fS 6))), (zaI aT cT 64 fT)] H := hP
    have hD : va_D A [(zo14irriiiiiirriirrrrlriiii m0 th aS aI im ac sp en wg op aB aT se dn aG aO aN aD bv aY rn kd nu tv), (zaI aS cS 901 fS), (zaI aB cB 6 (upd (upd (upd (upd (upd fB 0 x) 1 y) 2 (z / 6)) 3 (z - z / 6 * 6)) 4 (fS 6))), (zaI aT cT 64 fT)] := hD
    refine lv_aload_n hx hb dX12_looks_47 rfl (lv_at hl 0 rfl) ?_
    refine va_get (D := (dC, dI)) (ci := 14) (v := .ref aB) (C := RX12) (T := TX12) (N := 23) hx hb hts kc_looks_0 hown hK hP 0 rfl rfl 9 (by decide) (hts (.fieldLink RX12 18 "MistHeapsModel" "by" "[I") kc_looks_1) (fun _ h9 => h9) rfl dX12_looks_48 ?_
    refine lv_iconst (v := 5) hx hb dX12_looks_51 (by decide) ?_
    refine lv_aload_n hx hb dX12_looks_52 rfl (lv_at hl 0 rfl) ?_
    refine va_get (D := (dC, dI)) (ci := 14) (v := .ref aS) (C := RX12) (T := TX12) (N := 23) hx hb hts kc_looks_0 hown hK hP 0 rfl rfl 1 (by decide) (hts (.fieldLink RX12 9 "MistHeapsModel" "s" "[I") kc_looks_2) (fun _ h9 => h9) rfl dX12_looks_53 ?_
    refine lv_bipush (v := 7) hx hb dX12_looks_56 (by decide) ?_
    refine va_iald hx hb hK hP 1 0 rfl rfl (vp_in_nI (n := 7) (N := 901) (by omega) (by omega)) dX12_looks_58 ?_
    refine qi_as (y := fS 7) (rfl) ?_
    refine va_iast hx hb hK hP hD hS 2 1 rfl rfl (vp_in_nI (n := 5) (N := 6) (by omega) (by omega)) dX12_looks_59 (fun H locs hP hD hS => ?_)
    have hP : va_P (dC, dI) vwCl [(zo14irriiiiiirriirrrrlriiii m0 th aS aI im ac sp en wg op aB aT se dn aG aO aN aD bv aY rn kd nu tv), (zaI aS cS 901 fS), (zaI aB cB 6 (upd (upd (upd (upd (upd (upd fB 0 x) 1 y) 2 (z / 6)) 3 (z - z / 6 * 6)) 4 (fS 6)) 5 (fS 7))), (zaI aT cT 64 fT)] H := hP
    have hD : va_D A [(zo14irriiiiiirriirrrrlriiii m0 th aS aI im ac sp en wg op aB aT se dn aG aO aN aD bv aY rn kd nu tv), (zaI aS cS 901 fS), (zaI aB cB 6 (upd (upd (upd (upd (upd (upd fB 0 x) 1 y) 2 (z / 6)) 3 (z - z / 6 * 6)) 4 (fS 6)) 5 (fS 7))), (zaI aT cT 64 fT)] := hD
    obtain ⟨fB3, eB3⟩ : ∃ g : Nat → Int32, g = upd (upd (upd (upd (upd (upd fB 0 x) 1 y) 2 (z / 6)) 3 (z - z / 6 * 6)) 4 (fS 6)) 5 (fS 7) := ⟨_, rfl⟩
    have hfB : ∀ j, j < 6 → fB3 j = fct x y z (fS 6) (fS 7) j := fun j hj => by rw [eB3]; exact fct_of j hj
    rw [show upd (upd (upd (upd (upd (upd fB 0 x) 1 y) 2 (z / 6)) 3 (z - z / 6 * 6)) 4 (fS 6)) 5 (fS 7) = fB3 from eB3.symm] at hP hD
    have hP : va_P (dC, dI) vwCl [(zo14irriiiiiirriirrrrlriiii m0 th aS aI im ac sp en wg op aB aT se dn aG aO aN aD bv aY rn kd nu tv), (zaI aS cS 901 fS), (zaI aB cB 6 fB3), (zaI aT cT 64 fT)] H := hP
    have hD : va_D A [(zo14irriiiiiirriirrrrlriiii m0 th aS aI im ac sp en wg op aB aT se dn aG aO aN aD bv aY rn kd nu tv), (zaI aS cS 901 fS), (zaI aB cB 6 fB3), (zaI aT cT 64 fT)] := hD
    refine lv_aload_n hx hb dX12_looks_60 rfl (lv_at hl 0 rfl) ?_
    refine lv_iconst (v := 0) hx hb dX12_looks_61 (by decide) ?_
    refine va_put (D := (dC, dI)) (ci := 14) (v := .int 0) (ty := .int) (C := RX12) (T := TX12) (N := 23) hx hb hts kc_looks_0 tyX12 tyX12_ok nmX12 hown hK hP hD hS 0 rfl rfl 11 (by decide) (hts (.fieldLink RX12 143 "MistHeapsModel" "seeing" "I") kc_looks_3) (fun _ h9 => h9) rfl (by decide +kernel) rfl rfl (Nat.le_of_ble_eq_true rfl) dX12_looks_62 (fun H locs hP hD hS => ?_)
    have hP : va_P (dC, dI) vwCl [(zo14irriiiiiirriirrrrlriiii m0 th aS aI im ac sp en wg op aB aT 0 dn aG aO aN aD bv aY rn kd nu tv), (zaI aS cS 901 fS), (zaI aB cB 6 fB3), (zaI aT cT 64 fT)] H := hP
    have hD : va_D A [(zo14irriiiiiirriirrrrlriiii m0 th aS aI im ac sp en wg op aB aT 0 dn aG aO aN aD bv aY rn kd nu tv), (zaI aS cS 901 fS), (zaI aB cB 6 fB3), (zaI aT cT 64 fT)] := hD
    refine lv_aload_n hx hb dX12_looks_65 rfl (lv_at hl 0 rfl) ?_
    refine lv_iconst (v := 0) hx hb dX12_looks_66 (by decide) ?_
    refine va_put (D := (dC, dI)) (ci := 14) (v := .int 0) (ty := .int) (C := RX12) (T := TX12) (N := 23) hx hb hts kc_looks_0 tyX12 tyX12_ok nmX12 hown hK hP hD hS 0 rfl rfl 12 (by decide) (hts (.fieldLink RX12 146 "MistHeapsModel" "drifting" "I") kc_looks_4) (fun _ h9 => h9) rfl (by decide +kernel) rfl rfl (Nat.le_of_ble_eq_true rfl) dX12_looks_67 (fun H locs hP hD hS => ?_)
    have hP : va_P (dC, dI) vwCl [(zo14irriiiiiirriirrrrlriiii m0 th aS aI im ac sp en wg op aB aT 0 0 aG aO aN aD bv aY rn kd nu tv), (zaI aS cS 901 fS), (zaI aB cB 6 fB3), (zaI aT cT 64 fT)] H := hP
    have hD : va_D A [(zo14irriiiiiirriirrrrlriiii m0 th aS aI im ac sp en wg op aB aT 0 0 aG aO aN aD bv aY rn kd nu tv), (zaI aS cS 901 fS), (zaI aB cB 6 fB3), (zaI aT cT 64 fT)] := hD
    refine lv_aload_n hx hb dX12_looks_70 rfl (lv_at hl 0 rfl) ?_
    refine va_get (D := (dC, dI)) (ci := 14) (v := .ref aS) (C := RX12) (T := TX12) (N := 23) hx hb hts kc_looks_0 hown hK hP 0 rfl rfl 1 (by decide) (hts (.fieldLink RX12 9 "MistHeapsModel" "s" "[I") kc_looks_2) (fun _ h9 => h9) rfl dX12_looks_71 ?_
    refine lv_iconst (v := 5) hx hb dX12_looks_74 (by decide) ?_
    refine va_iald hx hb hK hP 1 0 rfl rfl (vp_in_nI (n := 5) (N := 901) (by omega) (by omega)) dX12_looks_75 ?_
    refine qi_as (y := nI h) ((show fS (5 : Int32).toNatClampNeg = fS 5 from rfl).trans (zh)) ?_
    refine lv_iconst (v := (-1)) hx hb dX12_looks_76 (by decide) ?_
    refine lv_icmp_ne (tgt := 84) hx hb dX12_looks_77 (by decide) (fun c_3 => ?_) (fun c_3 => absurd c_3 (nI_nm1 (by omega)))
    refine lv_aload_n hx hb dX12_looks_84 rfl (lv_at hl 0 rfl) ?_
    refine va_get (D := (dC, dI)) (ci := 14) (v := .ref aS) (C := RX12) (T := TX12) (N := 23) hx hb hts kc_looks_0 hown hK hP 0 rfl rfl 1 (by decide) (hts (.fieldLink RX12 9 "MistHeapsModel" "s" "[I") kc_looks_2) (fun _ h9 => h9) rfl dX12_looks_85 ?_
    refine lv_sipush (v := 196) hx hb dX12_looks_88 (by decide) ?_
    refine lv_aload_n hx hb dX12_looks_91 rfl (lv_at hl 0 rfl) ?_
    refine va_get (D := (dC, dI)) (ci := 14) (v := .ref aS) (C := RX12) (T := TX12) (N := 23) hx hb hts kc_looks_0 hown hK hP 0 rfl rfl 1 (by decide) (hts (.fieldLink RX12 9 "MistHeapsModel" "s" "[I") kc_looks_2) (fun _ h9 => h9) rfl dX12_looks_92 ?_
    refine lv_iconst (v := 5) hx hb dX12_looks_95 (by decide) ?_
    refine va_iald hx hb hK hP 1 0 rfl rfl (vp_in_nI (n := 5) (N := 901) (by omega) (by omega)) dX12_looks_96 ?_
    refine qi_as (y := nI h) ((show fS (5 : Int32).toNatClampNeg = fS 5 from rfl).trans (zh)) ?_
    refine lv_iadd hx hb dX12_looks_97 ?_
    refine qi_as (y := nI (196 + h)) (nI_add 196 h) ?_
    refine va_iald hx hb hK hP 1 0 rfl rfl (vp_in_nI (n := 196 + h) (N := 901) (by omega) (by omega)) dX12_looks_98 ?_
    refine qi_as (y := nI k) ((show fS (nI (196 + h) : Int32).toNatClampNeg = fS (196 + h) from by rw [nI_clamp (by omega)]).trans (zk)) ?_
    refine lv_istore (lv' := [(4, .int (nI k)), (0, .ref m0), (1, .int x), (2, .int y), (3, .int z)]) hx hb dX12_looks_99 hl (by decide) rfl (fun ls hl => ?_)
    refine lv_sipush (v := 201) hx hb dX12_looks_101 (by decide) ?_
    refine lv_sipush (v := 140) hx hb dX12_looks_104 (by decide) ?_
    refine lv_aload_n hx hb dX12_looks_107 rfl (lv_at hl 1 rfl) ?_
    refine va_get (D := (dC, dI)) (ci := 14) (v := .ref aS) (C := RX12) (T := TX12) (N := 23) hx hb hts kc_looks_0 hown hK hP 0 rfl rfl 1 (by decide) (hts (.fieldLink RX12 9 "MistHeapsModel" "s" "[I") kc_looks_2) (fun _ h9 => h9) rfl dX12_looks_108 ?_
    refine lv_iconst (v := 5) hx hb dX12_looks_111 (by decide) ?_
    refine va_iald hx hb hK hP 1 0 rfl rfl (vp_in_nI (n := 5) (N := 901) (by omega) (by omega)) dX12_looks_112 ?_
    refine qi_as (y := nI h) ((show fS (5 : Int32).toNatClampNeg = fS 5 from rfl).trans (zh)) ?_
    refine lv_imul hx hb dX12_looks_113 ?_
    refine qi_as (y := nI (140 * h)) (pk_mul 140 h) ?_
    refine lv_iadd hx hb dX12_looks_114 ?_
    refine qi_as (y := nI (201 + (140 * h))) (nI_add 201 (140 * h)) ?_
    refine lv_istore (lv' := [(5, .int (nI (201 + (140 * h)))), (4, .int (nI k)), (0, .ref m0), (1, .int x), (2, .int y), (3, .int z)]) hx hb dX12_looks_115 hl (by decide) rfl (fun ls hl => ?_)
    refine lv_iconst (v := 0) hx hb dX12_looks_117 (by decide) ?_
    refine lv_istore (lv' := [(6, .int 0), (5, .int (nI (201 + (140 * h)))), (4, .int (nI k)), (0, .ref m0), (1, .int x), (2, .int y), (3, .int z)]) hx hb dX12_looks_118 hl (by decide) rfl (fun ls hl => ?_)
    refine lv_iload hx hb dX12_looks_120 (lv_at hl 1 rfl) ?_
    refine lv_istore (lv' := [(7, .int (nI (201 + (140 * h)))), (6, .int 0), (5, .int (nI (201 + (140 * h)))), (4, .int (nI k)), (0, .ref m0), (1, .int x), (2, .int y), (3, .int z)]) hx hb dX12_looks_122 hl (by decide) rfl (fun ls hl => ?_)
    have L124 : ∀ (nF : Nat) (i : Nat) (d : Nat) (se2 : Int32) (dn2 : Int32) (fT2 : Nat → Int32), k - i < nF → (i ≤ k) → (d ≤ 60) → (sdep (fun i => fS (201 + 140 * h + i)) i = some d) → (rrn fB3 ((0, tvOf fT), 0, 0) ((flC cz).take i) = ((d, tvOf fT2), se2, dn2)) → ∀ (H : Heap) (locs : List Loc), va_K (dC, dI) vwCl [(cS, .int), (cB, .int), (cT, .boolean)] s → va_P (dC, dI) vwCl [(zo14irriiiiiirriirrrrlriiii m0 th aS aI im ac sp en wg op aB aT se2 dn2 aG aO aN aD bv aY rn kd nu tv), (zaI aS cS 901 fS), (zaI aB cB 6 fB3), (zaI aT cT 64 fT2)] H → va_D A [(zo14irriiiiiirriirrrrlriiii m0 th aS aI im ac sp en wg op aB aT se2 dn2 aG aO aN aD bv aY rn kd nu tv), (zaI aS cS 901 fS), (zaI aB cB 6 fB3), (zaI aT cT 64 fT2)] → va_S A s.heap H locs → ∀ (ls : Array Slot), lv_has ls 12 [(0, .ref m0), (4, .int (nI k)), (5, .int (nI (201 + 140 * h))), (6, .int (nI d)), (7, .int (nI (201 + 140 * h + i)))] → W p l e ({ frames := 0, cells := 0, slots := 0, locals := 0 } : Room) s m args below meth c H locs 0 0 Q (F0 m 124 ls []) := by
      intro nF
      induction nF with
      | zero => intro i d se2 dn2 fT2 hm; exact absurd hm (Nat.not_lt_zero _)
      | succ nF ih124 =>
        intro i d se2 dn2 fT2 hm hi hd6 hd hR H locs hK hP hD hS ls hl
        refine lv_iload hx hb dX12_looks_124 (lv_at hl 4 rfl) ?_
        refine lv_iload hx hb dX12_looks_126 (lv_at hl 2 rfl) ?_
        refine lv_iload hx hb dX12_looks_128 (lv_at hl 1 rfl) ?_
        refine lv_iadd hx hb dX12_looks_130 ?_
        refine qi_as (y := nI ((201 + 140 * h) + k)) (nI_add (201 + 140 * h) k) ?_
        refine lv_icmp_ge (tgt := 460) hx hb dX12_looks_131 (by decide) (fun c_4 => ?_) (fun c_4 => ?_)
        · skip
          have c_4 : ((201 + 140 * h) + k) ≤ (201 + 140 * h + i) := (nI_leI (a := ((201 + 140 * h) + k)) (b := (201 + 140 * h + i)) (by omega) (by omega)).mp c_4
          rw [hQ]
          have hP9 := hP.sub (ws' := [(zo14irriiiiiirriirrrrlriiii m0 th aS aI im ac sp en wg op aB aT se2 dn2 aG aO aN aD bv aY rn kd nu tv), (zaI aS cS 901 fS), (zaI aB cB 6 fB3), (zaI aT cT 64 fT2)]) [0, 1, 2, 3] rfl
          have hD9 := hD.sub (ws' := [(zo14irriiiiiirriirrrrlriiii m0 th aS aI im ac sp en wg op aB aT se2 dn2 aG aO aN aD bv aY rn kd nu tv), (zaI aS cS 901 fS), (zaI aB cB 6 fB3), (zaI aT cT 64 fT2)]) [0, 1, 2, 3] (by decide) rfl
          have hK9 := hK.sub (tys' := [(cS, .int), (cB, .int), (cT, .boolean)]) [0, 1, 2] rfl
          exact W.vret hx hb hr (fun tQ htQ hWQ => ⟨⟨(fB3, fT2, se2, dn2), rfl, lk_end hwf hR (by omega) hfB, by rw [htQ]; exact hP9, va_K.moved hWQ.alike hK9, hD9⟩, hS.F htQ⟩) hS.2.2 dX12_looks_460
        · skip
          have c_4 : ¬ ((201 + 140 * h) + k) ≤ (201 + 140 * h + i) := fun q => c_4 ((nI_leI (a := ((201 + 140 * h) + k)) (b := (201 + 140 * h + i)) (by omega) (by omega)).mpr q)
          refine lv_aload_n hx hb dX12_looks_134 rfl (lv_at hl 0 rfl) ?_
          refine va_get (D := (dC, dI)) (ci := 14) (v := .ref aS) (C := RX12) (T := TX12) (N := 23) hx hb hts kc_looks_0 hown hK hP 0 rfl rfl 1 (by decide) (hts (.fieldLink RX12 9 "MistHeapsModel" "s" "[I") kc_looks_2) (fun _ h9 => h9) rfl dX12_looks_135 ?_
          refine lv_iload hx hb dX12_looks_138 (lv_at hl 4 rfl) ?_
          refine va_iald hx hb hK hP 1 0 rfl rfl (vp_in_nI (n := 201 + 140 * h + i) (N := 901) (by omega) (by omega)) dX12_looks_140 ?_
          obtain ⟨x0, ex⟩ : ∃ q : Int32, q = fS (201 + 140 * h + i) := ⟨_, rfl⟩
          obtain ⟨d2, hs2, hd2⟩ := sdep_step zo (show i < k by omega) hd
          have hs2 : stepd x0 d = some d2 := by rw [ex]; exact hs2
          obtain ⟨tk, etk⟩ : ∃ q : Nat, q = (flC cz).getD i 0 := ⟨_, rfl⟩
          have ext : x0 = rcd tk := by rw [ex, etk]; exact hcd.2.1 i (by omega)
          have htk : tOk2 tk := by rw [etk]; exact fl_ok cz hwf _ (gd_mem (by omega))
          refine qi_as (y := x0) ((show fS (nI (201 + 140 * h + i) : Int32).toNatClampNeg = fS (201 + 140 * h + i) from by rw [nI_clamp (by omega)]).trans (ex.symm)) ?_
          refine lv_istore (lv' := [(8, .int x0), (0, .ref m0), (4, .int (nI k)), (5, .int (nI (201 + 140 * h))), (6, .int (nI d)), (7, .int (nI (201 + 140 * h + i)))]) hx hb dX12_looks_141 hl (by decide) rfl (fun ls hl => ?_)
          rcases htk with htk | rfl | rfl | rfl | ⟨w9, v9, hw9, hv9, rfl⟩
          · skip
            obtain ⟨hnn, hr1, hr2, hr3⟩ := rcd_f htk ext
            obtain ⟨e2, h60, j, hj, ej⟩ := stepd_t hs2 hnn
            subst e2
            refine lv_iload hx hb dX12_looks_143 (lv_at hl 0 rfl) ?_
            refine lv_if_lt (tgt := 242) hx hb dX12_looks_145 (by decide) (fun c_5 => absurd c_5 (hnn)) (fun c_5 => ?_)
            refine lv_aload_n hx hb dX12_looks_148 rfl (lv_at hl 1 rfl) ?_
            refine va_get (D := (dC, dI)) (ci := 14) (v := .ref aB) (C := RX12) (T := TX12) (N := 23) hx hb hts kc_looks_0 hown hK hP 0 rfl rfl 9 (by decide) (hts (.fieldLink RX12 18 "MistHeapsModel" "by" "[I") kc_looks_1) (fun _ h9 => h9) rfl dX12_looks_149 ?_
            refine lv_iload hx hb dX12_looks_152 (lv_at hl 0 rfl) ?_
            refine lv_bipush (v := 8) hx hb dX12_looks_154 (by decide) ?_
            refine lv_irem hx hb dX12_looks_156 (by decide) ?_
            refine qi_as (y := nI (tk / 300)) (hr1) ?_
            refine va_iald hx hb hK hP 2 1 rfl rfl (vp_in_nI (n := tk / 300) (N := 6) (by omega) (by omega)) dX12_looks_157 ?_
            refine qi_as (y := fB3 (tk / 300)) (by rw [nI_clamp (by omega)]) ?_
            refine lv_istore (lv' := [(9, .int (fB3 (tk / 300))), (8, .int x0), (0, .ref m0), (4, .int (nI k)), (5, .int (nI (201 + 140 * h))), (6, .int (nI d)), (7, .int (nI (201 + 140 * h + i)))]) hx hb dX12_looks_158 hl (by decide) rfl (fun ls hl => ?_)
            refine lv_iload hx hb dX12_looks_160 (lv_at hl 1 rfl) ?_
            refine lv_bipush (v := 8) hx hb dX12_looks_162 (by decide) ?_
            refine lv_idiv hx hb dX12_looks_164 (by decide) ?_
            refine lv_iconst (v := 4) hx hb dX12_looks_165 (by decide) ?_
            refine lv_irem hx hb dX12_looks_166 (by decide) ?_
            refine qi_as (y := nI (tk / 100 % 3)) (hr2) ?_
            refine lv_istore (lv' := [(10, .int (nI (tk / 100 % 3))), (9, .int (fB3 (tk / 300))), (8, .int x0), (0, .ref m0), (4, .int (nI k)), (5, .int (nI (201 + 140 * h))), (6, .int (nI d)), (7, .int (nI (201 + 140 * h + i)))]) hx hb dX12_looks_167 hl (by decide) rfl (fun ls hl => ?_)
            refine lv_iload hx hb dX12_looks_169 (lv_at hl 2 rfl) ?_
            refine lv_bipush (v := 32) hx hb dX12_looks_171 (by decide) ?_
            refine lv_idiv hx hb dX12_looks_173 (by decide) ?_
            refine qi_as (y := nI (tk % 100)) (hr3) ?_
            refine lv_istore (lv' := [(11, .int (nI (tk % 100))), (10, .int (nI (tk / 100 % 3))), (9, .int (fB3 (tk / 300))), (8, .int x0), (0, .ref m0), (4, .int (nI k)), (5, .int (nI (201 + 140 * h))), (6, .int (nI d)), (7, .int (nI (201 + 140 * h + i)))]) hx hb dX12_looks_174 hl (by decide) rfl (fun ls hl => ?_)
            refine lv_aload_n hx hb dX12_looks_176 rfl (lv_at hl 4 rfl) ?_
            refine va_get (D := (dC, dI)) (ci := 14) (v := .ref aT) (C := RX12) (T := TX12) (N := 23) hx hb hts kc_looks_0 hown hK hP 0 rfl rfl 10 (by decide) (hts (.fieldLink RX12 21 "MistHeapsModel" "truths" "[Z") kc_looks_5) (fun _ h9 => h9) rfl dX12_looks_177 ?_
            refine lv_iload hx hb dX12_looks_180 (lv_at hl 7 rfl) ?_
            refine lv_iload hx hb dX12_looks_182 (lv_at hl 1 rfl) ?_
            have J184 : ∀ v_6 : Int32, (v_6 = bI (tsB fB3 tk)) → W p l e ({ frames := 0, cells := 0, slots := 0, locals := 0 } : Room) s m args below meth c H locs 0 0 Q (F0 m 235 ls [.int v_6, .int (nI d), .ref aT]) := by
              intro v_6 hv_7
              subst hv_7
              refine va_zast hx hb hK hP hD hS 3 2 rfl rfl (vp_in_nI (n := d) (N := 64) (by omega) (by omega)) dX12_looks_235 (fun H locs hP hD hS => ?_)
              rw [nI_clamp (n := d) (by omega)] at hP hD
              have hP : va_P (dC, dI) vwCl [(zo14irriiiiiirriirrrrlriiii m0 th aS aI im ac sp en wg op aB aT se2 dn2 aG aO aN aD bv aY rn kd nu tv), (zaI aS cS 901 fS), (zaI aB cB 6 fB3), (zaI aT cT 64 (upd fT2 d (vp_nar .boolean (bI (tsB fB3 tk)))))] H := hP
              have hD : va_D A [(zo14irriiiiiirriirrrrlriiii m0 th aS aI im ac sp en wg op aB aT se2 dn2 aG aO aN aD bv aY rn kd nu tv), (zaI aS cS 901 fS), (zaI aB cB 6 fB3), (zaI aT cT 64 (upd fT2 d (vp_nar .boolean (bI (tsB fB3 tk)))))] := hD
              refine lv_iinc (v := nI (d + 1)) (lv' := [(6, .int (nI (d + 1))), (11, .int (nI (tk % 100))), (10, .int (nI (tk / 100 % 3))), (9, .int (fB3 (tk / 300))), (8, .int x0), (0, .ref m0), (4, .int (nI k)), (5, .int (nI (201 + 140 * h))), (7, .int (nI (201 + 140 * h + i)))]) hx hb dX12_looks_236 hl (k := 7) rfl (nI_add d 1) (by decide) rfl (fun ls hl => ?_)
              refine lv_goto (tgt := 454) hx hb dX12_looks_239 (by decide) ?_
              refine lv_iinc (v := nI (201 + 140 * h + i + 1)) (lv' := [(7, .int (nI (201 + 140 * h + i + 1))), (6, .int (nI (d + 1))), (11, .int (nI (tk % 100))), (10, .int (nI (tk / 100 % 3))), (9, .int (fB3 (tk / 300))), (8, .int x0), (0, .ref m0), (4, .int (nI k)), (5, .int (nI (201 + 140 * h)))]) hx hb dX12_looks_454 hl (k := 8) rfl (nI_add (201 + 140 * h + i) 1) (by decide) rfl (fun ls hl => ?_)
              refine lv_goto (tgt := 124) hx hb dX12_looks_457 (by decide) ?_
              exact ih124 (i + 1) (d + 1) (se2) (dn2) (upd fT2 d (vp_nar .boolean (bI (tsB fB3 tk)))) (by omega) (by omega) (by omega) (hd2) (rr_step hR (by omega) etk (rst_t htk)) _ _ (hK.sub [0, 1, 2] rfl) (hP.sub [0, 1, 2, 3] rfl) (hD.sub [0, 1, 2, 3] (by decide) rfl) hS ls (lv_sub hl [6, 7, 8, 1, 0] rfl)
            refine lv_if_ne (tgt := 202) hx hb dX12_looks_184 (by decide) (fun c_8 => ?_) (fun c_8 => ?_)
            · skip
              have c_8 : ¬ (tk / 100 % 3) = 0 := fun q => c_8 ((nI_eq (a := (tk / 100 % 3)) (b := 0) (by omega) (by omega)).mpr q)
              refine lv_iload hx hb dX12_looks_202 (lv_at hl 1 rfl) ?_
              refine lv_iconst (v := 1) hx hb dX12_looks_204 (by decide) ?_
              refine lv_icmp_ne (tgt := 223) hx hb dX12_looks_205 (by decide) (fun c_9 => ?_) (fun c_9 => ?_)
              · skip
                have c_9 : ¬ (tk / 100 % 3) = 1 := fun q => c_9 ((nI_eq (a := (tk / 100 % 3)) (b := 1) (by omega) (by omega)).mpr q)
                refine lv_iload hx hb dX12_looks_223 (lv_at hl 2 rfl) ?_
                refine lv_iload hx hb dX12_looks_225 (lv_at hl 0 rfl) ?_
                refine lv_icmp_le (tgt := 234) hx hb dX12_looks_227 (by decide) (fun c_10 => ?_) (fun c_10 => ?_)
                · skip
                  refine lv_iconst (v := 0) hx hb dX12_looks_234 (by decide) ?_
                  exact J184 0 (by first | exact ts_a1 (by assumption) (by assumption) | exact ts_a0 (by assumption) (by assumption) | exact ts_b1 (by assumption) (by assumption) (by assumption) | exact ts_b0 (by assumption) (by assumption) (by assumption) | exact ts_c1 (by assumption) (by assumption) (by assumption) | exact ts_c0 (by assumption) (by assumption) (by assumption))
                · skip
                  refine lv_iconst (v := 1) hx hb dX12_looks_230 (by decide) ?_
                  refine lv_goto (tgt := 235) hx hb dX12_looks_231 (by decide) ?_
                  exact J184 1 (by first | exact ts_a1 (by assumption) (by assumption) | exact ts_a0 (by assumption) (by assumption) | exact ts_b1 (by assumption) (by assumption) (by assumption) | exact ts_b0 (by assumption) (by assumption) (by assumption) | exact ts_c1 (by assumption) (by assumption) (by assumption) | exact ts_c0 (by assumption) (by assumption) (by assumption))
              · skip
                have c_9 : (tk / 100 % 3) = 1 := (nI_eq (a := (tk / 100 % 3)) (b := 1) (by omega) (by omega)).mp c_9
                refine lv_iload hx hb dX12_looks_208 (lv_at hl 2 rfl) ?_
                refine lv_iload hx hb dX12_looks_210 (lv_at hl 0 rfl) ?_
                refine lv_icmp_ne (tgt := 219) hx hb dX12_looks_212 (by decide) (fun c_11 => ?_) (fun c_11 => ?_)
                · skip
                  refine lv_iconst (v := 0) hx hb dX12_looks_219 (by decide) ?_
                  refine lv_goto (tgt := 235) hx hb dX12_looks_220 (by decide) ?_
                  exact J184 0 (by first | exact ts_a1 (by assumption) (by assumption) | exact ts_a0 (by assumption) (by assumption) | exact ts_b1 (by assumption) (by assumption) (by assumption) | exact ts_b0 (by assumption) (by assumption) (by assumption) | exact ts_c1 (by assumption) (by assumption) (by assumption) | exact ts_c0 (by assumption) (by assumption) (by assumption))
                · skip
                  refine lv_iconst (v := 1) hx hb dX12_looks_215 (by decide) ?_
                  refine lv_goto (tgt := 235) hx hb dX12_looks_216 (by decide) ?_
                  exact J184 1 (by first | exact ts_a1 (by assumption) (by assumption) | exact ts_a0 (by assumption) (by assumption) | exact ts_b1 (by assumption) (by assumption) (by assumption) | exact ts_b0 (by assumption) (by assumption) (by assumption) | exact ts_c1 (by assumption) (by assumption) (by assumption) | exact ts_c0 (by assumption) (by assumption) (by assumption))
            · skip
              have c_8 : (tk / 100 % 3) = 0 := (nI_eq (a := (tk / 100 % 3)) (b := 0) (by omega) (by omega)).mp c_8
              refine lv_iload hx hb dX12_looks_187 (lv_at hl 2 rfl) ?_
              refine lv_iload hx hb dX12_looks_189 (lv_at hl 0 rfl) ?_
              refine lv_icmp_ge (tgt := 198) hx hb dX12_looks_191 (by decide) (fun c_12 => ?_) (fun c_12 => ?_)
              · skip
                refine lv_iconst (v := 0) hx hb dX12_looks_198 (by decide) ?_
                refine lv_goto (tgt := 235) hx hb dX12_looks_199 (by decide) ?_
                exact J184 0 (by first | exact ts_a1 (by assumption) (by assumption) | exact ts_a0 (by assumption) (by assumption) | exact ts_b1 (by assumption) (by assumption) (by assumption) | exact ts_b0 (by assumption) (by assumption) (by assumption) | exact ts_c1 (by assumption) (by assumption) (by assumption) | exact ts_c0 (by assumption) (by assumption) (by assumption))
              · skip
                refine lv_iconst (v := 1) hx hb dX12_looks_194 (by decide) ?_
                refine lv_goto (tgt := 235) hx hb dX12_looks_195 (by decide) ?_
                exact J184 1 (by first | exact ts_a1 (by assumption) (by assumption) | exact ts_a0 (by assumption) (by assumption) | exact ts_b1 (by assumption) (by assumption) (by assumption) | exact ts_b0 (by assumption) (by assumption) (by assumption) | exact ts_c1 (by assumption) (by assumption) (by assumption) | exact ts_c0 (by assumption) (by assumption) (by assumption))
          · skip
            have e8 : x0 = (-1) := ext.trans (by decide)
            subst e8
            obtain ⟨e2, h1⟩ := stepd_n hs2
            rw [e2] at hd2
            refine lv_iload hx hb dX12_looks_143 (lv_at hl 0 rfl) ?_
            refine lv_if_lt (tgt := 242) hx hb dX12_looks_145 (by decide) (fun _ => ?_) (fun c_13 => absurd c_13 (by decide))
            refine lv_iload hx hb dX12_looks_242 (lv_at hl 0 rfl) ?_
            refine lv_iconst (v := (-1)) hx hb dX12_looks_244 (by decide) ?_
            refine lv_icmp_ne (tgt := 277) hx hb dX12_looks_245 (by decide) (fun c_14 => absurd c_14 (by decide)) (fun _ => ?_)
            refine lv_aload_n hx hb dX12_looks_248 rfl (lv_at hl 1 rfl) ?_
            refine va_get (D := (dC, dI)) (ci := 14) (v := .ref aT) (C := RX12) (T := TX12) (N := 23) hx hb hts kc_looks_0 hown hK hP 0 rfl rfl 10 (by decide) (hts (.fieldLink RX12 21 "MistHeapsModel" "truths" "[Z") kc_looks_5) (fun _ h9 => h9) rfl dX12_looks_249 ?_
            refine lv_iload hx hb dX12_looks_252 (lv_at hl 4 rfl) ?_
            refine lv_iconst (v := 1) hx hb dX12_looks_254 (by decide) ?_
            refine lv_isub hx hb dX12_looks_255 ?_
            refine qi_as (y := nI (d - 1)) (pk_sub (a := d) (b := 1) (by omega)) ?_
            refine lv_aload_n hx hb dX12_looks_256 rfl (lv_at hl 1 rfl) ?_
            refine va_get (D := (dC, dI)) (ci := 14) (v := .ref aT) (C := RX12) (T := TX12) (N := 23) hx hb hts kc_looks_0 hown hK hP 0 rfl rfl 10 (by decide) (hts (.fieldLink RX12 21 "MistHeapsModel" "truths" "[Z") kc_looks_5) (fun _ h9 => h9) rfl dX12_looks_257 ?_
            refine lv_iload hx hb dX12_looks_260 (lv_at hl 4 rfl) ?_
            refine lv_iconst (v := 1) hx hb dX12_looks_262 (by decide) ?_
            refine lv_isub hx hb dX12_looks_263 ?_
            refine qi_as (y := nI (d - 1)) (pk_sub (a := d) (b := 1) (by omega)) ?_
            refine va_zald hx hb hK hP 3 2 rfl rfl (vp_in_nI (n := d - 1) (N := 64) (by omega) (by omega)) dX12_looks_264 ?_
            refine qi_as (y := fT2 (d - 1)) (by rw [nI_clamp (by omega)]) ?_
            have J265 : ∀ v_15 : Int32, (v_15 = bI (!tvOf fT2 (d - 1))) → W p l e ({ frames := 0, cells := 0, slots := 0, locals := 0 } : Room) s m args below meth c H locs 0 0 Q (F0 m 273 ls [.int v_15, .int (nI (d - 1)), .ref aT]) := by
              intro v_15 hv_16
              subst hv_16
              refine va_zast hx hb hK hP hD hS 3 2 rfl rfl (vp_in_nI (n := d - 1) (N := 64) (by omega) (by omega)) dX12_looks_273 (fun H locs hP hD hS => ?_)
              rw [nI_clamp (n := d - 1) (by omega)] at hP hD
              have hP : va_P (dC, dI) vwCl [(zo14irriiiiiirriirrrrlriiii m0 th aS aI im ac sp en wg op aB aT se2 dn2 aG aO aN aD bv aY rn kd nu tv), (zaI aS cS 901 fS), (zaI aB cB 6 fB3), (zaI aT cT 64 (upd fT2 (d - 1) (vp_nar .boolean (bI (!tvOf fT2 (d - 1))))))] H := hP
              have hD : va_D A [(zo14irriiiiiirriirrrrlriiii m0 th aS aI im ac sp en wg op aB aT se2 dn2 aG aO aN aD bv aY rn kd nu tv), (zaI aS cS 901 fS), (zaI aB cB 6 fB3), (zaI aT cT 64 (upd fT2 (d - 1) (vp_nar .boolean (bI (!tvOf fT2 (d - 1))))))] := hD
              refine lv_goto (tgt := 454) hx hb dX12_looks_274 (by decide) ?_
              refine lv_iinc (v := nI (201 + 140 * h + i + 1)) (lv' := [(7, .int (nI (201 + 140 * h + i + 1))), (8, .int (-1)), (0, .ref m0), (4, .int (nI k)), (5, .int (nI (201 + 140 * h))), (6, .int (nI d))]) hx hb dX12_looks_454 hl (k := 5) rfl (nI_add (201 + 140 * h + i) 1) (by decide) rfl (fun ls hl => ?_)
              refine lv_goto (tgt := 124) hx hb dX12_looks_457 (by decide) ?_
              exact ih124 (i + 1) (d) (se2) (dn2) (upd fT2 (d - 1) (vp_nar .boolean (bI (!tvOf fT2 (d - 1))))) (by omega) (by omega) (by omega) (hd2) (rr_step hR (by omega) etk (rst_n)) _ _ (hK.sub [0, 1, 2] rfl) (hP.sub [0, 1, 2, 3] rfl) (hD.sub [0, 1, 2, 3] (by decide) rfl) hS ls (lv_sub hl [2, 3, 4, 5, 0] rfl)
            refine lv_if_ne (tgt := 272) hx hb dX12_looks_265 (by decide) (fun c_17 => ?_) (fun c_17 => ?_)
            · skip
              refine lv_iconst (v := 0) hx hb dX12_looks_272 (by decide) ?_
              exact J265 0 (by first | exact bn_1 (by assumption) | exact bn_0 (by assumption))
            · skip
              refine lv_iconst (v := 1) hx hb dX12_looks_268 (by decide) ?_
              refine lv_goto (tgt := 273) hx hb dX12_looks_269 (by decide) ?_
              exact J265 1 (by first | exact bn_1 (by assumption) | exact bn_0 (by assumption))
          · skip
            have e8 : x0 = (-2) := ext.trans (by decide)
            subst e8
            obtain ⟨e2, h1⟩ := stepd_b hs2 (by decide) (by decide) (by decide)
            subst e2
            refine lv_iload hx hb dX12_looks_143 (lv_at hl 0 rfl) ?_
            refine lv_if_lt (tgt := 242) hx hb dX12_looks_145 (by decide) (fun _ => ?_) (fun c_18 => absurd c_18 (by decide))
            refine lv_iload hx hb dX12_looks_242 (lv_at hl 0 rfl) ?_
            refine lv_iconst (v := (-1)) hx hb dX12_looks_244 (by decide) ?_
            refine lv_icmp_ne (tgt := 277) hx hb dX12_looks_245 (by decide) (fun _ => ?_) (fun c_19 => absurd c_19 (by decide))
            refine lv_iload hx hb dX12_looks_277 (lv_at hl 0 rfl) ?_
            refine lv_bipush (v := (-10)) hx hb dX12_looks_279 (by decide) ?_
            refine lv_icmp_le (tgt := 363) hx hb dX12_looks_281 (by decide) (fun c_20 => absurd c_20 (by decide)) (fun _ => ?_)
            refine lv_iinc (v := nI (d - 1)) (lv' := [(6, .int (nI (d - 1))), (8, .int (-2)), (0, .ref m0), (4, .int (nI k)), (5, .int (nI (201 + 140 * h))), (7, .int (nI (201 + 140 * h + i)))]) hx hb dX12_looks_284 hl (k := 4) rfl (nI_dec (by omega)) (by decide) rfl (fun ls hl => ?_)
            refine lv_aload_n hx hb dX12_looks_287 rfl (lv_at hl 2 rfl) ?_
            refine va_get (D := (dC, dI)) (ci := 14) (v := .ref aT) (C := RX12) (T := TX12) (N := 23) hx hb hts kc_looks_0 hown hK hP 0 rfl rfl 10 (by decide) (hts (.fieldLink RX12 21 "MistHeapsModel" "truths" "[Z") kc_looks_5) (fun _ h9 => h9) rfl dX12_looks_288 ?_
            refine lv_iload hx hb dX12_looks_291 (lv_at hl 0 rfl) ?_
            refine lv_iconst (v := 1) hx hb dX12_looks_293 (by decide) ?_
            refine lv_isub hx hb dX12_looks_294 ?_
            refine qi_as (y := nI ((d - 1) - 1)) (pk_sub (a := d - 1) (b := 1) (by omega)) ?_
            refine lv_iload hx hb dX12_looks_295 (lv_at hl 1 rfl) ?_
            refine lv_bipush (v := (-2)) hx hb dX12_looks_297 (by decide) ?_
            have J299 : ∀ v_21 : Int32, (v_21 = bI (tvOf fT2 (d - 1 - 1) && tvOf fT2 (d - 1))) → W p l e ({ frames := 0, cells := 0, slots := 0, locals := 0 } : Room) s m args below meth c H locs 0 0 Q (F0 m 359 ls [.int v_21, .int (nI ((d - 1) - 1)), .ref aT]) := by
              intro v_21 hv_22
              subst hv_22
              refine va_zast hx hb hK hP hD hS 3 2 rfl rfl (vp_in_nI (n := (d - 1) - 1) (N := 64) (by omega) (by omega)) dX12_looks_359 (fun H locs hP hD hS => ?_)
              rw [nI_clamp (n := (d - 1) - 1) (by omega)] at hP hD
              have hP : va_P (dC, dI) vwCl [(zo14irriiiiiirriirrrrlriiii m0 th aS aI im ac sp en wg op aB aT se2 dn2 aG aO aN aD bv aY rn kd nu tv), (zaI aS cS 901 fS), (zaI aB cB 6 fB3), (zaI aT cT 64 (upd fT2 ((d - 1) - 1) (vp_nar .boolean (bI (tvOf fT2 (d - 1 - 1) && tvOf fT2 (d - 1))))))] H := hP
              have hD : va_D A [(zo14irriiiiiirriirrrrlriiii m0 th aS aI im ac sp en wg op aB aT se2 dn2 aG aO aN aD bv aY rn kd nu tv), (zaI aS cS 901 fS), (zaI aB cB 6 fB3), (zaI aT cT 64 (upd fT2 ((d - 1) - 1) (vp_nar .boolean (bI (tvOf fT2 (d - 1 - 1) && tvOf fT2 (d - 1))))))] := hD
              refine lv_goto (tgt := 454) hx hb dX12_looks_360 (by decide) ?_
              refine lv_iinc (v := nI (201 + 140 * h + i + 1)) (lv' := [(7, .int (nI (201 + 140 * h + i + 1))), (6, .int (nI (d - 1))), (8, .int (-2)), (0, .ref m0), (4, .int (nI k)), (5, .int (nI (201 + 140 * h)))]) hx hb dX12_looks_454 hl (k := 5) rfl (nI_add (201 + 140 * h + i) 1) (by decide) rfl (fun ls hl => ?_)
              refine lv_goto (tgt := 124) hx hb dX12_looks_457 (by decide) ?_
              exact ih124 (i + 1) (d - 1) (se2) (dn2) (upd fT2 ((d - 1) - 1) (vp_nar .boolean (bI (tvOf fT2 (d - 1 - 1) && tvOf fT2 (d - 1))))) (by omega) (by omega) (by omega) (hd2) (rr_step hR (by omega) etk (rst_a)) _ _ (hK.sub [0, 1, 2] rfl) (hP.sub [0, 1, 2, 3] rfl) (hD.sub [0, 1, 2, 3] (by decide) rfl) hS ls (lv_sub hl [3, 4, 5, 1, 0] rfl)
            refine lv_icmp_ne (tgt := 332) hx hb dX12_looks_299 (by decide) (fun c_23 => absurd c_23 (by decide)) (fun _ => ?_)
            refine lv_aload_n hx hb dX12_looks_302 rfl (lv_at hl 2 rfl) ?_
            refine va_get (D := (dC, dI)) (ci := 14) (v := .ref aT) (C := RX12) (T := TX12) (N := 23) hx hb hts kc_looks_0 hown hK hP 0 rfl rfl 10 (by decide) (hts (.fieldLink RX12 21 "MistHeapsModel" "truths" "[Z") kc_looks_5) (fun _ h9 => h9) rfl dX12_looks_303 ?_
            refine lv_iload hx hb dX12_looks_306 (lv_at hl 0 rfl) ?_
            refine lv_iconst (v := 1) hx hb dX12_looks_308 (by decide) ?_
            refine lv_isub hx hb dX12_looks_309 ?_
            refine qi_as (y := nI ((d - 1) - 1)) (pk_sub (a := d - 1) (b := 1) (by omega)) ?_
            refine va_zald hx hb hK hP 3 2 rfl rfl (vp_in_nI (n := (d - 1) - 1) (N := 64) (by omega) (by omega)) dX12_looks_310 ?_
            refine qi_as (y := fT2 ((d - 1) - 1)) (by rw [nI_clamp (by omega)]) ?_
            refine lv_if_eq (tgt := 328) hx hb dX12_looks_311 (by decide) (fun c_24 => ?_) (fun c_24 => ?_)
            · skip
              refine lv_iconst (v := 0) hx hb dX12_looks_328 (by decide) ?_
              refine lv_goto (tgt := 359) hx hb dX12_looks_329 (by decide) ?_
              exact J299 0 (by first | exact ba_x (by assumption) | exact ba_y (by assumption) (by assumption) | exact ba_1 (by assumption) (by assumption))
            · skip
              refine lv_aload_n hx hb dX12_looks_314 rfl (lv_at hl 2 rfl) ?_
              refine va_get (D := (dC, dI)) (ci := 14) (v := .ref aT) (C := RX12) (T := TX12) (N := 23) hx hb hts kc_looks_0 hown hK hP 0 rfl rfl 10 (by decide) (hts (.fieldLink RX12 21 "MistHeapsModel" "truths" "[Z") kc_looks_5) (fun _ h9 => h9) rfl dX12_looks_315 ?_
              refine lv_iload hx hb dX12_looks_318 (lv_at hl 0 rfl) ?_
              refine va_zald hx hb hK hP 3 2 rfl rfl (vp_in_nI (n := d - 1) (N := 64) (by omega) (by omega)) dX12_looks_320 ?_
              refine qi_as (y := fT2 (d - 1)) (by rw [nI_clamp (by omega)]) ?_
              refine lv_if_eq (tgt := 328) hx hb dX12_looks_321 (by decide) (fun c_25 => ?_) (fun c_25 => ?_)
              · skip
                refine lv_iconst (v := 0) hx hb dX12_looks_328 (by decide) ?_
                refine lv_goto (tgt := 359) hx hb dX12_looks_329 (by decide) ?_
                exact J299 0 (by first | exact ba_x (by assumption) | exact ba_y (by assumption) (by assumption) | exact ba_1 (by assumption) (by assumption))
              · skip
                refine lv_iconst (v := 1) hx hb dX12_looks_324 (by decide) ?_
                refine lv_goto (tgt := 359) hx hb dX12_looks_325 (by decide) ?_
                exact J299 1 (by first | exact ba_x (by assumption) | exact ba_y (by assumption) (by assumption) | exact ba_1 (by assumption) (by assumption))
          · skip
            have e8 : x0 = (-3) := ext.trans (by decide)
            subst e8
            obtain ⟨e2, h1⟩ := stepd_b hs2 (by decide) (by decide) (by decide)
            subst e2
            refine lv_iload hx hb dX12_looks_143 (lv_at hl 0 rfl) ?_
            refine lv_if_lt (tgt := 242) hx hb dX12_looks_145 (by decide) (fun _ => ?_) (fun c_26 => absurd c_26 (by decide))
            refine lv_iload hx hb dX12_looks_242 (lv_at hl 0 rfl) ?_
            refine lv_iconst (v := (-1)) hx hb dX12_looks_244 (by decide) ?_
            refine lv_icmp_ne (tgt := 277) hx hb dX12_looks_245 (by decide) (fun _ => ?_) (fun c_27 => absurd c_27 (by decide))
            refine lv_iload hx hb dX12_looks_277 (lv_at hl 0 rfl) ?_
            refine lv_bipush (v := (-10)) hx hb dX12_looks_279 (by decide) ?_
            refine lv_icmp_le (tgt := 363) hx hb dX12_looks_281 (by decide) (fun c_28 => absurd c_28 (by decide)) (fun _ => ?_)
            refine lv_iinc (v := nI (d - 1)) (lv' := [(6, .int (nI (d - 1))), (8, .int (-3)), (0, .ref m0), (4, .int (nI k)), (5, .int (nI (201 + 140 * h))), (7, .int (nI (201 + 140 * h + i)))]) hx hb dX12_looks_284 hl (k := 4) rfl (nI_dec (by omega)) (by decide) rfl (fun ls hl => ?_)
            refine lv_aload_n hx hb dX12_looks_287 rfl (lv_at hl 2 rfl) ?_
            refine va_get (D := (dC, dI)) (ci := 14) (v := .ref aT) (C := RX12) (T := TX12) (N := 23) hx hb hts kc_looks_0 hown hK hP 0 rfl rfl 10 (by decide) (hts (.fieldLink RX12 21 "MistHeapsModel" "truths" "[Z") kc_looks_5) (fun _ h9 => h9) rfl dX12_looks_288 ?_
            refine lv_iload hx hb dX12_looks_291 (lv_at hl 0 rfl) ?_
            refine lv_iconst (v := 1) hx hb dX12_looks_293 (by decide) ?_
            refine lv_isub hx hb dX12_looks_294 ?_
            refine qi_as (y := nI ((d - 1) - 1)) (pk_sub (a := d - 1) (b := 1) (by omega)) ?_
            refine lv_iload hx hb dX12_looks_295 (lv_at hl 1 rfl) ?_
            refine lv_bipush (v := (-2)) hx hb dX12_looks_297 (by decide) ?_
            have J299 : ∀ v_29 : Int32, (v_29 = bI (tvOf fT2 (d - 1 - 1) || tvOf fT2 (d - 1))) → W p l e ({ frames := 0, cells := 0, slots := 0, locals := 0 } : Room) s m args below meth c H locs 0 0 Q (F0 m 359 ls [.int v_29, .int (nI ((d - 1) - 1)), .ref aT]) := by
              intro v_29 hv_30
              subst hv_30
              refine va_zast hx hb hK hP hD hS 3 2 rfl rfl (vp_in_nI (n := (d - 1) - 1) (N := 64) (by omega) (by omega)) dX12_looks_359 (fun H locs hP hD hS => ?_)
              rw [nI_clamp (n := (d - 1) - 1) (by omega)] at hP hD
              have hP : va_P (dC, dI) vwCl [(zo14irriiiiiirriirrrrlriiii m0 th aS aI im ac sp en wg op aB aT se2 dn2 aG aO aN aD bv aY rn kd nu tv), (zaI aS cS 901 fS), (zaI aB cB 6 fB3), (zaI aT cT 64 (upd fT2 ((d - 1) - 1) (vp_nar .boolean (bI (tvOf fT2 (d - 1 - 1) || tvOf fT2 (d - 1))))))] H := hP
              have hD : va_D A [(zo14irriiiiiirriirrrrlriiii m0 th aS aI im ac sp en wg op aB aT se2 dn2 aG aO aN aD bv aY rn kd nu tv), (zaI aS cS 901 fS), (zaI aB cB 6 fB3), (zaI aT cT 64 (upd fT2 ((d - 1) - 1) (vp_nar .boolean (bI (tvOf fT2 (d - 1 - 1) || tvOf fT2 (d - 1))))))] := hD
              refine lv_goto (tgt := 454) hx hb dX12_looks_360 (by decide) ?_
              refine lv_iinc (v := nI (201 + 140 * h + i + 1)) (lv' := [(7, .int (nI (201 + 140 * h + i + 1))), (6, .int (nI (d - 1))), (8, .int (-3)), (0, .ref m0), (4, .int (nI k)), (5, .int (nI (201 + 140 * h)))]) hx hb dX12_looks_454 hl (k := 5) rfl (nI_add (201 + 140 * h + i) 1) (by decide) rfl (fun ls hl => ?_)
              refine lv_goto (tgt := 124) hx hb dX12_looks_457 (by decide) ?_
              exact ih124 (i + 1) (d - 1) (se2) (dn2) (upd fT2 ((d - 1) - 1) (vp_nar .boolean (bI (tvOf fT2 (d - 1 - 1) || tvOf fT2 (d - 1))))) (by omega) (by omega) (by omega) (hd2) (rr_step hR (by omega) etk (rst_o)) _ _ (hK.sub [0, 1, 2] rfl) (hP.sub [0, 1, 2, 3] rfl) (hD.sub [0, 1, 2, 3] (by decide) rfl) hS ls (lv_sub hl [3, 4, 5, 1, 0] rfl)
            refine lv_icmp_ne (tgt := 332) hx hb dX12_looks_299 (by decide) (fun _ => ?_) (fun c_31 => absurd c_31 (by decide))
            refine lv_aload_n hx hb dX12_looks_332 rfl (lv_at hl 2 rfl) ?_
            refine va_get (D := (dC, dI)) (ci := 14) (v := .ref aT) (C := RX12) (T := TX12) (N := 23) hx hb hts kc_looks_0 hown hK hP 0 rfl rfl 10 (by decide) (hts (.fieldLink RX12 21 "MistHeapsModel" "truths" "[Z") kc_looks_5) (fun _ h9 => h9) rfl dX12_looks_333 ?_
            refine lv_iload hx hb dX12_looks_336 (lv_at hl 0 rfl) ?_
            refine lv_iconst (v := 1) hx hb dX12_looks_338 (by decide) ?_
            refine lv_isub hx hb dX12_looks_339 ?_
            refine qi_as (y := nI ((d - 1) - 1)) (pk_sub (a := d - 1) (b := 1) (by omega)) ?_
            refine va_zald hx hb hK hP 3 2 rfl rfl (vp_in_nI (n := (d - 1) - 1) (N := 64) (by omega) (by omega)) dX12_looks_340 ?_
            refine qi_as (y := fT2 ((d - 1) - 1)) (by rw [nI_clamp (by omega)]) ?_
            refine lv_if_ne (tgt := 354) hx hb dX12_looks_341 (by decide) (fun c_32 => ?_) (fun c_32 => ?_)
            · skip
              refine lv_iconst (v := 1) hx hb dX12_looks_354 (by decide) ?_
              refine lv_goto (tgt := 359) hx hb dX12_looks_355 (by decide) ?_
              exact J299 1 (by first | exact bo_x (by assumption) | exact bo_y (by assumption) (by assumption) | exact bo_0 (by assumption) (by assumption))
            · skip
              refine lv_aload_n hx hb dX12_looks_344 rfl (lv_at hl 2 rfl) ?_
              refine va_get (D := (dC, dI)) (ci := 14) (v := .ref aT) (C := RX12) (T := TX12) (N := 23) hx hb hts kc_looks_0 hown hK hP 0 rfl rfl 10 (by decide) (hts (.fieldLink RX12 21 "MistHeapsModel" "truths" "[Z") kc_looks_5) (fun _ h9 => h9) rfl dX12_looks_345 ?_
              refine lv_iload hx hb dX12_looks_348 (lv_at hl 0 rfl) ?_
              refine va_zald hx hb hK hP 3 2 rfl rfl (vp_in_nI (n := d - 1) (N := 64) (by omega) (by omega)) dX12_looks_350 ?_
              refine qi_as (y := fT2 (d - 1)) (by rw [nI_clamp (by omega)]) ?_
              refine lv_if_eq (tgt := 358) hx hb dX12_looks_351 (by decide) (fun c_33 => ?_) (fun c_33 => ?_)
              · skip
                refine lv_iconst (v := 0) hx hb dX12_looks_358 (by decide) ?_
                exact J299 0 (by first | exact bo_x (by assumption) | exact bo_y (by assumption) (by assumption) | exact bo_0 (by assumption) (by assumption))
              · skip
                refine lv_iconst (v := 1) hx hb dX12_looks_354 (by decide) ?_
                refine lv_goto (tgt := 359) hx hb dX12_looks_355 (by decide) ?_
                exact J299 1 (by first | exact bo_x (by assumption) | exact bo_y (by assumption) (by assumption) | exact bo_0 (by assumption) (by assumption))
          · skip
            rcases hw9 with rfl | rfl | rfl
            · skip
              obtain ⟨hn9, hm9, hl9, hg9, hq9, hv8⟩ := rce0 v9 (by omega)
              rw [← ext] at hn9 hm9 hl9 hg9 hq9 hv8
              have e2 := stepd_c hs2 hn9 hm9 hl9
              subst e2
              refine lv_iload hx hb dX12_looks_143 (lv_at hl 0 rfl) ?_
              refine lv_if_lt (tgt := 242) hx hb dX12_looks_145 (by decide) (fun c_34 => ?_) (fun c_34 => absurd c_34 (fun q9 => q9 hn9))
              refine lv_iload hx hb dX12_looks_242 (lv_at hl 0 rfl) ?_
              refine lv_iconst (v := (-1)) hx hb dX12_looks_244 (by decide) ?_
              refine lv_icmp_ne (tgt := 277) hx hb dX12_looks_245 (by decide) (fun c_35 => ?_) (fun c_35 => absurd c_35 (hm9))
              refine lv_iload hx hb dX12_looks_277 (lv_at hl 0 rfl) ?_
              refine lv_bipush (v := (-10)) hx hb dX12_looks_279 (by decide) ?_
              refine lv_icmp_le (tgt := 363) hx hb dX12_looks_281 (by decide) (fun c_36 => ?_) (fun c_36 => absurd c_36 (fun q9 => q9 hl9))
              refine lv_iconst (v := 0) hx hb dX12_looks_363 (by decide) ?_
              refine lv_istore (lv' := [(6, .int 0), (8, .int x0), (0, .ref m0), (4, .int (nI k)), (5, .int (nI (201 + 140 * h))), (7, .int (nI (201 + 140 * h + i)))]) hx hb dX12_looks_364 hl (by decide) rfl (fun ls hl => ?_)
              refine lv_aload_n hx hb dX12_looks_366 rfl (lv_at hl 2 rfl) ?_
              refine va_get (D := (dC, dI)) (ci := 14) (v := .ref aT) (C := RX12) (T := TX12) (N := 23) hx hb hts kc_looks_0 hown hK hP 0 rfl rfl 10 (by decide) (hts (.fieldLink RX12 21 "MistHeapsModel" "truths" "[Z") kc_looks_5) (fun _ h9 => h9) rfl dX12_looks_367 ?_
              refine lv_iconst (v := 0) hx hb dX12_looks_370 (by decide) ?_
              refine va_zald hx hb hK hP 3 2 rfl rfl (vp_in_nI (n := 0) (N := 64) (by omega) (by omega)) dX12_looks_371 ?_
              refine qi_as (y := fT2 0) (rfl) ?_
              refine lv_istore (lv' := [(9, .int (fT2 0)), (6, .int 0), (8, .int x0), (0, .ref m0), (4, .int (nI k)), (5, .int (nI (201 + 140 * h))), (7, .int (nI (201 + 140 * h + i)))]) hx hb dX12_looks_372 hl (by decide) rfl (fun ls hl => ?_)
              refine lv_aload_n hx hb dX12_looks_374 rfl (lv_at hl 3 rfl) ?_
              refine lv_dup hx hb dX12_looks_375 rfl ?_
              refine va_get (D := (dC, dI)) (ci := 14) (v := .int se2) (C := RX12) (T := TX12) (N := 23) hx hb hts kc_looks_0 hown hK hP 0 rfl rfl 11 (by decide) (hts (.fieldLink RX12 143 "MistHeapsModel" "seeing" "I") kc_looks_3) (fun _ h9 => h9) rfl dX12_looks_376 ?_
              refine lv_iload hx hb dX12_looks_379 (lv_at hl 0 rfl) ?_
              have J381 : ∀ v_37 : Int32, (v_37 = if tvOf fT2 0 = true then nI v9 else 0) → W p l e ({ frames := 0, cells := 0, slots := 0, locals := 0 } : Room) s m args below meth c H locs 0 0 Q (F0 m 418 ls [.int v_37, .int se2, .ref m0]) := by
                intro v_37 hv_38
                subst hv_38
                refine lv_iadd hx hb dX12_looks_418 ?_
                refine va_put (D := (dC, dI)) (ci := 14) (v := .int (se2 + (if tvOf fT2 0 = true then nI v9 else 0))) (ty := .int) (C := RX12) (T := TX12) (N := 23) hx hb hts kc_looks_0 tyX12 tyX12_ok nmX12 hown hK hP hD hS 0 rfl rfl 11 (by decide) (hts (.fieldLink RX12 143 "MistHeapsModel" "seeing" "I") kc_looks_3) (fun _ h9 => h9) rfl (by decide +kernel) rfl rfl (Nat.le_of_ble_eq_true rfl) dX12_looks_419 (fun H locs hP hD hS => ?_)
                have hP : va_P (dC, dI) vwCl [(zo14irriiiiiirriirrrrlriiii m0 th aS aI im ac sp en wg op aB aT (se2 + (if tvOf fT2 0 = true then nI v9 else 0)) dn2 aG aO aN aD bv aY rn kd nu tv), (zaI aS cS 901 fS), (zaI aB cB 6 fB3), (zaI aT cT 64 fT2)] H := hP
                have hD : va_D A [(zo14irriiiiiirriirrrrlriiii m0 th aS aI im ac sp en wg op aB aT (se2 + (if tvOf fT2 0 = true then nI v9 else 0)) dn2 aG aO aN aD bv aY rn kd nu tv), (zaI aS cS 901 fS), (zaI aB cB 6 fB3), (zaI aT cT 64 fT2)] := hD
                refine lv_aload_n hx hb dX12_looks_422 rfl (lv_at hl 3 rfl) ?_
                refine lv_dup hx hb dX12_looks_423 rfl ?_
                refine va_get (D := (dC, dI)) (ci := 14) (v := .int dn2) (C := RX12) (T := TX12) (N := 23) hx hb hts kc_looks_0 hown hK hP 0 rfl rfl 12 (by decide) (hts (.fieldLink RX12 146 "MistHeapsModel" "drifting" "I") kc_looks_4) (fun _ h9 => h9) rfl dX12_looks_424 ?_
                refine lv_iload hx hb dX12_looks_427 (lv_at hl 0 rfl) ?_
                have J429 : ∀ v_39 : Int32, (v_39 = 0) → W p l e ({ frames := 0, cells := 0, slots := 0, locals := 0 } : Room) s m args below meth c H locs 0 0 Q (F0 m 450 ls [.int v_39, .int dn2, .ref m0]) := by
                  intro v_39 hv_40
                  subst hv_40
                  refine lv_iadd hx hb dX12_looks_450 ?_
                  refine va_put (D := (dC, dI)) (ci := 14) (v := .int (dn2 + (0))) (ty := .int) (C := RX12) (T := TX12) (N := 23) hx hb hts kc_looks_0 tyX12 tyX12_ok nmX12 hown hK hP hD hS 0 rfl rfl 12 (by decide) (hts (.fieldLink RX12 146 "MistHeapsModel" "drifting" "I") kc_looks_4) (fun _ h9 => h9) rfl (by decide +kernel) rfl rfl (Nat.le_of_ble_eq_true rfl) dX12_looks_451 (fun H locs hP hD hS => ?_)
                  have hP : va_P (dC, dI) vwCl [(zo14irriiiiiirriirrrrlriiii m0 th aS aI im ac sp en wg op aB aT (se2 + (if tvOf fT2 0 = true then nI v9 else 0)) (dn2 + (0)) aG aO aN aD bv aY rn kd nu tv), (zaI aS cS 901 fS), (zaI aB cB 6 fB3), (zaI aT cT 64 fT2)] H := hP
                  have hD : va_D A [(zo14irriiiiiirriirrrrlriiii m0 th aS aI im ac sp en wg op aB aT (se2 + (if tvOf fT2 0 = true then nI v9 else 0)) (dn2 + (0)) aG aO aN aD bv aY rn kd nu tv), (zaI aS cS 901 fS), (zaI aB cB 6 fB3), (zaI aT cT 64 fT2)] := hD
                  refine lv_iinc (v := nI (201 + 140 * h + i + 1)) (lv' := [(7, .int (nI (201 + 140 * h + i + 1))), (9, .int (fT2 0)), (6, .int 0), (8, .int x0), (0, .ref m0), (4, .int (nI k)), (5, .int (nI (201 + 140 * h)))]) hx hb dX12_looks_454 hl (k := 6) rfl (nI_add (201 + 140 * h + i) 1) (by decide) rfl (fun ls hl => ?_)
                  refine lv_goto (tgt := 124) hx hb dX12_looks_457 (by decide) ?_
                  exact ih124 (i + 1) (0) (se2 + (if tvOf fT2 0 = true then nI v9 else 0)) (dn2 + (0)) (fT2) (by omega) (by omega) (by omega) (hd2) (rr_step hR (by omega) etk (rst_e0 hv9)) _ _ (hK.sub [0, 1, 2] rfl) (hP.sub [0, 1, 2, 3] rfl) (hD.sub [0, 1, 2, 3] (by decide) rfl) hS ls (lv_sub hl [4, 5, 6, 2, 0] rfl)
                refine lv_if_eq (tgt := 449) hx hb dX12_looks_429 (by decide) (fun c_41 => ?_) (fun c_41 => ?_)
                · skip
                  refine lv_iconst (v := 0) hx hb dX12_looks_449 (by decide) ?_
                  exact J429 0 (rfl)
                · skip
                  refine lv_iload hx hb dX12_looks_432 (lv_at hl 2 rfl) ?_
                  refine lv_sipush (v := (-400)) hx hb dX12_looks_434 (by decide) ?_
                  refine lv_icmp_gt (tgt := 449) hx hb dX12_looks_437 (by decide) (fun c_42 => ?_) (fun c_42 => absurd c_42 (fun q9 => q9 hg9))
                  refine lv_iconst (v := 0) hx hb dX12_looks_449 (by decide) ?_
                  exact J429 0 (rfl)
              refine lv_if_eq (tgt := 392) hx hb dX12_looks_381 (by decide) (fun c_43 => ?_) (fun c_43 => ?_)
              · skip
                refine lv_iconst (v := 0) hx hb dX12_looks_392 (by decide) ?_
                refine lv_goto (tgt := 418) hx hb dX12_looks_393 (by decide) ?_
                exact J381 0 ((if_neg (tv_z (by assumption))).symm)
              · skip
                refine lv_iload hx hb dX12_looks_384 (lv_at hl 2 rfl) ?_
                refine lv_sipush (v := (-400)) hx hb dX12_looks_386 (by decide) ?_
                refine lv_icmp_gt (tgt := 396) hx hb dX12_looks_389 (by decide) (fun c_44 => ?_) (fun c_44 => absurd c_44 (fun q9 => q9 hg9))
                refine lv_iload hx hb dX12_looks_396 (lv_at hl 2 rfl) ?_
                refine lv_sipush (v := (-200)) hx hb dX12_looks_398 (by decide) ?_
                refine lv_icmp_le (tgt := 412) hx hb dX12_looks_401 (by decide) (fun c_45 => absurd c_45 (hq9)) (fun c_45 => ?_)
                refine lv_bipush (v := (-10)) hx hb dX12_looks_404 (by decide) ?_
                refine lv_iload hx hb dX12_looks_406 (lv_at hl 2 rfl) ?_
                refine lv_isub hx hb dX12_looks_408 ?_
                refine lv_goto (tgt := 418) hx hb dX12_looks_409 (by decide) ?_
                exact J381 ((-10) - x0) (hv8.trans (if_pos (tv_p (by assumption))).symm)
            · skip
              obtain ⟨hn9, hm9, hl9, hg9, hq9, hv8⟩ := rce1 v9 (by omega)
              rw [← ext] at hn9 hm9 hl9 hg9 hq9 hv8
              have e2 := stepd_c hs2 hn9 hm9 hl9
              subst e2
              refine lv_iload hx hb dX12_looks_143 (lv_at hl 0 rfl) ?_
              refine lv_if_lt (tgt := 242) hx hb dX12_looks_145 (by decide) (fun c_46 => ?_) (fun c_46 => absurd c_46 (fun q9 => q9 hn9))
              refine lv_iload hx hb dX12_looks_242 (lv_at hl 0 rfl) ?_
              refine lv_iconst (v := (-1)) hx hb dX12_looks_244 (by decide) ?_
              refine lv_icmp_ne (tgt := 277) hx hb dX12_looks_245 (by decide) (fun c_47 => ?_) (fun c_47 => absurd c_47 (hm9))
              refine lv_iload hx hb dX12_looks_277 (lv_at hl 0 rfl) ?_
              refine lv_bipush (v := (-10)) hx hb dX12_looks_279 (by decide) ?_
              refine lv_icmp_le (tgt := 363) hx hb dX12_looks_281 (by decide) (fun c_48 => ?_) (fun c_48 => absurd c_48 (fun q9 => q9 hl9))
              refine lv_iconst (v := 0) hx hb dX12_looks_363 (by decide) ?_
              refine lv_istore (lv' := [(6, .int 0), (8, .int x0), (0, .ref m0), (4, .int (nI k)), (5, .int (nI (201 + 140 * h))), (7, .int (nI (201 + 140 * h + i)))]) hx hb dX12_looks_364 hl (by decide) rfl (fun ls hl => ?_)
              refine lv_aload_n hx hb dX12_looks_366 rfl (lv_at hl 2 rfl) ?_
              refine va_get (D := (dC, dI)) (ci := 14) (v := .ref aT) (C := RX12) (T := TX12) (N := 23) hx hb hts kc_looks_0 hown hK hP 0 rfl rfl 10 (by decide) (hts (.fieldLink RX12 21 "MistHeapsModel" "truths" "[Z") kc_looks_5) (fun _ h9 => h9) rfl dX12_looks_367 ?_
              refine lv_iconst (v := 0) hx hb dX12_looks_370 (by decide) ?_
              refine va_zald hx hb hK hP 3 2 rfl rfl (vp_in_nI (n := 0) (N := 64) (by omega) (by omega)) dX12_looks_371 ?_
              refine qi_as (y := fT2 0) (rfl) ?_
              refine lv_istore (lv' := [(9, .int (fT2 0)), (6, .int 0), (8, .int x0), (0, .ref m0), (4, .int (nI k)), (5, .int (nI (201 + 140 * h))), (7, .int (nI (201 + 140 * h + i)))]) hx hb dX12_looks_372 hl (by decide) rfl (fun ls hl => ?_)
              refine lv_aload_n hx hb dX12_looks_374 rfl (lv_at hl 3 rfl) ?_
              refine lv_dup hx hb dX12_looks_375 rfl ?_
              refine va_get (D := (dC, dI)) (ci := 14) (v := .int se2) (C := RX12) (T := TX12) (N := 23) hx hb hts kc_looks_0 hown hK hP 0 rfl rfl 11 (by decide) (hts (.fieldLink RX12 143 "MistHeapsModel" "seeing" "I") kc_looks_3) (fun _ h9 => h9) rfl dX12_looks_376 ?_
              refine lv_iload hx hb dX12_looks_379 (lv_at hl 0 rfl) ?_
              have J381 : ∀ v_49 : Int32, (v_49 = if tvOf fT2 0 = true then 0 - nI v9 else 0) → W p l e ({ frames := 0, cells := 0, slots := 0, locals := 0 } : Room) s m args below meth c H locs 0 0 Q (F0 m 418 ls [.int v_49, .int se2, .ref m0]) := by
                intro v_49 hv_50
                subst hv_50
                refine lv_iadd hx hb dX12_looks_418 ?_
                refine va_put (D := (dC, dI)) (ci := 14) (v := .int (se2 + (if tvOf fT2 0 = true then 0 - nI v9 else 0))) (ty := .int) (C := RX12) (T := TX12) (N := 23) hx hb hts kc_looks_0 tyX12 tyX12_ok nmX12 hown hK hP hD hS 0 rfl rfl 11 (by decide) (hts (.fieldLink RX12 143 "MistHeapsModel" "seeing" "I") kc_looks_3) (fun _ h9 => h9) rfl (by decide +kernel) rfl rfl (Nat.le_of_ble_eq_true rfl) dX12_looks_419 (fun H locs hP hD hS => ?_)
                have hP : va_P (dC, dI) vwCl [(zo14irriiiiiirriirrrrlriiii m0 th aS aI im ac sp en wg op aB aT (se2 + (if tvOf fT2 0 = true then 0 - nI v9 else 0)) dn2 aG aO aN aD bv aY rn kd nu tv), (zaI aS cS 901 fS), (zaI aB cB 6 fB3), (zaI aT cT 64 fT2)] H := hP
                have hD : va_D A [(zo14irriiiiiirriirrrrlriiii m0 th aS aI im ac sp en wg op aB aT (se2 + (if tvOf fT2 0 = true then 0 - nI v9 else 0)) dn2 aG aO aN aD bv aY rn kd nu tv), (zaI aS cS 901 fS), (zaI aB cB 6 fB3), (zaI aT cT 64 fT2)] := hD
                refine lv_aload_n hx hb dX12_looks_422 rfl (lv_at hl 3 rfl) ?_
                refine lv_dup hx hb dX12_looks_423 rfl ?_
                refine va_get (D := (dC, dI)) (ci := 14) (v := .int dn2) (C := RX12) (T := TX12) (N := 23) hx hb hts kc_looks_0 hown hK hP 0 rfl rfl 12 (by decide) (hts (.fieldLink RX12 146 "MistHeapsModel" "drifting" "I") kc_looks_4) (fun _ h9 => h9) rfl dX12_looks_424 ?_
                refine lv_iload hx hb dX12_looks_427 (lv_at hl 0 rfl) ?_
                have J429 : ∀ v_51 : Int32, (v_51 = 0) → W p l e ({ frames := 0, cells := 0, slots := 0, locals := 0 } : Room) s m args below meth c H locs 0 0 Q (F0 m 450 ls [.int v_51, .int dn2, .ref m0]) := by
                  intro v_51 hv_52
                  subst hv_52
                  refine lv_iadd hx hb dX12_looks_450 ?_
                  refine va_put (D := (dC, dI)) (ci := 14) (v := .int (dn2 + (0))) (ty := .int) (C := RX12) (T := TX12) (N := 23) hx hb hts kc_looks_0 tyX12 tyX12_ok nmX12 hown hK hP hD hS 0 rfl rfl 12 (by decide) (hts (.fieldLink RX12 146 "MistHeapsModel" "drifting" "I") kc_looks_4) (fun _ h9 => h9) rfl (by decide +kernel) rfl rfl (Nat.le_of_ble_eq_true rfl) dX12_looks_451 (fun H locs hP hD hS => ?_)
                  have hP : va_P (dC, dI) vwCl [(zo14irriiiiiirriirrrrlriiii m0 th aS aI im ac sp en wg op aB aT (se2 + (if tvOf fT2 0 = true then 0 - nI v9 else 0)) (dn2 + (0)) aG aO aN aD bv aY rn kd nu tv), (zaI aS cS 901 fS), (zaI aB cB 6 fB3), (zaI aT cT 64 fT2)] H := hP
                  have hD : va_D A [(zo14irriiiiiirriirrrrlriiii m0 th aS aI im ac sp en wg op aB aT (se2 + (if tvOf fT2 0 = true then 0 - nI v9 else 0)) (dn2 + (0)) aG aO aN aD bv aY rn kd nu tv), (zaI aS cS 901 fS), (zaI aB cB 6 fB3), (zaI aT cT 64 fT2)] := hD
                  refine lv_iinc (v := nI (201 + 140 * h + i + 1)) (lv' := [(7, .int (nI (201 + 140 * h + i + 1))), (9, .int (fT2 0)), (6, .int 0), (8, .int x0), (0, .ref m0), (4, .int (nI k)), (5, .int (nI (201 + 140 * h)))]) hx hb dX12_looks_454 hl (k := 6) rfl (nI_add (201 + 140 * h + i) 1) (by decide) rfl (fun ls hl => ?_)
                  refine lv_goto (tgt := 124) hx hb dX12_looks_457 (by decide) ?_
                  exact ih124 (i + 1) (0) (se2 + (if tvOf fT2 0 = true then 0 - nI v9 else 0)) (dn2 + (0)) (fT2) (by omega) (by omega) (by omega) (hd2) (rr_step hR (by omega) etk (rst_e1 hv9)) _ _ (hK.sub [0, 1, 2] rfl) (hP.sub [0, 1, 2, 3] rfl) (hD.sub [0, 1, 2, 3] (by decide) rfl) hS ls (lv_sub hl [4, 5, 6, 2, 0] rfl)
                refine lv_if_eq (tgt := 449) hx hb dX12_looks_429 (by decide) (fun c_53 => ?_) (fun c_53 => ?_)
                · skip
                  refine lv_iconst (v := 0) hx hb dX12_looks_449 (by decide) ?_
                  exact J429 0 (rfl)
                · skip
                  refine lv_iload hx hb dX12_looks_432 (lv_at hl 2 rfl) ?_
                  refine lv_sipush (v := (-400)) hx hb dX12_looks_434 (by decide) ?_
                  refine lv_icmp_gt (tgt := 449) hx hb dX12_looks_437 (by decide) (fun c_54 => ?_) (fun c_54 => absurd c_54 (fun q9 => q9 hg9))
                  refine lv_iconst (v := 0) hx hb dX12_looks_449 (by decide) ?_
                  exact J429 0 (rfl)
              refine lv_if_eq (tgt := 392) hx hb dX12_looks_381 (by decide) (fun c_55 => ?_) (fun c_55 => ?_)
              · skip
                refine lv_iconst (v := 0) hx hb dX12_looks_392 (by decide) ?_
                refine lv_goto (tgt := 418) hx hb dX12_looks_393 (by decide) ?_
                exact J381 0 ((if_neg (tv_z (by assumption))).symm)
              · skip
                refine lv_iload hx hb dX12_looks_384 (lv_at hl 2 rfl) ?_
                refine lv_sipush (v := (-400)) hx hb dX12_looks_386 (by decide) ?_
                refine lv_icmp_gt (tgt := 396) hx hb dX12_looks_389 (by decide) (fun c_56 => ?_) (fun c_56 => absurd c_56 (fun q9 => q9 hg9))
                refine lv_iload hx hb dX12_looks_396 (lv_at hl 2 rfl) ?_
                refine lv_sipush (v := (-200)) hx hb dX12_looks_398 (by decide) ?_
                refine lv_icmp_le (tgt := 412) hx hb dX12_looks_401 (by decide) (fun c_57 => ?_) (fun c_57 => absurd c_57 (fun q9 => q9 hq9))
                refine lv_iload hx hb dX12_looks_412 (lv_at hl 2 rfl) ?_
                refine lv_sipush (v := (-200)) hx hb dX12_looks_414 (by decide) ?_
                refine lv_isub hx hb dX12_looks_417 ?_
                exact J381 (x0 - (-200)) (hv8.trans (if_pos (tv_p (by assumption))).symm)
            · skip
              obtain ⟨hn9, hm9, hl9, hg9, hv8⟩ := rce3 v9 (by omega)
              rw [← ext] at hn9 hm9 hl9 hg9 hv8
              have e2 := stepd_c hs2 hn9 hm9 hl9
              subst e2
              refine lv_iload hx hb dX12_looks_143 (lv_at hl 0 rfl) ?_
              refine lv_if_lt (tgt := 242) hx hb dX12_looks_145 (by decide) (fun c_58 => ?_) (fun c_58 => absurd c_58 (fun q9 => q9 hn9))
              refine lv_iload hx hb dX12_looks_242 (lv_at hl 0 rfl) ?_
              refine lv_iconst (v := (-1)) hx hb dX12_looks_244 (by decide) ?_
              refine lv_icmp_ne (tgt := 277) hx hb dX12_looks_245 (by decide) (fun c_59 => ?_) (fun c_59 => absurd c_59 (hm9))
              refine lv_iload hx hb dX12_looks_277 (lv_at hl 0 rfl) ?_
              refine lv_bipush (v := (-10)) hx hb dX12_looks_279 (by decide) ?_
              refine lv_icmp_le (tgt := 363) hx hb dX12_looks_281 (by decide) (fun c_60 => ?_) (fun c_60 => absurd c_60 (fun q9 => q9 hl9))
              refine lv_iconst (v := 0) hx hb dX12_looks_363 (by decide) ?_
              refine lv_istore (lv' := [(6, .int 0), (8, .int x0), (0, .ref m0), (4, .int (nI k)), (5, .int (nI (201 + 140 * h))), (7, .int (nI (201 + 140 * h + i)))]) hx hb dX12_looks_364 hl (by decide) rfl (fun ls hl => ?_)
              refine lv_aload_n hx hb dX12_looks_366 rfl (lv_at hl 2 rfl) ?_
              refine va_get (D := (dC, dI)) (ci := 14) (v := .ref aT) (C := RX12) (T := TX12) (N := 23) hx hb hts kc_looks_0 hown hK hP 0 rfl rfl 10 (by decide) (hts (.fieldLink RX12 21 "MistHeapsModel" "truths" "[Z") kc_looks_5) (fun _ h9 => h9) rfl dX12_looks_367 ?_
              refine lv_iconst (v := 0) hx hb dX12_looks_370 (by decide) ?_
              refine va_zald hx hb hK hP 3 2 rfl rfl (vp_in_nI (n := 0) (N := 64) (by omega) (by omega)) dX12_looks_371 ?_
              refine qi_as (y := fT2 0) (rfl) ?_
              refine lv_istore (lv' := [(9, .int (fT2 0)), (6, .int 0), (8, .int x0), (0, .ref m0), (4, .int (nI k)), (5, .int (nI (201 + 140 * h))), (7, .int (nI (201 + 140 * h + i)))]) hx hb dX12_looks_372 hl (by decide) rfl (fun ls hl => ?_)
              refine lv_aload_n hx hb dX12_looks_374 rfl (lv_at hl 3 rfl) ?_
              refine lv_dup hx hb dX12_looks_375 rfl ?_
              refine va_get (D := (dC, dI)) (ci := 14) (v := .int se2) (C := RX12) (T := TX12) (N := 23) hx hb hts kc_looks_0 hown hK hP 0 rfl rfl 11 (by decide) (hts (.fieldLink RX12 143 "MistHeapsModel" "seeing" "I") kc_looks_3) (fun _ h9 => h9) rfl dX12_looks_376 ?_
              refine lv_iload hx hb dX12_looks_379 (lv_at hl 0 rfl) ?_
              have J381 : ∀ v_61 : Int32, (v_61 = 0) → W p l e ({ frames := 0, cells := 0, slots := 0, locals := 0 } : Room) s m args below meth c H locs 0 0 Q (F0 m 418 ls [.int v_61, .int se2, .ref m0]) := by
                intro v_61 hv_62
                subst hv_62
                refine lv_iadd hx hb dX12_looks_418 ?_
                refine va_put (D := (dC, dI)) (ci := 14) (v := .int (se2 + (0))) (ty := .int) (C := RX12) (T := TX12) (N := 23) hx hb hts kc_looks_0 tyX12 tyX12_ok nmX12 hown hK hP hD hS 0 rfl rfl 11 (by decide) (hts (.fieldLink RX12 143 "MistHeapsModel" "seeing" "I") kc_looks_3) (fun _ h9 => h9) rfl (by decide +kernel) rfl rfl (Nat.le_of_ble_eq_true rfl) dX12_looks_419 (fun H locs hP hD hS => ?_)
                have hP : va_P (dC, dI) vwCl [(zo14irriiiiiirriirrrrlriiii m0 th aS aI im ac sp en wg op aB aT (se2 + (0)) dn2 aG aO aN aD bv aY rn kd nu tv), (zaI aS cS 901 fS), (zaI aB cB 6 fB3), (zaI aT cT 64 fT2)] H := hP
                have hD : va_D A [(zo14irriiiiiirriirrrrlriiii m0 th aS aI im ac sp en wg op aB aT (se2 + (0)) dn2 aG aO aN aD bv aY rn kd nu tv), (zaI aS cS 901 fS), (zaI aB cB 6 fB3), (zaI aT cT 64 fT2)] := hD
                refine lv_aload_n hx hb dX12_looks_422 rfl (lv_at hl 3 rfl) ?_
                refine lv_dup hx hb dX12_looks_423 rfl ?_
                refine va_get (D := (dC, dI)) (ci := 14) (v := .int dn2) (C := RX12) (T := TX12) (N := 23) hx hb hts kc_looks_0 hown hK hP 0 rfl rfl 12 (by decide) (hts (.fieldLink RX12 146 "MistHeapsModel" "drifting" "I") kc_looks_4) (fun _ h9 => h9) rfl dX12_looks_424 ?_
                refine lv_iload hx hb dX12_looks_427 (lv_at hl 0 rfl) ?_
                have J429 : ∀ v_63 : Int32, (v_63 = if tvOf fT2 0 = true then nI v9 else 0) → W p l e ({ frames := 0, cells := 0, slots := 0, locals := 0 } : Room) s m args below meth c H locs 0 0 Q (F0 m 450 ls [.int v_63, .int dn2, .ref m0]) := by
                  intro v_63 hv_64
                  subst hv_64
                  refine lv_iadd hx hb dX12_looks_450 ?_
                  refine va_put (D := (dC, dI)) (ci := 14) (v := .int (dn2 + (if tvOf fT2 0 = true then nI v9 else 0))) (ty := .int) (C := RX12) (T := TX12) (N := 23) hx hb hts kc_looks_0 tyX12 tyX12_ok nmX12 hown hK hP hD hS 0 rfl rfl 12 (by decide) (hts (.fieldLink RX12 146 "MistHeapsModel" "drifting" "I") kc_looks_4) (fun _ h9 => h9) rfl (by decide +kernel) rfl rfl (Nat.le_of_ble_eq_true rfl) dX12_looks_451 (fun H locs hP hD hS => ?_)
                  have hP : va_P (dC, dI) vwCl [(zo14irriiiiiirriirrrrlriiii m0 th aS aI im ac sp en wg op aB aT (se2 + (0)) (dn2 + (if tvOf fT2 0 = true then nI v9 else 0)) aG aO aN aD bv aY rn kd nu tv), (zaI aS cS 901 fS), (zaI aB cB 6 fB3), (zaI aT cT 64 fT2)] H := hP
                  have hD : va_D A [(zo14irriiiiiirriirrrrlriiii m0 th aS aI im ac sp en wg op aB aT (se2 + (0)) (dn2 + (if tvOf fT2 0 = true then nI v9 else 0)) aG aO aN aD bv aY rn kd nu tv), (zaI aS cS 901 fS), (zaI aB cB 6 fB3), (zaI aT cT 64 fT2)] := hD
                  refine lv_iinc (v := nI (201 + 140 * h + i + 1)) (lv' := [(7, .int (nI (201 + 140 * h + i + 1))), (9, .int (fT2 0)), (6, .int 0), (8, .int x0), (0, .ref m0), (4, .int (nI k)), (5, .int (nI (201 + 140 * h)))]) hx hb dX12_looks_454 hl (k := 6) rfl (nI_add (201 + 140 * h + i) 1) (by decide) rfl (fun ls hl => ?_)
                  refine lv_goto (tgt := 124) hx hb dX12_looks_457 (by decide) ?_
                  exact ih124 (i + 1) (0) (se2 + (0)) (dn2 + (if tvOf fT2 0 = true then nI v9 else 0)) (fT2) (by omega) (by omega) (by omega) (hd2) (rr_step hR (by omega) etk (rst_e3 hv9)) _ _ (hK.sub [0, 1, 2] rfl) (hP.sub [0, 1, 2, 3] rfl) (hD.sub [0, 1, 2, 3] (by decide) rfl) hS ls (lv_sub hl [4, 5, 6, 2, 0] rfl)
                refine lv_if_eq (tgt := 449) hx hb dX12_looks_429 (by decide) (fun c_65 => ?_) (fun c_65 => ?_)
                · skip
                  refine lv_iconst (v := 0) hx hb dX12_looks_449 (by decide) ?_
                  exact J429 0 ((if_neg (tv_z (by assumption))).symm)
                · skip
                  refine lv_iload hx hb dX12_looks_432 (lv_at hl 2 rfl) ?_
                  refine lv_sipush (v := (-400)) hx hb dX12_looks_434 (by decide) ?_
                  refine lv_icmp_gt (tgt := 449) hx hb dX12_looks_437 (by decide) (fun c_66 => absurd c_66 (hg9)) (fun c_66 => ?_)
                  refine lv_sipush (v := (-400)) hx hb dX12_looks_440 (by decide) ?_
                  refine lv_iload hx hb dX12_looks_443 (lv_at hl 2 rfl) ?_
                  refine lv_isub hx hb dX12_looks_445 ?_
                  refine lv_goto (tgt := 450) hx hb dX12_looks_446 (by decide) ?_
                  exact J429 ((-400) - x0) (hv8.trans (if_pos (tv_p (by assumption))).symm)
              refine lv_if_eq (tgt := 392) hx hb dX12_looks_381 (by decide) (fun c_67 => ?_) (fun c_67 => ?_)
              · skip
                refine lv_iconst (v := 0) hx hb dX12_looks_392 (by decide) ?_
                refine lv_goto (tgt := 418) hx hb dX12_looks_393 (by decide) ?_
                exact J381 0 (rfl)
              · skip
                refine lv_iload hx hb dX12_looks_384 (lv_at hl 2 rfl) ?_
                refine lv_sipush (v := (-400)) hx hb dX12_looks_386 (by decide) ?_
                refine lv_icmp_gt (tgt := 396) hx hb dX12_looks_389 (by decide) (fun c_68 => absurd c_68 (hg9)) (fun c_68 => ?_)
                refine lv_iconst (v := 0) hx hb dX12_looks_392 (by decide) ?_
                refine lv_goto (tgt := 418) hx hb dX12_looks_393 (by decide) ?_
                exact J381 0 (rfl)
    exact L124 _ (0) (0) (0) (0) (fT) (Nat.lt_succ_self _) (by omega) (by omega) (rfl) (rfl) _ _ (hK.sub [0, 1, 2] rfl) (hP.sub [0, 1, 2, 3] rfl) (hD.sub [0, 1, 2, 3] (by decide) rfl) hS ls (lv_sub hl [4, 3, 2, 1, 0] rfl)

theorem kc_sight_0 : ∀ w ∈ wsX120, w ∈ wsX12_sight := fun w h => List.mem_cons_of_mem _ (gin_wsX120 w h)
theorem kc_sight_1 : (.fieldLink RX12 9 "MistHeapsModel" "s" "[I" : Cond) ∈ wsX12_sight := kc_of 1141 rfl rfl rfl
set_option maxHeartbeats 4000000 in
set_option maxRecDepth 100000 in
theorem c_sight (l : Launch) (dC : Nat → ClassId) (dI : Nat → Nat → Nat) (m0 aS aI aB aT aG aO aN aD aY : Nat) (th im ac sp en wg op se dn rn kd nu tv : Int32) (bv : Int64) (cS : ClassId) (fS : Nat → Int32) (cz : List pCla) (zh : hol fS cz) : Met l yX12_sight wsX12_sight ({ frames := 0, cells := 0, slots := 0, locals := 0 } : Room) (va_Pc [.ref m0] (fun U => va_P (dC, dI) vwCl [(zo14irriiiiiirriirrrrlriiii m0 th aS aI im ac sp en wg op aB aT se dn aG aO aN aD bv aY rn kd nu tv), (zaI aS cS 901 fS)] U.heap ∧ va_K (dC, dI) vwCl [(cS, .int)] U)) (vp_Si (fun r => r = nI (sgC cz))) 0 0 (fun _ => False) := by
  refine met_ofQ (cc := cX12_sight) (maxL := 1) (ret := (some .int)) (by decide) rfl ?_
  intro p e s m args below meth c s₁ Q B hml hv hQ
  obtain ⟨rfl, hP, hK⟩ := hv
  have hx := B.exec
  have hb := B.bytes
  have hr := B.returns
  have hts := atoms_spec (ws := wsX12_sight) B.pre
  have hown : s.vm.findClass RX12 = some m.cls := findClass_of_methodNamed B.named
  have hlocks := B.notSynchronized
  obtain ⟨A, hAe⟩ : ∃ A : Nat → Prop, A = fun _ => False := ⟨_, rfl⟩
  rw [← hAe] at hQ
  have hS : va_S A s.heap s.heap [] := va_S.rf
  have hl := lv_entry [.ref m0] (n := 1) (Nat.le_of_ble_eq_true rfl)
  rw [lg_entry_eq]
  generalize (lg_sl [.ref m0] ++ List.replicate (1 - (lg_sl [.ref m0]).length) Slot.unset).toArray = ls at hl ⊢
  generalize hag : ([.ref m0] : List Value).toArray = args at hts hQ ⊢
  have hl : lv_has ls 1 [(0, .ref m0)] := hl
  obtain ⟨hwf, ⟨zh, rfl⟩ | ⟨h, hh, zh, ⟨k, hk, zk, zo⟩, hcd⟩⟩ := zh
  · skip
    refine lv_aload_n hx hb dX12_sight_0 rfl (lv_at hl 0 rfl) ?_
    refine va_get (D := (dC, dI)) (ci := 14) (v := .ref aS) (C := RX12) (T := TX12) (N := 23) hx hb hts kc_sight_0 hown hK hP 0 rfl rfl 1 (by decide) (hts (.fieldLink RX12 9 "MistHeapsModel" "s" "[I") kc_sight_1) (fun _ h9 => h9) rfl dX12_sight_1 ?_
    refine lv_iconst (v := 5) hx hb dX12_sight_4 (by decide) ?_
    refine va_iald hx hb hK hP 1 0 rfl rfl (vp_in_nI (n := 5) (N := 901) (by omega) (by omega)) dX12_sight_5 ?_
    refine qi_as (y := (-1)) ((show fS (5 : Int32).toNatClampNeg = fS 5 from rfl).trans (zh)) ?_
    refine lv_iconst (v := (-1)) hx hb dX12_sight_6 (by decide) ?_
    refine lv_icmp_ne (tgt := 14) hx hb dX12_sight_7 (by decide) (fun c_1 => absurd c_1 (by decide)) (fun _ => ?_)
    refine lv_iconst (v := 3) hx hb dX12_sight_10 (by decide) ?_
    refine lv_goto (tgt := 29) hx hb dX12_sight_11 (by decide) ?_
    rw [hQ]
    exact W.iret (v := 3) hx hb hr (fun tQ htQ hWQ => ⟨3, rfl, rfl, by rw [htQ]⟩) (fun q hq => absurd hq List.not_mem_nil) dX12_sight_29
  · skip
    refine lv_aload_n hx hb dX12_sight_0 rfl (lv_at hl 0 rfl) ?_
    refine va_get (D := (dC, dI)) (ci := 14) (v := .ref aS) (C := RX12) (T := TX12) (N := 23) hx hb hts kc_sight_0 hown hK hP 0 rfl rfl 1 (by decide) (hts (.fieldLink RX12 9 "MistHeapsModel" "s" "[I") kc_sight_1) (fun _ h9 => h9) rfl dX12_sight_1 ?_
    refine lv_iconst (v := 5) hx hb dX12_sight_4 (by decide) ?_
    refine va_iald hx hb hK hP 1 0 rfl rfl (vp_in_nI (n := 5) (N := 901) (by omega) (by omega)) dX12_sight_5 ?_
    refine qi_as (y := nI h) ((show fS (5 : Int32).toNatClampNeg = fS 5 from rfl).trans (zh)) ?_
    refine lv_iconst (v := (-1)) hx hb dX12_sight_6 (by decide) ?_
    refine lv_icmp_ne (tgt := 14) hx hb dX12_sight_7 (by decide) (fun c_2 => ?_) (fun c_2 => absurd c_2 (nI_nm1 (by omega)))
    refine lv_aload_n hx hb dX12_sight_14 rfl (lv_at hl 0 rfl) ?_
    refine va_get (D := (dC, dI)) (ci := 14) (v := .ref aS) (C := RX12) (T := TX12) (N := 23) hx hb hts kc_sight_0 hown hK hP 0 rfl rfl 1 (by decide) (hts (.fieldLink RX12 9 "MistHeapsModel" "s" "[I") kc_sight_1) (fun _ h9 => h9) rfl dX12_sight_15 ?_
    refine lv_sipush (v := 191) hx hb dX12_sight_18 (by decide) ?_
    refine lv_aload_n hx hb dX12_sight_21 rfl (lv_at hl 0 rfl) ?_
    refine va_get (D := (dC, dI)) (ci := 14) (v := .ref aS) (C := RX12) (T := TX12) (N := 23) hx hb hts kc_sight_0 hown hK hP 0 rfl rfl 1 (by decide) (hts (.fieldLink RX12 9 "MistHeapsModel" "s" "[I") kc_sight_1) (fun _ h9 => h9) rfl dX12_sight_22 ?_
    refine lv_iconst (v := 5) hx hb dX12_sight_25 (by decide) ?_
    refine va_iald hx hb hK hP 1 0 rfl rfl (vp_in_nI (n := 5) (N := 901) (by omega) (by omega)) dX12_sight_26 ?_
    refine qi_as (y := nI h) ((show fS (5 : Int32).toNatClampNeg = fS 5 from rfl).trans (zh)) ?_
    refine lv_iadd hx hb dX12_sight_27 ?_
    refine qi_as (y := nI (191 + h)) (nI_add 191 h) ?_
    refine va_iald hx hb hK hP 1 0 rfl rfl (vp_in_nI (n := 191 + h) (N := 901) (by omega) (by omega)) dX12_sight_28 ?_
    refine qi_as (y := fS (191 + h)) (by rw [nI_clamp (by omega)]) ?_
    rw [hQ]
    exact W.iret (v := fS (191 + h)) hx hb hr (fun tQ htQ hWQ => ⟨fS (191 + h), rfl, hcd.2.2.2, by rw [htQ]⟩) (fun q hq => absurd hq List.not_mem_nil) dX12_sight_29

theorem kc_reachOf_0 : ∀ w ∈ wsX120, w ∈ wsX12_reachOf := fun w h => List.mem_cons_of_mem _ (gin_wsX120 w h)
theorem kc_reachOf_1 : (.fieldLink RX12 9 "MistHeapsModel" "s" "[I" : Cond) ∈ wsX12_reachOf := kc_of 1141 rfl rfl rfl
theorem kc_reachOf_2 : (.fieldLink RX12 143 "MistHeapsModel" "seeing" "I" : Cond) ∈ wsX12_reachOf := kc_of 1151 rfl rfl rfl
set_option maxHeartbeats 4000000 in
set_option maxRecDepth 100000 in
theorem c_reachOf (l : Launch) (dC : Nat → ClassId) (dI : Nat → Nat → Nat) (m0 aS aI aB aT aG aO aN aD aY : Nat) (th im ac sp en wg op se dn rn kd nu tv : Int32) (bv : Int64) (cS cB cT : ClassId) (fS : Nat → Int32) (fB : Nat → Int32) (fT : Nat → Int32) (h : Nat) (cz : List pCla) (sz : Nat) (hh : h ≤ 8) (zh : hol fS cz) : Met l yX12_reachOf wsX12_reachOf ({ frames := 1, cells := 0, slots := 0, locals := 31 } : Room) (va_Pc [.ref m0, .int (nI h)] (fun U => U.heap.size = sz ∧ va_P (dC, dI) vwCl [(zo14irriiiiiirriirrrrlriiii m0 th aS aI im ac sp en wg op aB aT se dn aG aO aN aD bv aY rn kd nu tv), (zaI aS cS 901 fS), (zaI aB cB 6 fB), (zaI aT cT 64 fT)] U.heap ∧ va_K (dC, dI) vwCl [(cS, .int), (cB, .int), (cT, .boolean)] U ∧ va_D (fun _ => True) [(zo14irriiiiiirriirrrrlriiii m0 th aS aI im ac sp en wg op aB aT se dn aG aO aN aD bv aY rn kd nu tv), (zaI aS cS 901 fS), (zaI aB cB 6 fB), (zaI aT cT 64 fT)])) (va_Qi (fun (r : Int32) (u : (Nat → Int32) × (Nat → Int32) × (Int32) × (Int32)) => match u with | (fB9, fT9, se9, dn9) => r = RR fS cz h) (fun (u : (Nat → Int32) × (Nat → Int32) × (Int32) × (Int32)) (t : State) => match u with | (fB9, fT9, se9, dn9) => va_P (dC, dI) vwCl [(zo14irriiiiiirriirrrrlriiii m0 th aS aI im ac sp en wg op aB aT se9 dn9 aG aO aN aD bv aY rn kd nu tv), (zaI aS cS 901 fS), (zaI aB cB 6 fB9), (zaI aT cT 64 fT9)] t.heap ∧ va_K (dC, dI) vwCl [(cS, .int), (cB, .int), (cT, .boolean)] t ∧ va_D (va_A [(zo14irriiiiiirriirrrrlriiii m0 th aS aI im ac sp en wg op aB aT se dn aG aO aN aD bv aY rn kd nu tv), (zaI aS cS 901 fS), (zaI aB cB 6 fB), (zaI aT cT 64 fT)] sz) [(zo14irriiiiiirriirrrrlriiii m0 th aS aI im ac sp en wg op aB aT se9 dn9 aG aO aN aD bv aY rn kd nu tv), (zaI aS cS 901 fS), (zaI aB cB 6 fB9), (zaI aT cT 64 fT9)]) (va_A [(zo14irriiiiiirriirrrrlriiii m0 th aS aI im ac sp en wg op aB aT se dn aG aO aN aD bv aY rn kd nu tv), (zaI aS cS 901 fS), (zaI aB cB 6 fB), (zaI aT cT 64 fT)] sz)) 0 0 (va_A [(zo14irriiiiiirriirrrrlriiii m0 th aS aI im ac sp en wg op aB aT se dn aG aO aN aD bv aY rn kd nu tv), (zaI aS cS 901 fS), (zaI aB cB 6 fB), (zaI aT cT 64 fT)] sz) := by
  refine met_ofQ (cc := cX12_reachOf) (maxL := 5) (ret := (some .int)) (by decide) rfl ?_
  intro p e s m args below meth c s₁ Q B hml hv hQ
  obtain ⟨rfl, hsz, hP, hK, hD0⟩ := hv
  have hx := B.exec
  have hb := B.bytes
  have hr := B.returns
  have hts := atoms_spec (ws := wsX12_reachOf) B.pre
  have hown : s.vm.findClass RX12 = some m.cls := findClass_of_methodNamed B.named
  have hlocks := B.notSynchronized
  subst hsz
  have hD := hD0.self (sz := s.heap.size)
  generalize hAe : va_A [(zo14irriiiiiirriirrrrlriiii m0 th aS aI im ac sp en wg op aB aT se dn aG aO aN aD bv aY rn kd nu tv), (zaI aS cS 901 fS), (zaI aB cB 6 fB), (zaI aT cT 64 fT)] s.heap.size = A at hD hQ ⊢
  have hA : ∀ q : Nat, s.heap.size ≤ q → A q := fun q h => by rw [← hAe]; exact Or.inr h
  have hS : va_S A s.heap s.heap [] := va_S.rf
  have hl := lv_entry [.ref m0, .int (nI h)] (n := 5) (Nat.le_of_ble_eq_true rfl)
  rw [lg_entry_eq]
  generalize (lg_sl [.ref m0, .int (nI h)] ++ List.replicate (5 - (lg_sl [.ref m0, .int (nI h)]).length) Slot.unset).toArray = ls at hl ⊢
  generalize hag : ([.ref m0, .int (nI h)] : List Value).toArray = args at hts hQ ⊢
  have hl : lv_has ls 5 [(0, .ref m0), (1, .int (nI h))] := hl
  obtain ⟨H, hH⟩ : ∃ H : Heap, H = s.heap := ⟨_, rfl⟩
  rw [← hH] at hP
  rw [← hH]
  have hS : va_S A s.heap H [] := by rw [hH]; exact hS
  obtain ⟨locs, hlo⟩ : ∃ L : List Loc, L = [] := ⟨_, rfl⟩
  rw [← hlo] at hS
  rw [← hlo]
  clear hH hlo
  refine lv_aload_n hx hb dX12_reachOf_0 rfl (lv_at hl 0 rfl) ?_
  refine va_get (D := (dC, dI)) (ci := 14) (v := .ref aS) (C := RX12) (T := TX12) (N := 23) hx hb hts kc_reachOf_0 hown hK hP 0 rfl rfl 1 (by decide) (hts (.fieldLink RX12 9 "MistHeapsModel" "s" "[I") kc_reachOf_1) (fun _ h9 => h9) rfl dX12_reachOf_1 ?_
  refine lv_bipush (v := 10) hx hb dX12_reachOf_4 (by decide) ?_
  refine lv_iload_n hx hb dX12_reachOf_6 rfl (lv_at hl 1 rfl) ?_
  refine lv_iadd hx hb dX12_reachOf_7 ?_
  refine qi_as (y := nI (10 + h)) (nI_add 10 h) ?_
  refine va_iald hx hb hK hP 1 0 rfl rfl (vp_in_nI (n := 10 + h) (N := 901) (by omega) (by omega)) dX12_reachOf_8 ?_
  refine qi_as (y := fS (10 + h)) (by rw [nI_clamp (by omega)]) ?_
  refine lv_istore_n (lv' := [(2, .int (fS (10 + h))), (0, .ref m0), (1, .int (nI h))]) hx hb dX12_reachOf_9 rfl hl (by decide) rfl (fun ls hl => ?_)
  refine lv_aload_n hx hb dX12_reachOf_10 rfl (lv_at hl 1 rfl) ?_
  refine va_get (D := (dC, dI)) (ci := 14) (v := .ref aS) (C := RX12) (T := TX12) (N := 23) hx hb hts kc_reachOf_0 hown hK hP 0 rfl rfl 1 (by decide) (hts (.fieldLink RX12 9 "MistHeapsModel" "s" "[I") kc_reachOf_1) (fun _ h9 => h9) rfl dX12_reachOf_11 ?_
  refine lv_bipush (v := 19) hx hb dX12_reachOf_14 (by decide) ?_
  refine lv_iload_n hx hb dX12_reachOf_16 rfl (lv_at hl 2 rfl) ?_
  refine lv_iadd hx hb dX12_reachOf_17 ?_
  refine qi_as (y := nI (19 + h)) (nI_add 19 h) ?_
  refine va_iald hx hb hK hP 1 0 rfl rfl (vp_in_nI (n := 19 + h) (N := 901) (by omega) (by omega)) dX12_reachOf_18 ?_
  refine qi_as (y := fS (19 + h)) (by rw [nI_clamp (by omega)]) ?_
  refine lv_istore_n (lv' := [(3, .int (fS (19 + h))), (2, .int (fS (10 + h))), (0, .ref m0), (1, .int (nI h))]) hx hb dX12_reachOf_19 rfl hl (by decide) rfl (fun ls hl => ?_)
  refine lv_aload_n hx hb dX12_reachOf_20 rfl (lv_at hl 2 rfl) ?_
  refine lv_iload_n hx hb dX12_reachOf_21 rfl (lv_at hl 3 rfl) ?_
  refine lv_iload_n hx hb dX12_reachOf_22 rfl (lv_at hl 1 rfl) ?_
  refine lv_aload_n hx hb dX12_reachOf_23 rfl (lv_at hl 2 rfl) ?_
  refine va_get (D := (dC, dI)) (ci := 14) (v := .ref aS) (C := RX12) (T := TX12) (N := 23) hx hb hts kc_reachOf_0 hown hK hP 0 rfl rfl 1 (by decide) (hts (.fieldLink RX12 9 "MistHeapsModel" "s" "[I") kc_reachOf_1) (fun _ h9 => h9) rfl dX12_reachOf_24 ?_
  refine lv_bipush (v := 28) hx hb dX12_reachOf_27 (by decide) ?_
  refine lv_iload_n hx hb dX12_reachOf_29 rfl (lv_at hl 3 rfl) ?_
  refine lv_iadd hx hb dX12_reachOf_30 ?_
  refine qi_as (y := nI (28 + h)) (nI_add 28 h) ?_
  refine va_iald hx hb hK hP 1 0 rfl rfl (vp_in_nI (n := 28 + h) (N := 901) (by omega) (by omega)) dX12_reachOf_31 ?_
  refine qi_as (y := fS (28 + h)) (by rw [nI_clamp (by omega)]) ?_
  have hPc := hP.sub (ws' := [(zo14irriiiiiirriirrrrlriiii m0 th aS aI im ac sp en wg op aB aT se dn aG aO aN aD bv aY rn kd nu tv), (zaI aS cS 901 fS), (zaI aB cB 6 fB), (zaI aT cT 64 fT)]) [0, 1, 2, 3] rfl
  have hDc := hD.sub (ws' := [(zo14irriiiiiirriirrrrlriiii m0 th aS aI im ac sp en wg op aB aT se dn aG aO aN aD bv aY rn kd nu tv), (zaI aS cS 901 fS), (zaI aB cB 6 fB), (zaI aT cT 64 fT)]) [0, 1, 2, 3] (by decide) rfl
  have hKc := hK.sub (tys' := [(cS, .int), (cB, .int), (cT, .boolean)]) [0, 1, 2] rfl
  have hFc := va_free (wc := [(zo14irriiiiiirriirrrrlriiii m0 th aS aI im ac sp en wg op aB aT se dn aG aO aN aD bv aY rn kd nu tv), (zaI aS cS 901 fS), (zaI aB cB 6 fB), (zaI aT cT 64 fT)]) hD hS hA [0, 1, 2, 3] rfl
  refine va_callv (va_runV (As := [.int (nI h), .int (fS (10 + h)), .int (fS (28 + h))]) (rest := []) ⟨hx, hb, hml, hown, hts⟩ (c_looks l dC dI m0 aS aI aB aT aG aO aN aD aY th im ac sp en wg op se dn rn kd nu tv bv cS cB cT fS fB fT (nI h) (fS (10 + h)) (fS (28 + h)) cz H.size (zh)) (cwV 3 hts gX12_reachOf_X12_looks rfl rfl rfl hd_yX12_looks ⟨Nat.le_of_ble_eq_true rfl, Nat.le_of_ble_eq_true rfl⟩) ⟨fun a U g mk q => by obtain ⟨q0, q1, qP, qK, qD⟩ := q; exact ⟨q0, mvz g mk a q1, mvP g mk a qP, mvK g mk a qK, qD⟩, va_recv hK hP (ci := 14) (q := (RX12, TX12, 23)) (q0 := 0) rfl rfl, fun U hU hW => ⟨rfl, by rw [hU], by rw [hU]; exact hPc, va_K.moved hW.alike hKc, hDc.weaken (fun _ _ _ _ => trivial)⟩⟩ rfl rfl hl.1 rfl (lv_room (Nat.le_of_ble_eq_true rfl)) dX12_reachOf_32 ⟨Nat.le_of_ble_eq_true rfl, Nat.le_of_ble_eq_true rfl⟩) hS (fun q _ h => hFc q h) hFc (fun u tC H1 locs htC hvm hw_2 hB hz1 hk1 hS => ?_)
  obtain ⟨fB9_3, fT9_4, se9_5, dn9_6⟩ := u
  try dsimp only at hw_2 hB
  obtain ⟨hP1, hK1, hD1⟩ := hB
  rw [htC] at hP1
  have hK1 := va_K.moved hvm.symm hK1
  obtain ⟨hP, hD⟩ := va_join (wr := []) (w1 := [(zo14irriiiiiirriirrrrlriiii m0 th aS aI im ac sp en wg op aB aT se9_5 dn9_6 aG aO aN aD bv aY rn kd nu tv), (zaI aS cS 901 fS), (zaI aB cB 6 fB9_3), (zaI aT cT 64 fT9_4)]) hP hD [0, 1, 2, 3] [] rfl rfl (by decide) (by decide) hk1 hFc hP1 hD1
  have hK := (hK.sub (tys' := []) [] rfl).app hK1
  generalize H1 = H at hP hS ⊢
  have hP : va_P (dC, dI) vwCl [(zo14irriiiiiirriirrrrlriiii m0 th aS aI im ac sp en wg op aB aT se9_5 dn9_6 aG aO aN aD bv aY rn kd nu tv), (zaI aS cS 901 fS), (zaI aB cB 6 fB9_3), (zaI aT cT 64 fT9_4)] H := hP
  have hD : va_D A [(zo14irriiiiiirriirrrrlriiii m0 th aS aI im ac sp en wg op aB aT se9_5 dn9_6 aG aO aN aD bv aY rn kd nu tv), (zaI aS cS 901 fS), (zaI aB cB 6 fB9_3), (zaI aT cT 64 fT9_4)] := hD
  have hK : va_K (dC, dI) vwCl [(cS, .int), (cB, .int), (cT, .boolean)] s := hK
  obtain ⟨ese, edn⟩ := hw_2
  refine lv_aload_n hx hb dX12_reachOf_35 rfl (lv_at hl 2 rfl) ?_
  have hPc := hP.sub (ws' := [(zo14irriiiiiirriirrrrlriiii m0 th aS aI im ac sp en wg op aB aT se9_5 dn9_6 aG aO aN aD bv aY rn kd nu tv), (zaI aS cS 901 fS)]) [0, 1] rfl
  have hKc := hK.sub (tys' := [(cS, .int)]) [0] rfl
  refine vp_callSi (va_runV (As := []) (rest := []) ⟨hx, hb, hml, hown, hts⟩ (c_sight l dC dI m0 aS aI aB aT aG aO aN aD aY th im ac sp en wg op se9_5 dn9_6 rn kd nu tv bv cS fS cz (zh)) (cwV 0 hts gX12_reachOf_X12_sight rfl rfl rfl hd_yX12_sight ⟨Nat.le_of_ble_eq_true rfl, Nat.le_of_ble_eq_true rfl⟩) ⟨fun a U g mk q => by obtain ⟨q0, qP, qK⟩ := q; exact ⟨q0, mvP g mk a qP, mvK g mk a qK⟩, va_recv hK hP (ci := 14) (q := (RX12, TX12, 23)) (q0 := 0) rfl rfl, fun U hU hW => ⟨rfl, by rw [hU]; exact hPc, va_K.moved hW.alike hKc⟩⟩ rfl rfl hl.1 rfl (lv_room (Nat.le_of_ble_eq_true rfl)) dX12_reachOf_36 ⟨Nat.le_of_ble_eq_true rfl, Nat.le_of_ble_eq_true rfl⟩).run (fun r_7 hw_8 => ?_)
  have esg := hw_8
  refine lv_aload_n hx hb dX12_reachOf_39 rfl (lv_at hl 2 rfl) ?_
  refine va_get (D := (dC, dI)) (ci := 14) (v := .int se9_5) (C := RX12) (T := TX12) (N := 23) hx hb hts kc_reachOf_0 hown hK hP 0 rfl rfl 11 (by decide) (hts (.fieldLink RX12 143 "MistHeapsModel" "seeing" "I") kc_reachOf_2) (fun _ h9 => h9) rfl dX12_reachOf_40 ?_
  refine lv_iadd hx hb dX12_reachOf_43 ?_
  refine lv_aload_n hx hb dX12_reachOf_44 rfl (lv_at hl 2 rfl) ?_
  refine va_get (D := (dC, dI)) (ci := 14) (v := .ref aS) (C := RX12) (T := TX12) (N := 23) hx hb hts kc_reachOf_0 hown hK hP 0 rfl rfl 1 (by decide) (hts (.fieldLink RX12 9 "MistHeapsModel" "s" "[I") kc_reachOf_1) (fun _ h9 => h9) rfl dX12_reachOf_45 ?_
  refine lv_bipush (v := 6) hx hb dX12_reachOf_48 (by decide) ?_
  refine va_iald hx hb hK hP 1 0 rfl rfl (vp_in_nI (n := 6) (N := 901) (by omega) (by omega)) dX12_reachOf_50 ?_
  refine qi_as (y := fS 6) (rfl) ?_
  refine lv_isub hx hb dX12_reachOf_51 ?_
  refine lv_istore (lv' := [(4, .int ((r_7 + se9_5) - (fS 6))), (3, .int (fS (19 + h))), (2, .int (fS (10 + h))), (0, .ref m0), (1, .int (nI h))]) hx hb dX12_reachOf_52 hl (by decide) rfl (fun ls hl => ?_)
  refine lv_iload hx hb dX12_reachOf_54 (lv_at hl 0 rfl) ?_
  refine lv_iload_n hx hb dX12_reachOf_56 rfl (lv_at hl 2 rfl) ?_
  refine lv_iconst (v := 1) hx hb dX12_reachOf_57 (by decide) ?_
  have J58 : ∀ v_9 : Int32, (v_9 = rc1 (fS (10 + h)) (fS (19 + h))) → W p l e ({ frames := 1, cells := 0, slots := 0, locals := 31 } : Room) s m args below meth c H locs 0 0 Q (F0 m 87 ls [.int v_9, .int ((r_7 + se9_5) - (fS 6))]) := by
    intro v_9 hv_10
    subst hv_10
    refine lv_iadd hx hb dX12_reachOf_87 ?_
    refine lv_istore (lv' := [(4, .int (((r_7 + se9_5) - (fS 6)) + (rc1 (fS (10 + h)) (fS (19 + h))))), (3, .int (fS (19 + h))), (2, .int (fS (10 + h))), (0, .ref m0), (1, .int (nI h))]) hx hb dX12_reachOf_88 hl (by decide) rfl (fun ls hl => ?_)
    refine lv_iload hx hb dX12_reachOf_90 (lv_at hl 0 rfl) ?_
    have J92 : ∀ v_11 : Int32, (v_11 = rc2 (((r_7 + se9_5) - (fS 6)) + (rc1 (fS (10 + h)) (fS (19 + h)))) (fS (10 + h)) (fS (19 + h)) (fS 7)) → W p l e ({ frames := 1, cells := 0, slots := 0, locals := 31 } : Room) s m args below meth c H locs 0 0 Q (F0 m 117 ls [.int v_11]) := by
      intro v_11 hv_12
      subst hv_12
      refine lv_istore (lv' := [(4, .int (rc2 (((r_7 + se9_5) - (fS 6)) + (rc1 (fS (10 + h)) (fS (19 + h)))) (fS (10 + h)) (fS (19 + h)) (fS 7))), (3, .int (fS (19 + h))), (2, .int (fS (10 + h))), (0, .ref m0), (1, .int (nI h))]) hx hb dX12_reachOf_117 hl (by decide) rfl (fun ls hl => ?_)
      refine lv_iload_n hx hb dX12_reachOf_119 rfl (lv_at hl 2 rfl) ?_
      refine lv_bipush (v := 6) hx hb dX12_reachOf_120 (by decide) ?_
      have J122 : ∀ v_13 : Int32, (v_13 = rc3 (rc2 (((r_7 + se9_5) - (fS 6)) + (rc1 (fS (10 + h)) (fS (19 + h)))) (fS (10 + h)) (fS (19 + h)) (fS 7)) (fS (10 + h))) → W p l e ({ frames := 1, cells := 0, slots := 0, locals := 31 } : Room) s m args below meth c H locs 0 0 Q (F0 m 137 ls [.int v_13]) := by
        intro v_13 hv_14
        subst hv_14
        rw [hQ]
        have hP9 := hP.sub (ws' := [(zo14irriiiiiirriirrrrlriiii m0 th aS aI im ac sp en wg op aB aT se9_5 dn9_6 aG aO aN aD bv aY rn kd nu tv), (zaI aS cS 901 fS), (zaI aB cB 6 fB9_3), (zaI aT cT 64 fT9_4)]) [0, 1, 2, 3] rfl
        have hD9 := hD.sub (ws' := [(zo14irriiiiiirriirrrrlriiii m0 th aS aI im ac sp en wg op aB aT se9_5 dn9_6 aG aO aN aD bv aY rn kd nu tv), (zaI aS cS 901 fS), (zaI aB cB 6 fB9_3), (zaI aT cT 64 fT9_4)]) [0, 1, 2, 3] (by decide) rfl
        have hK9 := hK.sub (tys' := [(cS, .int), (cB, .int), (cT, .boolean)]) [0, 1, 2] rfl
        exact W.iret (v := (rc3 (rc2 (((r_7 + se9_5) - (fS 6)) + (rc1 (fS (10 + h)) (fS (19 + h)))) (fS (10 + h)) (fS (19 + h)) (fS 7)) (fS (10 + h)))) hx hb hr (fun tQ htQ hWQ => ⟨⟨(rc3 (rc2 (((r_7 + se9_5) - (fS 6)) + (rc1 (fS (10 + h)) (fS (19 + h)))) (fS (10 + h)) (fS (19 + h)) (fS 7)) (fS (10 + h))), (fB9_3, fT9_4, se9_5, dn9_6), rfl, rc_eq esg ese, by rw [htQ]; exact hP9, va_K.moved hWQ.alike hK9, hD9⟩, hS.F htQ⟩) hS.2.2 dX12_reachOf_137
      refine lv_icmp_ne (tgt := 135) hx hb dX12_reachOf_122 (by decide) (fun c_15 => ?_) (fun c_15 => ?_)
      · skip
        refine lv_iload hx hb dX12_reachOf_135 (lv_at hl 0 rfl) ?_
        exact J122 (rc2 (((r_7 + se9_5) - (fS 6)) + (rc1 (fS (10 + h)) (fS (19 + h)))) (fS (10 + h)) (fS (19 + h)) (fS 7)) (by unfold rc3; first | (rw [if_pos (by assumption)]; done) | (rw [if_pos (by assumption), if_pos (by assumption)]; done) | (rw [if_pos (by assumption), if_neg (by assumption)]; done) | (rw [if_neg (by assumption), if_pos (by assumption)]; done) | (rw [if_neg (by assumption), if_pos (by assumption), if_pos (by assumption)]; done) | (rw [if_neg (by assumption), if_pos (by assumption), if_neg (by assumption)]; done) | (rw [if_neg (by assumption), if_neg (by assumption)]; done) | (rw [if_neg (by assumption), if_neg (by assumption), if_pos (by assumption)]; done) | (rw [if_neg (by assumption), if_neg (by assumption), if_neg (by assumption), if_pos (by assumption)]; done) | (rw [if_neg (by assumption), if_neg (by assumption), if_neg (by assumption), if_neg (by assumption)]; done) | (rw [if_neg (by assumption)]; done))
      · skip
        refine lv_iload hx hb dX12_reachOf_125 (lv_at hl 0 rfl) ?_
        refine lv_iconst (v := 1) hx hb dX12_reachOf_127 (by decide) ?_
        refine lv_icmp_le (tgt := 135) hx hb dX12_reachOf_128 (by decide) (fun c_16 => ?_) (fun c_16 => ?_)
        · skip
          refine lv_iload hx hb dX12_reachOf_135 (lv_at hl 0 rfl) ?_
          exact J122 (rc2 (((r_7 + se9_5) - (fS 6)) + (rc1 (fS (10 + h)) (fS (19 + h)))) (fS (10 + h)) (fS (19 + h)) (fS 7)) (by unfold rc3; first | (rw [if_pos (by assumption)]; done) | (rw [if_pos (by assumption), if_pos (by assumption)]; done) | (rw [if_pos (by assumption), if_neg (by assumption)]; done) | (rw [if_neg (by assumption), if_pos (by assumption)]; done) | (rw [if_neg (by assumption), if_pos (by assumption), if_pos (by assumption)]; done) | (rw [if_neg (by assumption), if_pos (by assumption), if_neg (by assumption)]; done) | (rw [if_neg (by assumption), if_neg (by assumption)]; done) | (rw [if_neg (by assumption), if_neg (by assumption), if_pos (by assumption)]; done) | (rw [if_neg (by assumption), if_neg (by assumption), if_neg (by assumption), if_pos (by assumption)]; done) | (rw [if_neg (by assumption), if_neg (by assumption), if_neg (by assumption), if_neg (by assumption)]; done) | (rw [if_neg (by assumption)]; done))
        · skip
          refine lv_iconst (v := 1) hx hb dX12_reachOf_131 (by decide) ?_
          refine lv_goto (tgt := 137) hx hb dX12_reachOf_132 (by decide) ?_
          exact J122 1 (by unfold rc3; first | (rw [if_pos (by assumption)]; done) | (rw [if_pos (by assumption), if_pos (by assumption)]; done) | (rw [if_pos (by assumption), if_neg (by assumption)]; done) | (rw [if_neg (by assumption), if_pos (by assumption)]; done) | (rw [if_neg (by assumption), if_pos (by assumption), if_pos (by assumption)]; done) | (rw [if_neg (by assumption), if_pos (by assumption), if_neg (by assumption)]; done) | (rw [if_neg (by assumption), if_neg (by assumption)]; done) | (rw [if_neg (by assumption), if_neg (by assumption), if_pos (by assumption)]; done) | (rw [if_neg (by assumption), if_neg (by assumption), if_neg (by assumption), if_pos (by assumption)]; done) | (rw [if_neg (by assumption), if_neg (by assumption), if_neg (by assumption), if_neg (by assumption)]; done) | (rw [if_neg (by assumption)]; done))
    refine lv_if_lt (tgt := 111) hx hb dX12_reachOf_92 (by decide) (fun c_17 => ?_) (fun c_17 => ?_)
    · skip
      refine lv_iconst (v := 0) hx hb dX12_reachOf_111 (by decide) ?_
      refine lv_goto (tgt := 117) hx hb dX12_reachOf_112 (by decide) ?_
      exact J92 0 (by unfold rc2; first | (rw [if_pos (by assumption)]; done) | (rw [if_pos (by assumption), if_pos (by assumption)]; done) | (rw [if_pos (by assumption), if_neg (by assumption)]; done) | (rw [if_neg (by assumption), if_pos (by assumption)]; done) | (rw [if_neg (by assumption), if_pos (by assumption), if_pos (by assumption)]; done) | (rw [if_neg (by assumption), if_pos (by assumption), if_neg (by assumption)]; done) | (rw [if_neg (by assumption), if_neg (by assumption)]; done) | (rw [if_neg (by assumption), if_neg (by assumption), if_pos (by assumption)]; done) | (rw [if_neg (by assumption), if_neg (by assumption), if_neg (by assumption), if_pos (by assumption)]; done) | (rw [if_neg (by assumption), if_neg (by assumption), if_neg (by assumption), if_neg (by assumption)]; done) | (rw [if_neg (by assumption)]; done))
    · skip
      refine lv_iload_n hx hb dX12_reachOf_95 rfl (lv_at hl 2 rfl) ?_
      refine lv_iconst (v := 5) hx hb dX12_reachOf_96 (by decide) ?_
      refine lv_icmp_ne (tgt := 115) hx hb dX12_reachOf_97 (by decide) (fun c_18 => ?_) (fun c_18 => ?_)
      · skip
        refine lv_iload hx hb dX12_reachOf_115 (lv_at hl 0 rfl) ?_
        exact J92 (((r_7 + se9_5) - (fS 6)) + (rc1 (fS (10 + h)) (fS (19 + h)))) (by unfold rc2; first | (rw [if_pos (by assumption)]; done) | (rw [if_pos (by assumption), if_pos (by assumption)]; done) | (rw [if_pos (by assumption), if_neg (by assumption)]; done) | (rw [if_neg (by assumption), if_pos (by assumption)]; done) | (rw [if_neg (by assumption), if_pos (by assumption), if_pos (by assumption)]; done) | (rw [if_neg (by assumption), if_pos (by assumption), if_neg (by assumption)]; done) | (rw [if_neg (by assumption), if_neg (by assumption)]; done) | (rw [if_neg (by assumption), if_neg (by assumption), if_pos (by assumption)]; done) | (rw [if_neg (by assumption), if_neg (by assumption), if_neg (by assumption), if_pos (by assumption)]; done) | (rw [if_neg (by assumption), if_neg (by assumption), if_neg (by assumption), if_neg (by assumption)]; done) | (rw [if_neg (by assumption)]; done))
      · skip
        refine lv_aload_n hx hb dX12_reachOf_100 rfl (lv_at hl 3 rfl) ?_
        refine va_get (D := (dC, dI)) (ci := 14) (v := .ref aS) (C := RX12) (T := TX12) (N := 23) hx hb hts kc_reachOf_0 hown hK hP 0 rfl rfl 1 (by decide) (hts (.fieldLink RX12 9 "MistHeapsModel" "s" "[I") kc_reachOf_1) (fun _ h9 => h9) rfl dX12_reachOf_101 ?_
        refine lv_bipush (v := 7) hx hb dX12_reachOf_104 (by decide) ?_
        refine va_iald hx hb hK hP 1 0 rfl rfl (vp_in_nI (n := 7) (N := 901) (by omega) (by omega)) dX12_reachOf_106 ?_
        refine qi_as (y := fS 7) (rfl) ?_
        refine lv_iload_n hx hb dX12_reachOf_107 rfl (lv_at hl 1 rfl) ?_
        refine lv_icmp_le (tgt := 115) hx hb dX12_reachOf_108 (by decide) (fun c_19 => ?_) (fun c_19 => ?_)
        · skip
          refine lv_iload hx hb dX12_reachOf_115 (lv_at hl 0 rfl) ?_
          exact J92 (((r_7 + se9_5) - (fS 6)) + (rc1 (fS (10 + h)) (fS (19 + h)))) (by unfold rc2; first | (rw [if_pos (by assumption)]; done) | (rw [if_pos (by assumption), if_pos (by assumption)]; done) | (rw [if_pos (by assumption), if_neg (by assumption)]; done) | (rw [if_neg (by assumption), if_pos (by assumption)]; done) | (rw [if_neg (by assumption), if_pos (by assumption), if_pos (by assumption)]; done) | (rw [if_neg (by assumption), if_pos (by assumption), if_neg (by assumption)]; done) | (rw [if_neg (by assumption), if_neg (by assumption)]; done) | (rw [if_neg (by assumption), if_neg (by assumption), if_pos (by assumption)]; done) | (rw [if_neg (by assumption), if_neg (by assumption), if_neg (by assumption), if_pos (by assumption)]; done) | (rw [if_neg (by assumption), if_neg (by assumption), if_neg (by assumption), if_neg (by assumption)]; done) | (rw [if_neg (by assumption)]; done))
        · skip
          refine lv_iconst (v := 0) hx hb dX12_reachOf_111 (by decide) ?_
          refine lv_goto (tgt := 117) hx hb dX12_reachOf_112 (by decide) ?_
          exact J92 0 (by unfold rc2; first | (rw [if_pos (by assumption)]; done) | (rw [if_pos (by assumption), if_pos (by assumption)]; done) | (rw [if_pos (by assumption), if_neg (by assumption)]; done) | (rw [if_neg (by assumption), if_pos (by assumption)]; done) | (rw [if_neg (by assumption), if_pos (by assumption), if_pos (by assumption)]; done) | (rw [if_neg (by assumption), if_pos (by assumption), if_neg (by assumption)]; done) | (rw [if_neg (by assumption), if_neg (by assumption)]; done) | (rw [if_neg (by assumption), if_neg (by assumption), if_pos (by assumption)]; done) | (rw [if_neg (by assumption), if_neg (by assumption), if_neg (by assumption), if_pos (by assumption)]; done) | (rw [if_neg (by assumption), if_neg (by assumption), if_neg (by assumption), if_neg (by assumption)]; done) | (rw [if_neg (by assumption)]; done))
  refine lv_icmp_eq (tgt := 66) hx hb dX12_reachOf_58 (by decide) (fun c_20 => ?_) (fun c_20 => ?_)
  · skip
    refine lv_iload_n hx hb dX12_reachOf_66 rfl (lv_at hl 1 rfl) ?_
    refine lv_iconst (v := 3) hx hb dX12_reachOf_67 (by decide) ?_
    refine lv_idiv hx hb dX12_reachOf_68 (by decide) ?_
    refine lv_goto (tgt := 87) hx hb dX12_reachOf_69 (by decide) ?_
    exact J58 ((fS (19 + h)) / 3) (by unfold rc1; first | (rw [if_pos (by assumption)]; done) | (rw [if_pos (by assumption), if_pos (by assumption)]; done) | (rw [if_pos (by assumption), if_neg (by assumption)]; done) | (rw [if_neg (by assumption), if_pos (by assumption)]; done) | (rw [if_neg (by assumption), if_pos (by assumption), if_pos (by assumption)]; done) | (rw [if_neg (by assumption), if_pos (by assumption), if_neg (by assumption)]; done) | (rw [if_neg (by assumption), if_neg (by assumption)]; done) | (rw [if_neg (by assumption), if_neg (by assumption), if_pos (by assumption)]; done) | (rw [if_neg (by assumption), if_neg (by assumption), if_neg (by assumption), if_pos (by assumption)]; done) | (rw [if_neg (by assumption), if_neg (by assumption), if_neg (by assumption), if_neg (by assumption)]; done) | (rw [if_neg (by assumption)]; done))
  · skip
    refine lv_iload_n hx hb dX12_reachOf_61 rfl (lv_at hl 2 rfl) ?_
    refine lv_iconst (v := 4) hx hb dX12_reachOf_62 (by decide) ?_
    refine lv_icmp_ne (tgt := 72) hx hb dX12_reachOf_63 (by decide) (fun c_21 => ?_) (fun c_21 => ?_)
    · skip
      refine lv_iload_n hx hb dX12_reachOf_72 rfl (lv_at hl 2 rfl) ?_
      refine lv_iconst (v := 2) hx hb dX12_reachOf_73 (by decide) ?_
      refine lv_icmp_eq (tgt := 82) hx hb dX12_reachOf_74 (by decide) (fun c_22 => ?_) (fun c_22 => ?_)
      · skip
        refine lv_iconst (v := (-1)) hx hb dX12_reachOf_82 (by decide) ?_
        refine lv_goto (tgt := 87) hx hb dX12_reachOf_83 (by decide) ?_
        exact J58 (-1) (by unfold rc1; first | (rw [if_pos (by assumption)]; done) | (rw [if_pos (by assumption), if_pos (by assumption)]; done) | (rw [if_pos (by assumption), if_neg (by assumption)]; done) | (rw [if_neg (by assumption), if_pos (by assumption)]; done) | (rw [if_neg (by assumption), if_pos (by assumption), if_pos (by assumption)]; done) | (rw [if_neg (by assumption), if_pos (by assumption), if_neg (by assumption)]; done) | (rw [if_neg (by assumption), if_neg (by assumption)]; done) | (rw [if_neg (by assumption), if_neg (by assumption), if_pos (by assumption)]; done) | (rw [if_neg (by assumption), if_neg (by assumption), if_neg (by assumption), if_pos (by assumption)]; done) | (rw [if_neg (by assumption), if_neg (by assumption), if_neg (by assumption), if_neg (by assumption)]; done) | (rw [if_neg (by assumption)]; done))
      · skip
        refine lv_iload_n hx hb dX12_reachOf_77 rfl (lv_at hl 2 rfl) ?_
        refine lv_iconst (v := 5) hx hb dX12_reachOf_78 (by decide) ?_
        refine lv_icmp_ne (tgt := 86) hx hb dX12_reachOf_79 (by decide) (fun c_23 => ?_) (fun c_23 => ?_)
        · skip
          refine lv_iconst (v := 0) hx hb dX12_reachOf_86 (by decide) ?_
          exact J58 0 (by unfold rc1; first | (rw [if_pos (by assumption)]; done) | (rw [if_pos (by assumption), if_pos (by assumption)]; done) | (rw [if_pos (by assumption), if_neg (by assumption)]; done) | (rw [if_neg (by assumption), if_pos (by assumption)]; done) | (rw [if_neg (by assumption), if_pos (by assumption), if_pos (by assumption)]; done) | (rw [if_neg (by assumption), if_pos (by assumption), if_neg (by assumption)]; done) | (rw [if_neg (by assumption), if_neg (by assumption)]; done) | (rw [if_neg (by assumption), if_neg (by assumption), if_pos (by assumption)]; done) | (rw [if_neg (by assumption), if_neg (by assumption), if_neg (by assumption), if_pos (by assumption)]; done) | (rw [if_neg (by assumption), if_neg (by assumption), if_neg (by assumption), if_neg (by assumption)]; done) | (rw [if_neg (by assumption)]; done))
        · skip
          refine lv_iconst (v := (-1)) hx hb dX12_reachOf_82 (by decide) ?_
          refine lv_goto (tgt := 87) hx hb dX12_reachOf_83 (by decide) ?_
          exact J58 (-1) (by unfold rc1; first | (rw [if_pos (by assumption)]; done) | (rw [if_pos (by assumption), if_pos (by assumption)]; done) | (rw [if_pos (by assumption), if_neg (by assumption)]; done) | (rw [if_neg (by assumption), if_pos (by assumption)]; done) | (rw [if_neg (by assumption), if_pos (by assumption), if_pos (by assumption)]; done) | (rw [if_neg (by assumption), if_pos (by assumption), if_neg (by assumption)]; done) | (rw [if_neg (by assumption), if_neg (by assumption)]; done) | (rw [if_neg (by assumption), if_neg (by assumption), if_pos (by assumption)]; done) | (rw [if_neg (by assumption), if_neg (by assumption), if_neg (by assumption), if_pos (by assumption)]; done) | (rw [if_neg (by assumption), if_neg (by assumption), if_neg (by assumption), if_neg (by assumption)]; done) | (rw [if_neg (by assumption)]; done))
    · skip
      refine lv_iload_n hx hb dX12_reachOf_66 rfl (lv_at hl 1 rfl) ?_
      refine lv_iconst (v := 3) hx hb dX12_reachOf_67 (by decide) ?_
      refine lv_idiv hx hb dX12_reachOf_68 (by decide) ?_
      refine lv_goto (tgt := 87) hx hb dX12_reachOf_69 (by decide) ?_
      exact J58 ((fS (19 + h)) / 3) (by unfold rc1; first | (rw [if_pos (by assumption)]; done) | (rw [if_pos (by assumption), if_pos (by assumption)]; done) | (rw [if_pos (by assumption), if_neg (by assumption)]; done) | (rw [if_neg (by assumption), if_pos (by assumption)]; done) | (rw [if_neg (by assumption), if_pos (by assumption), if_pos (by assumption)]; done) | (rw [if_neg (by assumption), if_pos (by assumption), if_neg (by assumption)]; done) | (rw [if_neg (by assumption), if_neg (by assumption)]; done) | (rw [if_neg (by assumption), if_neg (by assumption), if_pos (by assumption)]; done) | (rw [if_neg (by assumption), if_neg (by assumption), if_neg (by assumption), if_pos (by assumption)]; done) | (rw [if_neg (by assumption), if_neg (by assumption), if_neg (by assumption), if_neg (by assumption)]; done) | (rw [if_neg (by assumption)]; done))

theorem kc_isSeen_0 : ∀ w ∈ wsX120, w ∈ wsX12_isSeen := fun w h => List.mem_cons_of_mem _ (gin_wsX120 w h)
theorem kc_isSeen_1 : (.fieldLink RX12 9 "MistHeapsModel" "s" "[I" : Cond) ∈ wsX12_isSeen := kc_of 1141 rfl rfl rfl
set_option maxHeartbeats 4000000 in
set_option maxRecDepth 100000 in
theorem c_isSeen (l : Launch) (dC : Nat → ClassId) (dI : Nat → Nat → Nat) (m0 aS aI aB aT aG aO aN aD aY : Nat) (th im ac sp en wg op se dn rn kd nu tv : Int32) (bv : Int64) (cS cB cT : ClassId) (fS : Nat → Int32) (fB : Nat → Int32) (fT : Nat → Int32) (h : Nat) (x : Int32) (cz : List pCla) (sz : Nat) (hh : h ≤ 8) (zh : hol fS cz) : Met l yX12_isSeen wsX12_isSeen ({ frames := 2, cells := 0, slots := 0, locals := 55 } : Room) (va_Pc [.ref m0, .int (nI h), .int x] (fun U => U.heap.size = sz ∧ va_P (dC, dI) vwCl [(zo14irriiiiiirriirrrrlriiii m0 th aS aI im ac sp en wg op aB aT se dn aG aO aN aD bv aY rn kd nu tv), (zaI aS cS 901 fS), (zaI aB cB 6 fB), (zaI aT cT 64 fT)] U.heap ∧ va_K (dC, dI) vwCl [(cS, .int), (cB, .int), (cT, .boolean)] U ∧ va_D (fun _ => True) [(zo14irriiiiiirriirrrrlriiii m0 th aS aI im ac sp en wg op aB aT se dn aG aO aN aD bv aY rn kd nu tv), (zaI aS cS 901 fS), (zaI aB cB 6 fB), (zaI aT cT 64 fT)])) (va_Qi (fun (r : Int32) (u : (Nat → Int32) × (Nat → Int32) × (Int32) × (Int32)) => match u with | (fB9, fT9, se9, dn9) => (r = 1 ∧ ¬ RR fS cz h < apR x (fS (28 + h))) ∨ (r = 0 ∧ RR fS cz h < apR x (fS (28 + h)))) (fun (u : (Nat → Int32) × (Nat → Int32) × (Int32) × (Int32)) (t : State) => match u with | (fB9, fT9, se9, dn9) => va_P (dC, dI) vwCl [(zo14irriiiiiirriirrrrlriiii m0 th aS aI im ac sp en wg op aB aT se9 dn9 aG aO aN aD bv aY rn kd nu tv), (zaI aS cS 901 fS), (zaI aB cB 6 fB9), (zaI aT cT 64 fT9)] t.heap ∧ va_K (dC, dI) vwCl [(cS, .int), (cB, .int), (cT, .boolean)] t ∧ va_D (va_A [(zo14irriiiiiirriirrrrlriiii m0 th aS aI im ac sp en wg op aB aT se dn aG aO aN aD bv aY rn kd nu tv), (zaI aS cS 901 fS), (zaI aB cB 6 fB), (zaI aT cT 64 fT)] sz) [(zo14irriiiiiirriirrrrlriiii m0 th aS aI im ac sp en wg op aB aT se9 dn9 aG aO aN aD bv aY rn kd nu tv), (zaI aS cS 901 fS), (zaI aB cB 6 fB9), (zaI aT cT 64 fT9)]) (va_A [(zo14irriiiiiirriirrrrlriiii m0 th aS aI im ac sp en wg op aB aT se dn aG aO aN aD bv aY rn kd nu tv), (zaI aS cS 901 fS), (zaI aB cB 6 fB), (zaI aT cT 64 fT)] sz)) 0 0 (va_A [(zo14irriiiiiirriirrrrlriiii m0 th aS aI im ac sp en wg op aB aT se dn aG aO aN aD bv aY rn kd nu tv), (zaI aS cS 901 fS), (zaI aB cB 6 fB), (zaI aT cT 64 fT)] sz) := by
  refine met_ofQ (cc := cX12_isSeen) (maxL := 3) (ret := (some .boolean)) (by decide) rfl ?_
  intro p e s m args below meth c s₁ Q B hml hv hQ
  obtain ⟨rfl, hsz, hP, hK, hD0⟩ := hv
  have hx := B.exec
  have hb := B.bytes
  have hr := B.returns
  have hts := atoms_spec (ws := wsX12_isSeen) B.pre
  have hown : s.vm.findClass RX12 = some m.cls := findClass_of_methodNamed B.named
  have hlocks := B.notSynchronized
  subst hsz
  have hD := hD0.self (sz := s.heap.size)
  generalize hAe : va_A [(zo14irriiiiiirriirrrrlriiii m0 th aS aI im ac sp en wg op aB aT se dn aG aO aN aD bv aY rn kd nu tv), (zaI aS cS 901 fS), (zaI aB cB 6 fB), (zaI aT cT 64 fT)] s.heap.size = A at hD hQ ⊢
  have hA : ∀ q : Nat, s.heap.size ≤ q → A q := fun q h => by rw [← hAe]; exact Or.inr h
  have hS : va_S A s.heap s.heap [] := va_S.rf
  have hl := lv_entry [.ref m0, .int (nI h), .int x] (n := 3) (Nat.le_of_ble_eq_true rfl)
  rw [lg_entry_eq]
  generalize (lg_sl [.ref m0, .int (nI h), .int x] ++ List.replicate (3 - (lg_sl [.ref m0, .int (nI h), .int x]).length) Slot.unset).toArray = ls at hl ⊢
  generalize hag : ([.ref m0, .int (nI h), .int x] : List Value).toArray = args at hts hQ ⊢
  have hl : lv_has ls 3 [(0, .ref m0), (1, .int (nI h)), (2, .int x)] := hl
  obtain ⟨H, hH⟩ : ∃ H : Heap, H = s.heap := ⟨_, rfl⟩
  rw [← hH] at hP
  rw [← hH]
  have hS : va_S A s.heap H [] := by rw [hH]; exact hS
  obtain ⟨locs, hlo⟩ : ∃ L : List Loc, L = [] := ⟨_, rfl⟩
  rw [← hlo] at hS
  rw [← hlo]
  clear hH hlo
  refine lv_iload_n hx hb dX12_isSeen_0 rfl (lv_at hl 2 rfl) ?_
  refine lv_aload_n hx hb dX12_isSeen_1 rfl (lv_at hl 0 rfl) ?_
  refine va_get (D := (dC, dI)) (ci := 14) (v := .ref aS) (C := RX12) (T := TX12) (N := 23) hx hb hts kc_isSeen_0 hown hK hP 0 rfl rfl 1 (by decide) (hts (.fieldLink RX12 9 "MistHeapsModel" "s" "[I") kc_isSeen_1) (fun _ h9 => h9) rfl dX12_isSeen_2 ?_
  refine lv_bipush (v := 28) hx hb dX12_isSeen_5 (by decide) ?_
  refine lv_iload_n hx hb dX12_isSeen_7 rfl (lv_at hl 1 rfl) ?_
  refine lv_iadd hx hb dX12_isSeen_8 ?_
  refine qi_as (y := nI (28 + h)) (nI_add 28 h) ?_
  refine va_iald hx hb hK hP 1 0 rfl rfl (vp_in_nI (n := 28 + h) (N := 901) (by omega) (by omega)) dX12_isSeen_9 ?_
  refine qi_as (y := fS (28 + h)) (by rw [nI_clamp (by omega)]) ?_
  refine vp_callSi (va_runS (As := [.int x, .int (fS (28 + h))]) (rest := []) ⟨hx, hb, hml, hown, hts⟩ (c_apart l dC dI x (fS (28 + h))) (va_cwS 2 hts gX12_isSeen_X12_apart rfl rfl rfl hd_yX12_apart.2 ⟨Nat.le_of_ble_eq_true rfl, Nat.le_of_ble_eq_true rfl⟩) ⟨fun a U g mk q => ⟨q.1, trivial⟩, fun U hU hW => ⟨rfl, trivial⟩⟩ rfl rfl hl.1 rfl (lv_room (Nat.le_of_ble_eq_true rfl)) dX12_isSeen_10 ⟨Nat.le_of_ble_eq_true rfl, Nat.le_of_ble_eq_true rfl⟩).run (fun r_1 hw_2 => ?_)
  obtain rfl := hw_2
  refine lv_aload_n hx hb dX12_isSeen_13 rfl (lv_at hl 0 rfl) ?_
  refine lv_iload_n hx hb dX12_isSeen_14 rfl (lv_at hl 1 rfl) ?_
  have hPc := hP.sub (ws' := [(zo14irriiiiiirriirrrrlriiii m0 th aS aI im ac sp en wg op aB aT se dn aG aO aN aD bv aY rn kd nu tv), (zaI aS cS 901 fS), (zaI aB cB 6 fB), (zaI aT cT 64 fT)]) [0, 1, 2, 3] rfl
  have hDc := hD.sub (ws' := [(zo14irriiiiiirriirrrrlriiii m0 th aS aI im ac sp en wg op aB aT se dn aG aO aN aD bv aY rn kd nu tv), (zaI aS cS 901 fS), (zaI aB cB 6 fB), (zaI aT cT 64 fT)]) [0, 1, 2, 3] (by decide) rfl
  have hKc := hK.sub (tys' := [(cS, .int), (cB, .int), (cT, .boolean)]) [0, 1, 2] rfl
  have hFc := va_free (wc := [(zo14irriiiiiirriirrrrlriiii m0 th aS aI im ac sp en wg op aB aT se dn aG aO aN aD bv aY rn kd nu tv), (zaI aS cS 901 fS), (zaI aB cB 6 fB), (zaI aT cT 64 fT)]) hD hS hA [0, 1, 2, 3] rfl
  refine va_calli (va_runV (As := [.int (nI h)]) (rest := [.int (apR x (fS (28 + h)))]) ⟨hx, hb, hml, hown, hts⟩ (c_reachOf l dC dI m0 aS aI aB aT aG aO aN aD aY th im ac sp en wg op se dn rn kd nu tv bv cS cB cT fS fB fT h cz H.size (by omega) (zh)) (cwV 1 hts gX12_isSeen_X12_reachOf rfl rfl rfl hd_yX12_reachOf ⟨Nat.le_of_ble_eq_true rfl, Nat.le_of_ble_eq_true rfl⟩) ⟨fun a U g mk q => by obtain ⟨q0, q1, qP, qK, qD⟩ := q; exact ⟨q0, mvz g mk a q1, mvP g mk a qP, mvK g mk a qK, qD⟩, va_recv hK hP (ci := 14) (q := (RX12, TX12, 23)) (q0 := 0) rfl rfl, fun U hU hW => ⟨rfl, by rw [hU], by rw [hU]; exact hPc, va_K.moved hW.alike hKc, hDc.weaken (fun _ _ _ _ => trivial)⟩⟩ rfl rfl hl.1 rfl (lv_room (Nat.le_of_ble_eq_true rfl)) dX12_isSeen_15 ⟨Nat.le_of_ble_eq_true rfl, Nat.le_of_ble_eq_true rfl⟩) hS (fun q _ h => hFc q h) hFc (fun r_3 u tC H1 locs htC hvm hw_4 hB hz1 hk1 hS => ?_)
  obtain ⟨fB9_5, fT9_6, se9_7, dn9_8⟩ := u
  try dsimp only at hw_4 hB
  obtain ⟨hP1, hK1, hD1⟩ := hB
  rw [htC] at hP1
  have hK1 := va_K.moved hvm.symm hK1
  obtain ⟨hP, hD⟩ := va_join (wr := []) (w1 := [(zo14irriiiiiirriirrrrlriiii m0 th aS aI im ac sp en wg op aB aT se9_7 dn9_8 aG aO aN aD bv aY rn kd nu tv), (zaI aS cS 901 fS), (zaI aB cB 6 fB9_5), (zaI aT cT 64 fT9_6)]) hP hD [0, 1, 2, 3] [] rfl rfl (by decide) (by decide) hk1 hFc hP1 hD1
  have hK := (hK.sub (tys' := []) [] rfl).app hK1
  generalize H1 = H at hP hS ⊢
  have hP : va_P (dC, dI) vwCl [(zo14irriiiiiirriirrrrlriiii m0 th aS aI im ac sp en wg op aB aT se9_7 dn9_8 aG aO aN aD bv aY rn kd nu tv), (zaI aS cS 901 fS), (zaI aB cB 6 fB9_5), (zaI aT cT 64 fT9_6)] H := hP
  have hD : va_D A [(zo14irriiiiiirriirrrrlriiii m0 th aS aI im ac sp en wg op aB aT se9_7 dn9_8 aG aO aN aD bv aY rn kd nu tv), (zaI aS cS 901 fS), (zaI aB cB 6 fB9_5), (zaI aT cT 64 fT9_6)] := hD
  have hK : va_K (dC, dI) vwCl [(cS, .int), (cB, .int), (cT, .boolean)] s := hK
  obtain rfl := hw_4
  refine lv_icmp_gt (tgt := 25) hx hb dX12_isSeen_18 (by decide) (fun c_9 => ?_) (fun c_9 => ?_)
  · skip
    refine lv_iconst (v := 0) hx hb dX12_isSeen_25 (by decide) ?_
    rw [hQ]
    have hP9 := hP.sub (ws' := [(zo14irriiiiiirriirrrrlriiii m0 th aS aI im ac sp en wg op aB aT se9_7 dn9_8 aG aO aN aD bv aY rn kd nu tv), (zaI aS cS 901 fS), (zaI aB cB 6 fB9_5), (zaI aT cT 64 fT9_6)]) [0, 1, 2, 3] rfl
    have hD9 := hD.sub (ws' := [(zo14irriiiiiirriirrrrlriiii m0 th aS aI im ac sp en wg op aB aT se9_7 dn9_8 aG aO aN aD bv aY rn kd nu tv), (zaI aS cS 901 fS), (zaI aB cB 6 fB9_5), (zaI aT cT 64 fT9_6)]) [0, 1, 2, 3] (by decide) rfl
    have hK9 := hK.sub (tys' := [(cS, .int), (cB, .int), (cT, .boolean)]) [0, 1, 2] rfl
    exact W.zret (v := 0) hx hb hr rfl (fun tQ htQ hWQ => ⟨⟨0, (fB9_5, fT9_6, se9_7, dn9_8), rfl, by first | exact Or.inl ⟨rfl, by assumption⟩ | exact Or.inr ⟨rfl, by assumption⟩, by rw [htQ]; exact hP9, va_K.moved hWQ.alike hK9, hD9⟩, hS.F htQ⟩) hS.2.2 dX12_isSeen_26
  · skip
    refine lv_iconst (v := 1) hx hb dX12_isSeen_21 (by decide) ?_
    refine lv_goto (tgt := 26) hx hb dX12_isSeen_22 (by decide) ?_
    rw [hQ]
    have hP9 := hP.sub (ws' := [(zo14irriiiiiirriirrrrlriiii m0 th aS aI im ac sp en wg op aB aT se9_7 dn9_8 aG aO aN aD bv aY rn kd nu tv), (zaI aS cS 901 fS), (zaI aB cB 6 fB9_5), (zaI aT cT 64 fT9_6)]) [0, 1, 2, 3] rfl
    have hD9 := hD.sub (ws' := [(zo14irriiiiiirriirrrrlriiii m0 th aS aI im ac sp en wg op aB aT se9_7 dn9_8 aG aO aN aD bv aY rn kd nu tv), (zaI aS cS 901 fS), (zaI aB cB 6 fB9_5), (zaI aT cT 64 fT9_6)]) [0, 1, 2, 3] (by decide) rfl
    have hK9 := hK.sub (tys' := [(cS, .int), (cB, .int), (cT, .boolean)]) [0, 1, 2] rfl
    exact W.zret (v := 1) hx hb hr rfl (fun tQ htQ hWQ => ⟨⟨1, (fB9_5, fT9_6, se9_7, dn9_8), rfl, by first | exact Or.inl ⟨rfl, by assumption⟩ | exact Or.inr ⟨rfl, by assumption⟩, by rw [htQ]; exact hP9, va_K.moved hWQ.alike hK9, hD9⟩, hS.F htQ⟩) hS.2.2 dX12_isSeen_26

theorem kc_seesOf_0 : ∀ w ∈ wsX120, w ∈ wsX12_seesOf := fun w h => List.mem_cons_of_mem _ (gin_wsX120 w h)
theorem kc_seesOf_1 : (.fieldLink RX12 9 "MistHeapsModel" "s" "[I" : Cond) ∈ wsX12_seesOf := kc_of 1141 rfl rfl rfl
set_option maxHeartbeats 4000000 in
set_option maxRecDepth 100000 in
theorem c_seesOf (l : Launch) (dC : Nat → ClassId) (dI : Nat → Nat → Nat) (m0 aS aI aB aT aG aO aN aD aY : Nat) (th im ac sp en wg op se dn rn kd nu tv : Int32) (bv : Int64) (cS cB cT : ClassId) (fS : Nat → Int32) (fB : Nat → Int32) (fT : Nat → Int32) (n : Nat) (x : Int32) (cz : List pCla) (sz : Nat) (zn : fS 0 = nI n) (hn : n ≤ 8) (zh : hol fS cz) : Met l yX12_seesOf wsX12_seesOf ({ frames := 3, cells := 0, slots := 0, locals := 77 } : Room) (va_Pc [.ref m0, .int x] (fun U => U.heap.size = sz ∧ va_P (dC, dI) vwCl [(zo14irriiiiiirriirrrrlriiii m0 th aS aI im ac sp en wg op aB aT se dn aG aO aN aD bv aY rn kd nu tv), (zaI aS cS 901 fS), (zaI aB cB 6 fB), (zaI aT cT 64 fT)] U.heap ∧ va_K (dC, dI) vwCl [(cS, .int), (cB, .int), (cT, .boolean)] U ∧ va_D (fun _ => True) [(zo14irriiiiiirriirrrrlriiii m0 th aS aI im ac sp en wg op aB aT se dn aG aO aN aD bv aY rn kd nu tv), (zaI aS cS 901 fS), (zaI aB cB 6 fB), (zaI aT cT 64 fT)])) (va_Qi (fun (r : Int32) (u : (Nat → Int32) × (Nat → Int32) × (Int32) × (Int32)) => match u with | (fB9, fT9, se9, dn9) => r = sbR (fun i => apR x (fS (28 + i))) (fun i => RR fS cz i) n) (fun (u : (Nat → Int32) × (Nat → Int32) × (Int32) × (Int32)) (t : State) => match u with | (fB9, fT9, se9, dn9) => va_P (dC, dI) vwCl [(zo14irriiiiiirriirrrrlriiii m0 th aS aI im ac sp en wg op aB aT se9 dn9 aG aO aN aD bv aY rn kd nu tv), (zaI aS cS 901 fS), (zaI aB cB 6 fB9), (zaI aT cT 64 fT9)] t.heap ∧ va_K (dC, dI) vwCl [(cS, .int), (cB, .int), (cT, .boolean)] t ∧ va_D (va_A [(zo14irriiiiiirriirrrrlriiii m0 th aS aI im ac sp en wg op aB aT se dn aG aO aN aD bv aY rn kd nu tv), (zaI aS cS 901 fS), (zaI aB cB 6 fB), (zaI aT cT 64 fT)] sz) [(zo14irriiiiiirriirrrrlriiii m0 th aS aI im ac sp en wg op aB aT se9 dn9 aG aO aN aD bv aY rn kd nu tv), (zaI aS cS 901 fS), (zaI aB cB 6 fB9), (zaI aT cT 64 fT9)]) (va_A [(zo14irriiiiiirriirrrrlriiii m0 th aS aI im ac sp en wg op aB aT se dn aG aO aN aD bv aY rn kd nu tv), (zaI aS cS 901 fS), (zaI aB cB 6 fB), (zaI aT cT 64 fT)] sz)) 0 0 (va_A [(zo14irriiiiiirriirrrrlriiii m0 th aS aI im ac sp en wg op aB aT se dn aG aO aN aD bv aY rn kd nu tv), (zaI aS cS 901 fS), (zaI aB cB 6 fB), (zaI aT cT 64 fT)] sz) := by
  refine met_ofQ (cc := cX12_seesOf) (maxL := 4) (ret := (some .int)) (by decide) rfl ?_
  intro p e s m args below meth c s₁ Q B hml hv hQ
  obtain ⟨rfl, hsz, hP, hK, hD0⟩ := hv
  have hx := B.exec
  have hb := B.bytes
  have hr := B.returns
  have hts := atoms_spec (ws := wsX12_seesOf) B.pre
  have hown : s.vm.findClass RX12 = some m.cls := findClass_of_methodNamed B.named
  have hlocks := B.notSynchronized
  subst hsz
  have hD := hD0.self (sz := s.heap.size)
  generalize hAe : va_A [(zo14irriiiiiirriirrrrlriiii m0 th aS aI im ac sp en wg op aB aT se dn aG aO aN aD bv aY rn kd nu tv), (zaI aS cS 901 fS), (zaI aB cB 6 fB), (zaI aT cT 64 fT)] s.heap.size = A at hD hQ ⊢
  have hA : ∀ q : Nat, s.heap.size ≤ q → A q := fun q h => by rw [← hAe]; exact Or.inr h
  have hS : va_S A s.heap s.heap [] := va_S.rf
  have hl := lv_entry [.ref m0, .int x] (n := 4) (Nat.le_of_ble_eq_true rfl)
  rw [lg_entry_eq]
  generalize (lg_sl [.ref m0, .int x] ++ List.replicate (4 - (lg_sl [.ref m0, .int x]).length) Slot.unset).toArray = ls at hl ⊢
  generalize hag : ([.ref m0, .int x] : List Value).toArray = args at hts hQ ⊢
  have hl : lv_has ls 4 [(0, .ref m0), (1, .int x)] := hl
  obtain ⟨H, hH⟩ : ∃ H : Heap, H = s.heap := ⟨_, rfl⟩
  rw [← hH] at hP
  rw [← hH]
  have hS : va_S A s.heap H [] := by rw [hH]; exact hS
  obtain ⟨locs, hlo⟩ : ∃ L : List Loc, L = [] := ⟨_, rfl⟩
  rw [← hlo] at hS
  rw [← hlo]
  clear hH hlo
  refine lv_iconst (v := 0) hx hb dX12_seesOf_0 (by decide) ?_
  refine lv_istore_n (lv' := [(2, .int 0), (0, .ref m0), (1, .int x)]) hx hb dX12_seesOf_1 rfl hl (by decide) rfl (fun ls hl => ?_)
  refine lv_iconst (v := 0) hx hb dX12_seesOf_2 (by decide) ?_
  refine lv_istore_n (lv' := [(3, .int 0), (2, .int 0), (0, .ref m0), (1, .int x)]) hx hb dX12_seesOf_3 rfl hl (by decide) rfl (fun ls hl => ?_)
  have L4 : ∀ (nF : Nat) (i : Nat) (se2 : Int32) (dn2 : Int32) (fB2 : Nat → Int32) (fT2 : Nat → Int32) (q : Int32), n - i < nF → (i ≤ n) → (q = sbR (fun i => apR x (fS (28 + i))) (fun i => RR fS cz i) i) → ∀ (H : Heap) (locs : List Loc), va_K (dC, dI) vwCl [(cS, .int), (cB, .int), (cT, .boolean)] s → va_P (dC, dI) vwCl [(zo14irriiiiiirriirrrrlriiii m0 th aS aI im ac sp en wg op aB aT se2 dn2 aG aO aN aD bv aY rn kd nu tv), (zaI aS cS 901 fS), (zaI aB cB 6 fB2), (zaI aT cT 64 fT2)] H → va_D A [(zo14irriiiiiirriirrrrlriiii m0 th aS aI im ac sp en wg op aB aT se2 dn2 aG aO aN aD bv aY rn kd nu tv), (zaI aS cS 901 fS), (zaI aB cB 6 fB2), (zaI aT cT 64 fT2)] → va_S A s.heap H locs → ∀ (ls : Array Slot), lv_has ls 4 [(0, .ref m0), (1, .int x), (2, .int q), (3, .int (nI i))] → W p l e ({ frames := 3, cells := 0, slots := 0, locals := 77 } : Room) s m args below meth c H locs 0 0 Q (F0 m 4 ls []) := by
    intro nF
    induction nF with
    | zero => intro i se2 dn2 fB2 fT2 q hm; exact absurd hm (Nat.not_lt_zero _)
    | succ nF ih4 =>
      intro i se2 dn2 fB2 fT2 q hm hii hq9 H locs hK hP hD hS ls hl
      refine lv_iload_n hx hb dX12_seesOf_4 rfl (lv_at hl 3 rfl) ?_
      refine lv_aload_n hx hb dX12_seesOf_5 rfl (lv_at hl 0 rfl) ?_
      refine va_get (D := (dC, dI)) (ci := 14) (v := .ref aS) (C := RX12) (T := TX12) (N := 23) hx hb hts kc_seesOf_0 hown hK hP 0 rfl rfl 1 (by decide) (hts (.fieldLink RX12 9 "MistHeapsModel" "s" "[I") kc_seesOf_1) (fun _ h9 => h9) rfl dX12_seesOf_6 ?_
      refine lv_iconst (v := 0) hx hb dX12_seesOf_9 (by decide) ?_
      refine va_iald hx hb hK hP 1 0 rfl rfl (vp_in_nI (n := 0) (N := 901) (by omega) (by omega)) dX12_seesOf_10 ?_
      refine qi_as (y := nI n) ((show fS (0 : Int32).toNatClampNeg = fS 0 from rfl).trans (zn)) ?_
      refine lv_icmp_ge (tgt := 39) hx hb dX12_seesOf_11 (by decide) (fun c_1 => ?_) (fun c_1 => ?_)
      · skip
        have c_1 : n ≤ i := (nI_leI (a := n) (b := i) (by omega) (by omega)).mp c_1
        refine lv_iload_n hx hb dX12_seesOf_39 rfl (lv_at hl 2 rfl) ?_
        rw [hQ]
        have hP9 := hP.sub (ws' := [(zo14irriiiiiirriirrrrlriiii m0 th aS aI im ac sp en wg op aB aT se2 dn2 aG aO aN aD bv aY rn kd nu tv), (zaI aS cS 901 fS), (zaI aB cB 6 fB2), (zaI aT cT 64 fT2)]) [0, 1, 2, 3] rfl
        have hD9 := hD.sub (ws' := [(zo14irriiiiiirriirrrrlriiii m0 th aS aI im ac sp en wg op aB aT se2 dn2 aG aO aN aD bv aY rn kd nu tv), (zaI aS cS 901 fS), (zaI aB cB 6 fB2), (zaI aT cT 64 fT2)]) [0, 1, 2, 3] (by decide) rfl
        have hK9 := hK.sub (tys' := [(cS, .int), (cB, .int), (cT, .boolean)]) [0, 1, 2] rfl
        exact W.iret (v := q) hx hb hr (fun tQ htQ hWQ => ⟨⟨q, (fB2, fT2, se2, dn2), rfl, sb_end hq9 (by omega), by rw [htQ]; exact hP9, va_K.moved hWQ.alike hK9, hD9⟩, hS.F htQ⟩) hS.2.2 dX12_seesOf_40
      · skip
        have c_1 : ¬ n ≤ i := fun q => c_1 ((nI_leI (a := n) (b := i) (by omega) (by omega)).mpr q)
        refine lv_iload_n hx hb dX12_seesOf_14 rfl (lv_at hl 2 rfl) ?_
        refine lv_aload_n hx hb dX12_seesOf_15 rfl (lv_at hl 0 rfl) ?_
        refine lv_iload_n hx hb dX12_seesOf_16 rfl (lv_at hl 3 rfl) ?_
        refine lv_iload_n hx hb dX12_seesOf_17 rfl (lv_at hl 1 rfl) ?_
        have hPc := hP.sub (ws' := [(zo14irriiiiiirriirrrrlriiii m0 th aS aI im ac sp en wg op aB aT se2 dn2 aG aO aN aD bv aY rn kd nu tv), (zaI aS cS 901 fS), (zaI aB cB 6 fB2), (zaI aT cT 64 fT2)]) [0, 1, 2, 3] rfl
        have hDc := hD.sub (ws' := [(zo14irriiiiiirriirrrrlriiii m0 th aS aI im ac sp en wg op aB aT se2 dn2 aG aO aN aD bv aY rn kd nu tv), (zaI aS cS 901 fS), (zaI aB cB 6 fB2), (zaI aT cT 64 fT2)]) [0, 1, 2, 3] (by decide) rfl
        have hKc := hK.sub (tys' := [(cS, .int), (cB, .int), (cT, .boolean)]) [0, 1, 2] rfl
        have hFc := va_free (wc := [(zo14irriiiiiirriirrrrlriiii m0 th aS aI im ac sp en wg op aB aT se2 dn2 aG aO aN aD bv aY rn kd nu tv), (zaI aS cS 901 fS), (zaI aB cB 6 fB2), (zaI aT cT 64 fT2)]) hD hS hA [0, 1, 2, 3] rfl
        refine va_calli (va_runV (As := [.int (nI i), .int x]) (rest := [.int q]) ⟨hx, hb, hml, hown, hts⟩ (c_isSeen l dC dI m0 aS aI aB aT aG aO aN aD aY th im ac sp en wg op se2 dn2 rn kd nu tv bv cS cB cT fS fB2 fT2 i x cz H.size (by omega) (zh)) (cwV 2 hts gX12_seesOf_X12_isSeen rfl rfl rfl hd_yX12_isSeen ⟨Nat.le_of_ble_eq_true rfl, Nat.le_of_ble_eq_true rfl⟩) ⟨fun a U g mk q => by obtain ⟨q0, q1, qP, qK, qD⟩ := q; exact ⟨q0, mvz g mk a q1, mvP g mk a qP, mvK g mk a qK, qD⟩, va_recv hK hP (ci := 14) (q := (RX12, TX12, 23)) (q0 := 0) rfl rfl, fun U hU hW => ⟨rfl, by rw [hU], by rw [hU]; exact hPc, va_K.moved hW.alike hKc, hDc.weaken (fun _ _ _ _ => trivial)⟩⟩ rfl rfl hl.1 rfl (lv_room (Nat.le_of_ble_eq_true rfl)) dX12_seesOf_18 ⟨Nat.le_of_ble_eq_true rfl, Nat.le_of_ble_eq_true rfl⟩) hS (fun q _ h => hFc q h) hFc (fun r_2 u tC H1 locs htC hvm hw_3 hB hz1 hk1 hS => ?_)
        obtain ⟨fB9_4, fT9_5, se9_6, dn9_7⟩ := u
        try dsimp only at hw_3 hB
        obtain ⟨hP1, hK1, hD1⟩ := hB
        rw [htC] at hP1
        have hK1 := va_K.moved hvm.symm hK1
        obtain ⟨hP, hD⟩ := va_join (wr := []) (w1 := [(zo14irriiiiiirriirrrrlriiii m0 th aS aI im ac sp en wg op aB aT se9_6 dn9_7 aG aO aN aD bv aY rn kd nu tv), (zaI aS cS 901 fS), (zaI aB cB 6 fB9_4), (zaI aT cT 64 fT9_5)]) hP hD [0, 1, 2, 3] [] rfl rfl (by decide) (by decide) hk1 hFc hP1 hD1
        have hK := (hK.sub (tys' := []) [] rfl).app hK1
        generalize H1 = H at hP hS ⊢
        have hP : va_P (dC, dI) vwCl [(zo14irriiiiiirriirrrrlriiii m0 th aS aI im ac sp en wg op aB aT se9_6 dn9_7 aG aO aN aD bv aY rn kd nu tv), (zaI aS cS 901 fS), (zaI aB cB 6 fB9_4), (zaI aT cT 64 fT9_5)] H := hP
        have hD : va_D A [(zo14irriiiiiirriirrrrlriiii m0 th aS aI im ac sp en wg op aB aT se9_6 dn9_7 aG aO aN aD bv aY rn kd nu tv), (zaI aS cS 901 fS), (zaI aB cB 6 fB9_4), (zaI aT cT 64 fT9_5)] := hD
        have hK : va_K (dC, dI) vwCl [(cS, .int), (cB, .int), (cT, .boolean)] s := hK
        rcases hw_3 with ⟨rfl, hs_8⟩ | ⟨rfl, hs_8⟩
        · skip
          refine lv_if_eq (tgt := 30) hx hb dX12_seesOf_21 (by decide) (fun c_9 => absurd c_9 (by decide)) (fun _ => ?_)
          refine lv_iconst (v := 1) hx hb dX12_seesOf_24 (by decide) ?_
          refine lv_iload_n hx hb dX12_seesOf_25 rfl (lv_at hl 3 rfl) ?_
          refine lv_ishl hx hb dX12_seesOf_26 ?_
          refine lv_goto (tgt := 31) hx hb dX12_seesOf_27 (by decide) ?_
          refine lv_ior hx hb dX12_seesOf_31 ?_
          refine lv_istore_n (lv' := [(2, .int (q ||| (1 <<< ((nI i) &&& 31)))), (0, .ref m0), (1, .int x), (3, .int (nI i))]) hx hb dX12_seesOf_32 rfl hl (by decide) rfl (fun ls hl => ?_)
          refine lv_iinc (v := nI (i + 1)) (lv' := [(3, .int (nI (i + 1))), (2, .int (q ||| (1 <<< ((nI i) &&& 31)))), (0, .ref m0), (1, .int x)]) hx hb dX12_seesOf_33 hl (k := 3) rfl (nI_add i 1) (by decide) rfl (fun ls hl => ?_)
          refine lv_goto (tgt := 4) hx hb dX12_seesOf_36 (by decide) ?_
          exact ih4 (i + 1) _ _ _ _ (q ||| (1 <<< ((nI i) &&& 31))) (by omega) (by omega) (sb_1 hq9 hs_8) _ _ (hK.sub [0, 1, 2] rfl) (hP.sub [0, 1, 2, 3] rfl) (hD.sub [0, 1, 2, 3] (by decide) rfl) hS ls (lv_sub hl [2, 3, 1, 0] rfl)
        · skip
          refine lv_if_eq (tgt := 30) hx hb dX12_seesOf_21 (by decide) (fun _ => ?_) (fun c_10 => absurd c_10 (by decide))
          refine lv_iconst (v := 0) hx hb dX12_seesOf_30 (by decide) ?_
          refine lv_ior hx hb dX12_seesOf_31 ?_
          refine lv_istore_n (lv' := [(2, .int (q ||| 0)), (0, .ref m0), (1, .int x), (3, .int (nI i))]) hx hb dX12_seesOf_32 rfl hl (by decide) rfl (fun ls hl => ?_)
          refine lv_iinc (v := nI (i + 1)) (lv' := [(3, .int (nI (i + 1))), (2, .int (q ||| 0)), (0, .ref m0), (1, .int x)]) hx hb dX12_seesOf_33 hl (k := 3) rfl (nI_add i 1) (by decide) rfl (fun ls hl => ?_)
          refine lv_goto (tgt := 4) hx hb dX12_seesOf_36 (by decide) ?_
          exact ih4 (i + 1) _ _ _ _ (q ||| 0) (by omega) (by omega) (sb_0 hq9 hs_8) _ _ (hK.sub [0, 1, 2] rfl) (hP.sub [0, 1, 2, 3] rfl) (hD.sub [0, 1, 2, 3] (by decide) rfl) hS ls (lv_sub hl [2, 3, 1, 0] rfl)
  exact L4 _ (0) _ _ _ _ (0) (Nat.lt_succ_self _) (by omega) (rfl) _ _ (hK.sub [0, 1, 2] rfl) (hP.sub [0, 1, 2, 3] rfl) (hD.sub [0, 1, 2, 3] (by decide) rfl) hS ls (lv_sub hl [2, 3, 1, 0] rfl)

set_option maxHeartbeats 4000000 in
set_option maxRecDepth 100000 in
theorem c_mSees (l : Launch) (dC : Nat → ClassId) (dI : Nat → Nat → Nat) (m0 aS aI aB aT aG aO aN aD aY : Nat) (th im ac sp en wg op se dn rn kd nu tv : Int32) (bv : Int64) (cS cB cT : ClassId) (fS : Nat → Int32) (fB : Nat → Int32) (fT : Nat → Int32) (n : Nat) (yk yv yc : Nat → Int32) (mi sn : Int32) (x : Int32) (cz : List pCla) (sz : Nat) (zn : fS 0 = nI n) (hn : n ≤ 8) (zh : hol fS cz) (zkd : ∀ k, k < n → fS (10 + k) = yk k) (zvv : ∀ k, k < n → fS (19 + k) = yv k) (zc : ∀ k, k < n → fS (28 + k) = yc k) (zmi : fS 6 = mi) (zsn : fS 7 = sn) : Met l yX12_sees wsX12_sees ({ frames := 4, cells := 0, slots := 0, locals := 100 } : Room) (va_Pc [.ref m0, .int x] (fun U => U.heap.size = sz ∧ va_P (dC, dI) vwCl [(zo14irriiiiiirriirrrrlriiii m0 th aS aI im ac sp en wg op aB aT se dn aG aO aN aD bv aY rn kd nu tv), (zaI aS cS 901 fS), (zaI aB cB 6 fB), (zaI aT cT 64 fT)] U.heap ∧ va_K (dC, dI) vwCl [(cS, .int), (cB, .int), (cT, .boolean)] U ∧ va_D (fun _ => True) [(zo14irriiiiiirriirrrrlriiii m0 th aS aI im ac sp en wg op aB aT se dn aG aO aN aD bv aY rn kd nu tv), (zaI aS cS 901 fS), (zaI aB cB 6 fB), (zaI aT cT 64 fT)])) (va_Qi (fun (r : Int32) (u : (Nat → Int32) × (Nat → Int32) × (Int32) × (Int32)) => match u with | (fB9, fT9, se9, dn9) => r = seR n yk yv yc cz mi sn x) (fun (u : (Nat → Int32) × (Nat → Int32) × (Int32) × (Int32)) (t : State) => match u with | (fB9, fT9, se9, dn9) => va_P (dC, dI) vwCl [(zo14irriiiiiirriirrrrlriiii m0 th aS aI im ac sp en wg op aB aT se9 dn9 aG aO aN aD bv aY rn kd nu tv), (zaI aS cS 901 fS), (zaI aB cB 6 fB9), (zaI aT cT 64 fT9)] t.heap ∧ va_K (dC, dI) vwCl [(cS, .int), (cB, .int), (cT, .boolean)] t ∧ va_D (va_A [(zo14irriiiiiirriirrrrlriiii m0 th aS aI im ac sp en wg op aB aT se dn aG aO aN aD bv aY rn kd nu tv), (zaI aS cS 901 fS), (zaI aB cB 6 fB), (zaI aT cT 64 fT)] sz) [(zo14irriiiiiirriirrrrlriiii m0 th aS aI im ac sp en wg op aB aT se9 dn9 aG aO aN aD bv aY rn kd nu tv), (zaI aS cS 901 fS), (zaI aB cB 6 fB9), (zaI aT cT 64 fT9)]) (va_A [(zo14irriiiiiirriirrrrlriiii m0 th aS aI im ac sp en wg op aB aT se dn aG aO aN aD bv aY rn kd nu tv), (zaI aS cS 901 fS), (zaI aB cB 6 fB), (zaI aT cT 64 fT)] sz)) 0 0 (va_A [(zo14irriiiiiirriirrrrlriiii m0 th aS aI im ac sp en wg op aB aT se dn aG aO aN aD bv aY rn kd nu tv), (zaI aS cS 901 fS), (zaI aB cB 6 fB), (zaI aT cT 64 fT)] sz) := by
  refine met_ofQ (cc := cX12_sees) (maxL := 2) (ret := (some .int)) (by decide) rfl ?_
  intro p e s m args below meth c s₁ Q B hml hv hQ
  obtain ⟨rfl, hsz, hP, hK, hD0⟩ := hv
  have hx := B.exec
  have hb := B.bytes
  have hr := B.returns
  have hts := atoms_spec (ws := wsX12_sees) B.pre
  have hown : s.vm.findClass RX12 = some m.cls := findClass_of_methodNamed B.named
  have hlocks := B.notSynchronized
  subst hsz
  have hD := hD0.self (sz := s.heap.size)
  generalize hAe : va_A [(zo14irriiiiiirriirrrrlriiii m0 th aS aI im ac sp en wg op aB aT se dn aG aO aN aD bv aY rn kd nu tv), (zaI aS cS 901 fS), (zaI aB cB 6 fB), (zaI aT cT 64 fT)] s.heap.size = A at hD hQ ⊢
  have hA : ∀ q : Nat, s.heap.size ≤ q → A q := fun q h => by rw [← hAe]; exact Or.inr h
  have hS : va_S A s.heap s.heap [] := va_S.rf
  have hl := lv_entry [.ref m0, .int x] (n := 2) (Nat.le_of_ble_eq_true rfl)
  rw [lg_entry_eq]
  generalize (lg_sl [.ref m0, .int x] ++ List.replicate (2 - (lg_sl [.ref m0, .int x]).length) Slot.unset).toArray = ls at hl ⊢
  generalize hag : ([.ref m0, .int x] : List Value).toArray = args at hts hQ ⊢
  have hl : lv_has ls 2 [(0, .ref m0), (1, .int x)] := hl
  obtain ⟨H, hH⟩ : ∃ H : Heap, H = s.heap := ⟨_, rfl⟩
  rw [← hH] at hP
  rw [← hH]
  have hS : va_S A s.heap H [] := by rw [hH]; exact hS
  obtain ⟨locs, hlo⟩ : ∃ L : List Loc, L = [] := ⟨_, rfl⟩
  rw [← hlo] at hS
  rw [← hlo]
  clear hH hlo
  refine lv_iload_n hx hb dX12_sees_0 rfl (lv_at hl 1 rfl) ?_
  refine vp_callSi (va_runS (As := [.int x]) (rest := []) ⟨hx, hb, hml, hown, hts⟩ (c_mCell l dC dI x) (va_cwS 1 hts gX12_sees_X12_isCell rfl rfl rfl hd_yX12_isCell.2 ⟨Nat.le_of_ble_eq_true rfl, Nat.le_of_ble_eq_true rfl⟩) ⟨fun a U g mk q => ⟨q.1, trivial⟩, fun U hU hW => ⟨rfl, trivial⟩⟩ rfl rfl hl.1 rfl (lv_room (Nat.le_of_ble_eq_true rfl)) dX12_sees_1 ⟨Nat.le_of_ble_eq_true rfl, Nat.le_of_ble_eq_true rfl⟩).run (fun r_1 hw_2 => ?_)
  rcases hw_2 with ⟨rfl, h_3, h_4⟩ | ⟨rfl, h_5⟩
  · skip
    refine lv_if_eq (tgt := 15) hx hb dX12_sees_4 (by decide) (fun c_6 => absurd c_6 (by decide)) (fun _ => ?_)
    refine lv_aload_n hx hb dX12_sees_7 rfl (lv_at hl 0 rfl) ?_
    refine lv_iload_n hx hb dX12_sees_8 rfl (lv_at hl 1 rfl) ?_
    have hPc := hP.sub (ws' := [(zo14irriiiiiirriirrrrlriiii m0 th aS aI im ac sp en wg op aB aT se dn aG aO aN aD bv aY rn kd nu tv), (zaI aS cS 901 fS), (zaI aB cB 6 fB), (zaI aT cT 64 fT)]) [0, 1, 2, 3] rfl
    have hDc := hD.sub (ws' := [(zo14irriiiiiirriirrrrlriiii m0 th aS aI im ac sp en wg op aB aT se dn aG aO aN aD bv aY rn kd nu tv), (zaI aS cS 901 fS), (zaI aB cB 6 fB), (zaI aT cT 64 fT)]) [0, 1, 2, 3] (by decide) rfl
    have hKc := hK.sub (tys' := [(cS, .int), (cB, .int), (cT, .boolean)]) [0, 1, 2] rfl
    have hFc := va_free (wc := [(zo14irriiiiiirriirrrrlriiii m0 th aS aI im ac sp en wg op aB aT se dn aG aO aN aD bv aY rn kd nu tv), (zaI aS cS 901 fS), (zaI aB cB 6 fB), (zaI aT cT 64 fT)]) hD hS hA [0, 1, 2, 3] rfl
    refine va_calli (va_runV (As := [.int x]) (rest := []) ⟨hx, hb, hml, hown, hts⟩ (c_seesOf l dC dI m0 aS aI aB aT aG aO aN aD aY th im ac sp en wg op se dn rn kd nu tv bv cS cB cT fS fB fT n x cz H.size (zn) (hn) (zh)) (cwV 1 hts gX12_sees_X12_seesOf rfl rfl rfl hd_yX12_seesOf ⟨Nat.le_of_ble_eq_true rfl, Nat.le_of_ble_eq_true rfl⟩) ⟨fun a U g mk q => by obtain ⟨q0, q1, qP, qK, qD⟩ := q; exact ⟨q0, mvz g mk a q1, mvP g mk a qP, mvK g mk a qK, qD⟩, va_recv hK hP (ci := 14) (q := (RX12, TX12, 23)) (q0 := 0) rfl rfl, fun U hU hW => ⟨rfl, by rw [hU], by rw [hU]; exact hPc, va_K.moved hW.alike hKc, hDc.weaken (fun _ _ _ _ => trivial)⟩⟩ rfl rfl hl.1 rfl (lv_room (Nat.le_of_ble_eq_true rfl)) dX12_sees_9 ⟨Nat.le_of_ble_eq_true rfl, Nat.le_of_ble_eq_true rfl⟩) hS (fun q _ h => hFc q h) hFc (fun r_7 u tC H1 locs htC hvm hw_8 hB hz1 hk1 hS => ?_)
    obtain ⟨fB9_9, fT9_10, se9_11, dn9_12⟩ := u
    try dsimp only at hw_8 hB
    obtain ⟨hP1, hK1, hD1⟩ := hB
    rw [htC] at hP1
    have hK1 := va_K.moved hvm.symm hK1
    obtain ⟨hP, hD⟩ := va_join (wr := []) (w1 := [(zo14irriiiiiirriirrrrlriiii m0 th aS aI im ac sp en wg op aB aT se9_11 dn9_12 aG aO aN aD bv aY rn kd nu tv), (zaI aS cS 901 fS), (zaI aB cB 6 fB9_9), (zaI aT cT 64 fT9_10)]) hP hD [0, 1, 2, 3] [] rfl rfl (by decide) (by decide) hk1 hFc hP1 hD1
    have hK := (hK.sub (tys' := []) [] rfl).app hK1
    generalize H1 = H at hP hS ⊢
    have hP : va_P (dC, dI) vwCl [(zo14irriiiiiirriirrrrlriiii m0 th aS aI im ac sp en wg op aB aT se9_11 dn9_12 aG aO aN aD bv aY rn kd nu tv), (zaI aS cS 901 fS), (zaI aB cB 6 fB9_9), (zaI aT cT 64 fT9_10)] H := hP
    have hD : va_D A [(zo14irriiiiiirriirrrrlriiii m0 th aS aI im ac sp en wg op aB aT se9_11 dn9_12 aG aO aN aD bv aY rn kd nu tv), (zaI aS cS 901 fS), (zaI aB cB 6 fB9_9), (zaI aT cT 64 fT9_10)] := hD
    have hK : va_K (dC, dI) vwCl [(cS, .int), (cB, .int), (cT, .boolean)] s := hK
    obtain rfl := hw_8
    refine lv_goto (tgt := 16) hx hb dX12_sees_12 (by decide) ?_
    rw [hQ]
    have hP9 := hP.sub (ws' := [(zo14irriiiiiirriirrrrlriiii m0 th aS aI im ac sp en wg op aB aT se9_11 dn9_12 aG aO aN aD bv aY rn kd nu tv), (zaI aS cS 901 fS), (zaI aB cB 6 fB9_9), (zaI aT cT 64 fT9_10)]) [0, 1, 2, 3] rfl
    have hD9 := hD.sub (ws' := [(zo14irriiiiiirriirrrrlriiii m0 th aS aI im ac sp en wg op aB aT se9_11 dn9_12 aG aO aN aD bv aY rn kd nu tv), (zaI aS cS 901 fS), (zaI aB cB 6 fB9_9), (zaI aT cT 64 fT9_10)]) [0, 1, 2, 3] (by decide) rfl
    have hK9 := hK.sub (tys' := [(cS, .int), (cB, .int), (cT, .boolean)]) [0, 1, 2] rfl
    exact W.iret (v := sbR (fun i => apR x (fS (28 + i))) (fun i => RR fS cz i) n) hx hb hr (fun tQ htQ hWQ => ⟨⟨(sbR (fun i => apR x (fS (28 + i))) (fun i => RR fS cz i) n), (fB9_9, fT9_10, se9_11, dn9_12), rfl, by first | exact se_no (by assumption) | exact se_m (by assumption) (by assumption) zkd zvv zc zmi zsn, by rw [htQ]; exact hP9, va_K.moved hWQ.alike hK9, hD9⟩, hS.F htQ⟩) hS.2.2 dX12_sees_16
  · skip
    refine lv_if_eq (tgt := 15) hx hb dX12_sees_4 (by decide) (fun _ => ?_) (fun c_13 => absurd c_13 (by decide))
    refine lv_iconst (v := (-1)) hx hb dX12_sees_15 (by decide) ?_
    rw [hQ]
    have hP9 := hP.sub (ws' := [(zo14irriiiiiirriirrrrlriiii m0 th aS aI im ac sp en wg op aB aT se dn aG aO aN aD bv aY rn kd nu tv), (zaI aS cS 901 fS), (zaI aB cB 6 fB), (zaI aT cT 64 fT)]) [0, 1, 2, 3] rfl
    have hD9 := hD.sub (ws' := [(zo14irriiiiiirriirrrrlriiii m0 th aS aI im ac sp en wg op aB aT se dn aG aO aN aD bv aY rn kd nu tv), (zaI aS cS 901 fS), (zaI aB cB 6 fB), (zaI aT cT 64 fT)]) [0, 1, 2, 3] (by decide) rfl
    have hK9 := hK.sub (tys' := [(cS, .int), (cB, .int), (cT, .boolean)]) [0, 1, 2] rfl
    exact W.iret (v := (-1)) hx hb hr (fun tQ htQ hWQ => ⟨⟨(-1), (fB, fT, se, dn), rfl, by first | exact se_no (by assumption) | exact se_m (by assumption) (by assumption) zkd zvv zc zmi zsn, by rw [htQ]; exact hP9, va_K.moved hWQ.alike hK9, hD9⟩, hS.F htQ⟩) hS.2.2 dX12_sees_16

theorem kc_mWhere_0 : (.constantLong RX12 181 (-9223372036854775808) : Cond) ∈ wsX12_where := kc_of 1351 rfl rfl rfl
theorem kc_mWhere_1 : ∀ w ∈ wsX120, w ∈ wsX12_where := fun w h => List.mem_cons_of_mem _ (gin_wsX120 w h)
theorem kc_mWhere_2 : (.fieldLink RX12 9 "MistHeapsModel" "s" "[I" : Cond) ∈ wsX12_where := kc_of 1141 rfl rfl rfl
set_option maxHeartbeats 4000000 in
set_option maxRecDepth 100000 in
theorem c_mWhere (l : Launch) (dC : Nat → ClassId) (dI : Nat → Nat → Nat) (m0 aS aI aB aT aG aO aN aD aY : Nat) (th im ac sp en wg op se dn rn kd nu tv : Int32) (bv : Int64) (cS cB cT : ClassId) (fS : Nat → Int32) (fB : Nat → Int32) (fT : Nat → Int32) (n : Nat) (yk yv yc : Nat → Int32) (mi sn : Int32) (x : Int32) (cz : List pCla) (sz : Nat) (zn : fS 0 = nI n) (hn : n ≤ 8) (zh : hol fS cz) (zkd : ∀ k, k < n → fS (10 + k) = yk k) (zvv : ∀ k, k < n → fS (19 + k) = yv k) (zc : ∀ k, k < n → fS (28 + k) = yc k) (zmi : fS 6 = mi) (zsn : fS 7 = sn) : Met l yX12_where wsX12_where ({ frames := 4, cells := 0, slots := 0, locals := 100 } : Room) (va_Pc [.ref m0, .int x] (fun U => U.heap.size = sz ∧ va_P (dC, dI) vwCl [(zo14irriiiiiirriirrrrlriiii m0 th aS aI im ac sp en wg op aB aT se dn aG aO aN aD bv aY rn kd nu tv), (zaI aS cS 901 fS), (zaI aB cB 6 fB), (zaI aT cT 64 fT)] U.heap ∧ va_K (dC, dI) vwCl [(cS, .int), (cB, .int), (cT, .boolean)] U ∧ va_D (fun _ => True) [(zo14irriiiiiirriirrrrlriiii m0 th aS aI im ac sp en wg op aB aT se dn aG aO aN aD bv aY rn kd nu tv), (zaI aS cS 901 fS), (zaI aB cB 6 fB), (zaI aT cT 64 fT)])) (va_Ql (fun (r : Int64) (u : (Nat → Int32) × (Nat → Int32) × (Int32) × (Int32)) => match u with | (fB9, fT9, se9, dn9) => r = whR n yk yv yc cz mi sn x) (fun (u : (Nat → Int32) × (Nat → Int32) × (Int32) × (Int32)) (t : State) => match u with | (fB9, fT9, se9, dn9) => va_P (dC, dI) vwCl [(zo14irriiiiiirriirrrrlriiii m0 th aS aI im ac sp en wg op aB aT se9 dn9 aG aO aN aD bv aY rn kd nu tv), (zaI aS cS 901 fS), (zaI aB cB 6 fB9), (zaI aT cT 64 fT9)] t.heap ∧ va_K (dC, dI) vwCl [(cS, .int), (cB, .int), (cT, .boolean)] t ∧ va_D (va_A [(zo14irriiiiiirriirrrrlriiii m0 th aS aI im ac sp en wg op aB aT se dn aG aO aN aD bv aY rn kd nu tv), (zaI aS cS 901 fS), (zaI aB cB 6 fB), (zaI aT cT 64 fT)] sz) [(zo14irriiiiiirriirrrrlriiii m0 th aS aI im ac sp en wg op aB aT se9 dn9 aG aO aN aD bv aY rn kd nu tv), (zaI aS cS 901 fS), (zaI aB cB 6 fB9), (zaI aT cT 64 fT9)]) (va_A [(zo14irriiiiiirriirrrrlriiii m0 th aS aI im ac sp en wg op aB aT se dn aG aO aN aD bv aY rn kd nu tv), (zaI aS cS 901 fS), (zaI aB cB 6 fB), (zaI aT cT 64 fT)] sz)) 0 0 (va_A [(zo14irriiiiiirriirrrrlriiii m0 th aS aI im ac sp en wg op aB aT se dn aG aO aN aD bv aY rn kd nu tv), (zaI aS cS 901 fS), (zaI aB cB 6 fB), (zaI aT cT 64 fT)] sz) := by
  refine met_ofQ (cc := cX12_where) (maxL := 5) (ret := (some .long)) (by decide) rfl ?_
  intro p e s m args below meth c s₁ Q B hml hv hQ
  obtain ⟨rfl, hsz, hP, hK, hD0⟩ := hv
  have hx := B.exec
  have hb := B.bytes
  have hr := B.returns
  have hts := atoms_spec (ws := wsX12_where) B.pre
  have hown : s.vm.findClass RX12 = some m.cls := findClass_of_methodNamed B.named
  have hlocks := B.notSynchronized
  subst hsz
  have hD := hD0.self (sz := s.heap.size)
  generalize hAe : va_A [(zo14irriiiiiirriirrrrlriiii m0 th aS aI im ac sp en wg op aB aT se dn aG aO aN aD bv aY rn kd nu tv), (zaI aS cS 901 fS), (zaI aB cB 6 fB), (zaI aT cT 64 fT)] s.heap.size = A at hD hQ ⊢
  have hA : ∀ q : Nat, s.heap.size ≤ q → A q := fun q h => by rw [← hAe]; exact Or.inr h
  have hS : va_S A s.heap s.heap [] := va_S.rf
  have hl := lv_entry [.ref m0, .int x] (n := 5) (Nat.le_of_ble_eq_true rfl)
  rw [lg_entry_eq]
  generalize (lg_sl [.ref m0, .int x] ++ List.replicate (5 - (lg_sl [.ref m0, .int x]).length) Slot.unset).toArray = ls at hl ⊢
  generalize hag : ([.ref m0, .int x] : List Value).toArray = args at hts hQ ⊢
  have hl : lv_has ls 5 [(0, .ref m0), (1, .int x)] := hl
  obtain ⟨H, hH⟩ : ∃ H : Heap, H = s.heap := ⟨_, rfl⟩
  rw [← hH] at hP
  rw [← hH]
  have hS : va_S A s.heap H [] := by rw [hH]; exact hS
  obtain ⟨locs, hlo⟩ : ∃ L : List Loc, L = [] := ⟨_, rfl⟩
  rw [← hlo] at hS
  rw [← hlo]
  clear hH hlo
  refine lv_iload_n hx hb dX12_where_0 rfl (lv_at hl 1 rfl) ?_
  refine lv_if_lt (tgt := 15) hx hb dX12_where_1 (by decide) (fun c_1 => ?_) (fun c_1 => ?_)
  · skip
    refine lv_ldc2 (v := (-9223372036854775808)) hx hb hown (hts (.constantLong RX12 181 (-9223372036854775808)) kc_mWhere_0) dX12_where_15 ?_
    rw [hQ]
    have hP9 := hP.sub (ws' := [(zo14irriiiiiirriirrrrlriiii m0 th aS aI im ac sp en wg op aB aT se dn aG aO aN aD bv aY rn kd nu tv), (zaI aS cS 901 fS), (zaI aB cB 6 fB), (zaI aT cT 64 fT)]) [0, 1, 2, 3] rfl
    have hD9 := hD.sub (ws' := [(zo14irriiiiiirriirrrrlriiii m0 th aS aI im ac sp en wg op aB aT se dn aG aO aN aD bv aY rn kd nu tv), (zaI aS cS 901 fS), (zaI aB cB 6 fB), (zaI aT cT 64 fT)]) [0, 1, 2, 3] (by decide) rfl
    have hK9 := hK.sub (tys' := [(cS, .int), (cB, .int), (cT, .boolean)]) [0, 1, 2] rfl
    exact W.lret (v := (-9223372036854775808)) hx hb hr (fun tQ htQ hWQ => ⟨⟨(-9223372036854775808), (fB, fT, se, dn), rfl, by first | exact wh_a (by assumption) | exact wh_b (by assumption) | exact wh_m (by assumption) (by assumption) zkd zvv zc zmi zsn (wh_end hq9 (by omega)), by rw [htQ]; exact hP9, va_K.moved hWQ.alike hK9, hD9⟩, hS.F htQ⟩) hS.2.2 dX12_where_18
  · skip
    refine lv_iload_n hx hb dX12_where_4 rfl (lv_at hl 1 rfl) ?_
    refine lv_aload_n hx hb dX12_where_5 rfl (lv_at hl 0 rfl) ?_
    refine va_get (D := (dC, dI)) (ci := 14) (v := .ref aS) (C := RX12) (T := TX12) (N := 23) hx hb hts kc_mWhere_1 hown hK hP 0 rfl rfl 1 (by decide) (hts (.fieldLink RX12 9 "MistHeapsModel" "s" "[I") kc_mWhere_2) (fun _ h9 => h9) rfl dX12_where_6 ?_
    refine lv_iconst (v := 0) hx hb dX12_where_9 (by decide) ?_
    refine va_iald hx hb hK hP 1 0 rfl rfl (vp_in_nI (n := 0) (N := 901) (by omega) (by omega)) dX12_where_10 ?_
    refine qi_as (y := nI n) ((show fS (0 : Int32).toNatClampNeg = fS 0 from rfl).trans (zn)) ?_
    refine lv_ishr hx hb dX12_where_11 ?_
    refine lv_if_eq (tgt := 19) hx hb dX12_where_12 (by decide) (fun c_2 => ?_) (fun c_2 => ?_)
    · skip
      refine lv_lconst (v := 0) hx hb dX12_where_19 (by decide) ?_
      refine lv_lstore_n (lv' := [(2, .long 0), (0, .ref m0), (1, .int x)]) hx hb dX12_where_20 rfl hl (by decide) rfl (fun ls hl => ?_)
      refine lv_iconst (v := 0) hx hb dX12_where_21 (by decide) ?_
      refine lv_istore (lv' := [(4, .int 0), (2, .long 0), (0, .ref m0), (1, .int x)]) hx hb dX12_where_22 hl (by decide) rfl (fun ls hl => ?_)
      have L24 : ∀ (nF : Nat) (i : Nat) (se2 : Int32) (dn2 : Int32) (fB2 : Nat → Int32) (fT2 : Nat → Int32) (q : Int64), 36 - i < nF → (i ≤ 36) → (q = whB (fun i => sbR (fun k => apR (nI i) (fS (28 + k))) (fun k => RR fS cz k) n) x i) → ∀ (H : Heap) (locs : List Loc), va_K (dC, dI) vwCl [(cS, .int), (cB, .int), (cT, .boolean)] s → va_P (dC, dI) vwCl [(zo14irriiiiiirriirrrrlriiii m0 th aS aI im ac sp en wg op aB aT se2 dn2 aG aO aN aD bv aY rn kd nu tv), (zaI aS cS 901 fS), (zaI aB cB 6 fB2), (zaI aT cT 64 fT2)] H → va_D A [(zo14irriiiiiirriirrrrlriiii m0 th aS aI im ac sp en wg op aB aT se2 dn2 aG aO aN aD bv aY rn kd nu tv), (zaI aS cS 901 fS), (zaI aB cB 6 fB2), (zaI aT cT 64 fT2)] → va_S A s.heap H locs → ∀ (ls : Array Slot), lv_has ls 5 [(0, .ref m0), (1, .int x), (2, .long q), (4, .int (nI i))] → W p l e ({ frames := 4, cells := 0, slots := 0, locals := 100 } : Room) s m args below meth c H locs 0 0 Q (F0 m 24 ls []) := by
        intro nF
        induction nF with
        | zero => intro i se2 dn2 fB2 fT2 q hm; exact absurd hm (Nat.not_lt_zero _)
        | succ nF ih24 =>
          intro i se2 dn2 fB2 fT2 q hm hii hq9 H locs hK hP hD hS ls hl
          refine lv_iload hx hb dX12_where_24 (lv_at hl 3 rfl) ?_
          refine lv_bipush (v := 36) hx hb dX12_where_26 (by decide) ?_
          refine lv_icmp_ge (tgt := 58) hx hb dX12_where_28 (by decide) (fun c_3 => ?_) (fun c_3 => ?_)
          · skip
            have c_3 : 36 ≤ i := (nI_leI (a := 36) (b := i) (by omega) (by omega)).mp c_3
            refine lv_lload_n hx hb dX12_where_58 rfl (lv_at hl 2 rfl) ?_
            rw [hQ]
            have hP9 := hP.sub (ws' := [(zo14irriiiiiirriirrrrlriiii m0 th aS aI im ac sp en wg op aB aT se2 dn2 aG aO aN aD bv aY rn kd nu tv), (zaI aS cS 901 fS), (zaI aB cB 6 fB2), (zaI aT cT 64 fT2)]) [0, 1, 2, 3] rfl
            have hD9 := hD.sub (ws' := [(zo14irriiiiiirriirrrrlriiii m0 th aS aI im ac sp en wg op aB aT se2 dn2 aG aO aN aD bv aY rn kd nu tv), (zaI aS cS 901 fS), (zaI aB cB 6 fB2), (zaI aT cT 64 fT2)]) [0, 1, 2, 3] (by decide) rfl
            have hK9 := hK.sub (tys' := [(cS, .int), (cB, .int), (cT, .boolean)]) [0, 1, 2] rfl
            exact W.lret (v := q) hx hb hr (fun tQ htQ hWQ => ⟨⟨q, (fB2, fT2, se2, dn2), rfl, by first | exact wh_a (by assumption) | exact wh_b (by assumption) | exact wh_m (by assumption) (by assumption) zkd zvv zc zmi zsn (wh_end hq9 (by omega)), by rw [htQ]; exact hP9, va_K.moved hWQ.alike hK9, hD9⟩, hS.F htQ⟩) hS.2.2 dX12_where_59
          · skip
            have c_3 : ¬ 36 ≤ i := fun q => c_3 ((nI_leI (a := 36) (b := i) (by omega) (by omega)).mpr q)
            refine lv_lload_n hx hb dX12_where_31 rfl (lv_at hl 2 rfl) ?_
            refine lv_aload_n hx hb dX12_where_32 rfl (lv_at hl 0 rfl) ?_
            refine lv_iload hx hb dX12_where_33 (lv_at hl 3 rfl) ?_
            have hPc := hP.sub (ws' := [(zo14irriiiiiirriirrrrlriiii m0 th aS aI im ac sp en wg op aB aT se2 dn2 aG aO aN aD bv aY rn kd nu tv), (zaI aS cS 901 fS), (zaI aB cB 6 fB2), (zaI aT cT 64 fT2)]) [0, 1, 2, 3] rfl
            have hDc := hD.sub (ws' := [(zo14irriiiiiirriirrrrlriiii m0 th aS aI im ac sp en wg op aB aT se2 dn2 aG aO aN aD bv aY rn kd nu tv), (zaI aS cS 901 fS), (zaI aB cB 6 fB2), (zaI aT cT 64 fT2)]) [0, 1, 2, 3] (by decide) rfl
            have hKc := hK.sub (tys' := [(cS, .int), (cB, .int), (cT, .boolean)]) [0, 1, 2] rfl
            have hFc := va_free (wc := [(zo14irriiiiiirriirrrrlriiii m0 th aS aI im ac sp en wg op aB aT se2 dn2 aG aO aN aD bv aY rn kd nu tv), (zaI aS cS 901 fS), (zaI aB cB 6 fB2), (zaI aT cT 64 fT2)]) hD hS hA [0, 1, 2, 3] rfl
            refine va_calli (va_runV (As := [.int (nI i)]) (rest := [.long q]) ⟨hx, hb, hml, hown, hts⟩ (c_seesOf l dC dI m0 aS aI aB aT aG aO aN aD aY th im ac sp en wg op se2 dn2 rn kd nu tv bv cS cB cT fS fB2 fT2 n (nI i) cz H.size (zn) (hn) (zh)) (cwV 1 hts gX12_where_X12_seesOf rfl rfl rfl hd_yX12_seesOf ⟨Nat.le_of_ble_eq_true rfl, Nat.le_of_ble_eq_true rfl⟩) ⟨fun a U g mk q => by obtain ⟨q0, q1, qP, qK, qD⟩ := q; exact ⟨q0, mvz g mk a q1, mvP g mk a qP, mvK g mk a qK, qD⟩, va_recv hK hP (ci := 14) (q := (RX12, TX12, 23)) (q0 := 0) rfl rfl, fun U hU hW => ⟨rfl, by rw [hU], by rw [hU]; exact hPc, va_K.moved hW.alike hKc, hDc.weaken (fun _ _ _ _ => trivial)⟩⟩ rfl rfl hl.1 rfl (lv_room (Nat.le_of_ble_eq_true rfl)) dX12_where_35 ⟨Nat.le_of_ble_eq_true rfl, Nat.le_of_ble_eq_true rfl⟩) hS (fun q _ h => hFc q h) hFc (fun r_4 u tC H1 locs htC hvm hw_5 hB hz1 hk1 hS => ?_)
            obtain ⟨fB9_6, fT9_7, se9_8, dn9_9⟩ := u
            try dsimp only at hw_5 hB
            obtain ⟨hP1, hK1, hD1⟩ := hB
            rw [htC] at hP1
            have hK1 := va_K.moved hvm.symm hK1
            obtain ⟨hP, hD⟩ := va_join (wr := []) (w1 := [(zo14irriiiiiirriirrrrlriiii m0 th aS aI im ac sp en wg op aB aT se9_8 dn9_9 aG aO aN aD bv aY rn kd nu tv), (zaI aS cS 901 fS), (zaI aB cB 6 fB9_6), (zaI aT cT 64 fT9_7)]) hP hD [0, 1, 2, 3] [] rfl rfl (by decide) (by decide) hk1 hFc hP1 hD1
            have hK := (hK.sub (tys' := []) [] rfl).app hK1
            generalize H1 = H at hP hS ⊢
            have hP : va_P (dC, dI) vwCl [(zo14irriiiiiirriirrrrlriiii m0 th aS aI im ac sp en wg op aB aT se9_8 dn9_9 aG aO aN aD bv aY rn kd nu tv), (zaI aS cS 901 fS), (zaI aB cB 6 fB9_6), (zaI aT cT 64 fT9_7)] H := hP
            have hD : va_D A [(zo14irriiiiiirriirrrrlriiii m0 th aS aI im ac sp en wg op aB aT se9_8 dn9_9 aG aO aN aD bv aY rn kd nu tv), (zaI aS cS 901 fS), (zaI aB cB 6 fB9_6), (zaI aT cT 64 fT9_7)] := hD
            have hK : va_K (dC, dI) vwCl [(cS, .int), (cB, .int), (cT, .boolean)] s := hK
            obtain rfl := hw_5
            refine lv_iload_n hx hb dX12_where_38 rfl (lv_at hl 1 rfl) ?_
            refine lv_icmp_ne (tgt := 49) hx hb dX12_where_39 (by decide) (fun c_10 => ?_) (fun c_10 => ?_)
            · skip
              refine lv_lconst (v := 0) hx hb dX12_where_49 (by decide) ?_
              refine lv_lor hx hb dX12_where_50 ?_
              refine lv_lstore_n (lv' := [(2, .long (q ||| 0)), (0, .ref m0), (1, .int x), (4, .int (nI i))]) hx hb dX12_where_51 rfl hl (by decide) rfl (fun ls hl => ?_)
              refine lv_iinc (v := nI (i + 1)) (lv' := [(4, .int (nI (i + 1))), (2, .long (q ||| 0)), (0, .ref m0), (1, .int x)]) hx hb dX12_where_52 hl (k := 3) rfl (nI_add i 1) (by decide) rfl (fun ls hl => ?_)
              refine lv_goto (tgt := 24) hx hb dX12_where_55 (by decide) ?_
              exact ih24 (i + 1) _ _ _ _ (q ||| 0) (by omega) (by omega) (wh_0 hq9 c_10) _ _ (hK.sub [0, 1, 2] rfl) (hP.sub [0, 1, 2, 3] rfl) (hD.sub [0, 1, 2, 3] (by decide) rfl) hS ls (lv_sub hl [2, 3, 1, 0] rfl)
            · skip
              refine lv_lconst (v := 1) hx hb dX12_where_42 (by decide) ?_
              refine lv_iload hx hb dX12_where_43 (lv_at hl 3 rfl) ?_
              refine lv_lshl (v := (1 : Int64) <<< ((nI i).toInt64 &&& 63)) hx hb dX12_where_45 (rfl) ?_
              refine lv_goto (tgt := 50) hx hb dX12_where_46 (by decide) ?_
              refine lv_lor hx hb dX12_where_50 ?_
              refine lv_lstore_n (lv' := [(2, .long (q ||| ((1 : Int64) <<< ((nI i).toInt64 &&& 63)))), (0, .ref m0), (1, .int x), (4, .int (nI i))]) hx hb dX12_where_51 rfl hl (by decide) rfl (fun ls hl => ?_)
              refine lv_iinc (v := nI (i + 1)) (lv' := [(4, .int (nI (i + 1))), (2, .long (q ||| ((1 : Int64) <<< ((nI i).toInt64 &&& 63)))), (0, .ref m0), (1, .int x)]) hx hb dX12_where_52 hl (k := 3) rfl (nI_add i 1) (by decide) rfl (fun ls hl => ?_)
              refine lv_goto (tgt := 24) hx hb dX12_where_55 (by decide) ?_
              exact ih24 (i + 1) _ _ _ _ (q ||| ((1 : Int64) <<< ((nI i).toInt64 &&& 63))) (by omega) (by omega) (wh_1 hq9 c_10) _ _ (hK.sub [0, 1, 2] rfl) (hP.sub [0, 1, 2, 3] rfl) (hD.sub [0, 1, 2, 3] (by decide) rfl) hS ls (lv_sub hl [2, 3, 1, 0] rfl)
      exact L24 _ (0) _ _ _ _ (0) (Nat.lt_succ_self _) (by omega) (rfl) _ _ (hK.sub [0, 1, 2] rfl) (hP.sub [0, 1, 2, 3] rfl) (hD.sub [0, 1, 2, 3] (by decide) rfl) hS ls (lv_sub hl [2, 3, 1, 0] rfl)
    · skip
      refine lv_ldc2 (v := (-9223372036854775808)) hx hb hown (hts (.constantLong RX12 181 (-9223372036854775808)) kc_mWhere_0) dX12_where_15 ?_
      rw [hQ]
      have hP9 := hP.sub (ws' := [(zo14irriiiiiirriirrrrlriiii m0 th aS aI im ac sp en wg op aB aT se dn aG aO aN aD bv aY rn kd nu tv), (zaI aS cS 901 fS), (zaI aB cB 6 fB), (zaI aT cT 64 fT)]) [0, 1, 2, 3] rfl
      have hD9 := hD.sub (ws' := [(zo14irriiiiiirriirrrrlriiii m0 th aS aI im ac sp en wg op aB aT se dn aG aO aN aD bv aY rn kd nu tv), (zaI aS cS 901 fS), (zaI aB cB 6 fB), (zaI aT cT 64 fT)]) [0, 1, 2, 3] (by decide) rfl
      have hK9 := hK.sub (tys' := [(cS, .int), (cB, .int), (cT, .boolean)]) [0, 1, 2] rfl
      exact W.lret (v := (-9223372036854775808)) hx hb hr (fun tQ htQ hWQ => ⟨⟨(-9223372036854775808), (fB, fT, se, dn), rfl, by first | exact wh_a (by assumption) | exact wh_b (by assumption) | exact wh_m (by assumption) (by assumption) zkd zvv zc zmi zsn (wh_end hq9 (by omega)), by rw [htQ]; exact hP9, va_K.moved hWQ.alike hK9, hD9⟩, hS.F htQ⟩) hS.2.2 dX12_where_18
end mg05
section mg05
theorem ggX12_doesGo_X12_isSeen : GoodIn wsX12_doesGo wsX12_isSeen := gga_of 1340 rfl rfl rfl
theorem gX12_doesGo_X12_isSeen : GoodIn wsX12_doesGo (wsV RX12 174 RX12 yX12_isSeen wsX12_isSeen) := goodIn_app (ggh_of [1337, 1339, 41, 72] rfl rfl rfl) ggX12_doesGo_X12_isSeen
theorem ggX12_doesGo_X12_rowsOf : GoodIn wsX12_doesGo wsX12_rowsOf := gga_of 1370 rfl rfl rfl
theorem gX12_doesGo_X12_rowsOf : GoodIn wsX12_doesGo (va_wsS RX12 53 yX12_rowsOf wsX12_rowsOf) := goodIn_app (ggh_of [1368, 1369, 72] rfl rfl rfl) ggX12_doesGo_X12_rowsOf
theorem ggX12_doesGo_X12_isThatSide : GoodIn wsX12_doesGo wsX12_isThatSide := gga_of 1373 rfl rfl rfl
theorem gX12_doesGo_X12_isThatSide : GoodIn wsX12_doesGo (va_wsS RX12 183 yX12_isThatSide wsX12_isThatSide) := goodIn_app (ggh_of [1371, 1372, 72] rfl rfl rfl) ggX12_doesGo_X12_isThatSide
theorem ggX12_doesGo_X12_columnsOf : GoodIn wsX12_doesGo wsX12_columnsOf := gga_of 1376 rfl rfl rfl
theorem gX12_doesGo_X12_columnsOf : GoodIn wsX12_doesGo (va_wsS RX12 56 yX12_columnsOf wsX12_columnsOf) := goodIn_app (ggh_of [1374, 1375, 72] rfl rfl rfl) ggX12_doesGo_X12_columnsOf
theorem ggX12_looksForGoings_X12_doesGo : GoodIn wsX12_looksForGoings wsX12_doesGo := gga_of 1367 rfl rfl rfl
theorem gX12_looksForGoings_X12_doesGo : GoodIn wsX12_looksForGoings (wsV RX12 186 RX12 yX12_doesGo wsX12_doesGo) := goodIn_app (ggh_of [1364, 1366, 44, 72] rfl rfl rfl) ggX12_looksForGoings_X12_doesGo
theorem ggX12_stepsBut_X12_spread : GoodIn wsX12_stepsBut wsX12_spread := gga_of 1384 rfl rfl rfl
theorem gX12_stepsBut_X12_spread : GoodIn wsX12_stepsBut (wsV RX12 189 RX12 yX12_spread wsX12_spread) := goodIn_app (ggh_of [1381, 1383, 46, 72] rfl rfl rfl) ggX12_stepsBut_X12_spread
theorem ggX12_stepsOf_X12_looksForGoings : GoodIn wsX12_stepsOf wsX12_looksForGoings := gga_of 1363 rfl rfl rfl
theorem gX12_stepsOf_X12_looksForGoings : GoodIn wsX12_stepsOf (wsV RX12 192 RX12 yX12_looksForGoings wsX12_looksForGoings) := goodIn_app (ggh_of [1360, 1362, 43, 72] rfl rfl rfl) ggX12_stepsOf_X12_looksForGoings
theorem ggX12_stepsOf_X12_stepsBut : GoodIn wsX12_stepsOf wsX12_stepsBut := gga_of 1380 rfl rfl rfl
theorem gX12_stepsOf_X12_stepsBut : GoodIn wsX12_stepsOf (wsV RX12 195 RX12 yX12_stepsBut wsX12_stepsBut) := goodIn_app (ggh_of [1377, 1379, 45, 72] rfl rfl rfl) ggX12_stepsOf_X12_stepsBut
theorem ggX12_steps_X12_isHeap : GoodIn wsX12_steps wsX12_isHeap := gga_of 1320 rfl rfl rfl
theorem gX12_steps_X12_isHeap : GoodIn wsX12_steps (wsV RX12 164 RX12 yX12_isHeap wsX12_isHeap) := goodIn_app (ggh_of [1317, 1319, 37, 72] rfl rfl rfl) ggX12_steps_X12_isHeap
theorem ggX12_steps_X12_stepsOf : GoodIn wsX12_steps wsX12_stepsOf := gga_of 1359 rfl rfl rfl
theorem gX12_steps_X12_stepsOf : GoodIn wsX12_steps (wsV RX12 198 RX12 yX12_stepsOf wsX12_stepsOf) := goodIn_app (ggh_of [1356, 1358, 42, 72] rfl rfl rfl) ggX12_steps_X12_stepsOf
theorem ggX12_via_X12_isHeap : GoodIn wsX12_via wsX12_isHeap := gga_of 1320 rfl rfl rfl
theorem gX12_via_X12_isHeap : GoodIn wsX12_via (wsV RX12 164 RX12 yX12_isHeap wsX12_isHeap) := goodIn_app (ggh_of [1317, 1319, 37, 72] rfl rfl rfl) ggX12_via_X12_isHeap
theorem ggX12_via_X12_stepsOf : GoodIn wsX12_via wsX12_stepsOf := gga_of 1359 rfl rfl rfl
theorem gX12_via_X12_stepsOf : GoodIn wsX12_via (wsV RX12 198 RX12 yX12_stepsOf wsX12_stepsOf) := goodIn_app (ggh_of [1356, 1358, 42, 72] rfl rfl rfl) ggX12_via_X12_stepsOf
theorem ggX12_via_X12_stepsBut : GoodIn wsX12_via wsX12_stepsBut := gga_of 1380 rfl rfl rfl
theorem gX12_via_X12_stepsBut : GoodIn wsX12_via (wsV RX12 195 RX12 yX12_stepsBut wsX12_stepsBut) := goodIn_app (ggh_of [1377, 1379, 45, 72] rfl rfl rfl) ggX12_via_X12_stepsBut
theorem ggX12_cuts_X12_isHeap : GoodIn wsX12_cuts wsX12_isHeap := gga_of 1320 rfl rfl rfl
theorem gX12_cuts_X12_isHeap : GoodIn wsX12_cuts (wsV RX12 164 RX12 yX12_isHeap wsX12_isHeap) := goodIn_app (ggh_of [1317, 1319, 37, 72] rfl rfl rfl) ggX12_cuts_X12_isHeap
theorem ggX12_cuts_X12_stepsOf : GoodIn wsX12_cuts wsX12_stepsOf := gga_of 1359 rfl rfl rfl
theorem gX12_cuts_X12_stepsOf : GoodIn wsX12_cuts (wsV RX12 198 RX12 yX12_stepsOf wsX12_stepsOf) := goodIn_app (ggh_of [1356, 1358, 42, 72] rfl rfl rfl) ggX12_cuts_X12_stepsOf
theorem ggX12_cuts_X12_stepsBut : GoodIn wsX12_cuts wsX12_stepsBut := gga_of 1380 rfl rfl rfl
theorem gX12_cuts_X12_stepsBut : GoodIn wsX12_cuts (wsV RX12 195 RX12 yX12_stepsBut wsX12_stepsBut) := goodIn_app (ggh_of [1377, 1379, 45, 72] rfl rfl rfl) ggX12_cuts_X12_stepsBut
noncomputable def dk07ref3_cX12_doesGo_0 : List (Nat × List Nat) := [(0, [42]), (1, [180, 0, 9]), (4, [16, 10]), (6, [27]), (7, [96]), (8, [46]), (9, [62]), (10, [27]), (11, [28]), (12, [159, 0, 31]), (15, [29]), (16, [6]), (17, [159, 0, 26]), (20, [29]), (21, [16, 6]), (23, [159, 0, 20]), (26, [42]), (27, [28]), (28, [42]), (29, [180, 0, 9]), (32, [16, 28]), (34, [27]), (35, [96]), (36, [46]), (37, [182, 0, 174]), (40, [154, 0, 5]), (43, [3]), (44, [172]), (45, [42]), (46, [180, 0, 9]), (49, [16, 19]), (51, [27]), (52, [96]), (53, [46]), (54, [16, 8]), (56, [112]), (57, [54, 4]), (59, [42]), (60, [180, 0, 9]), (63, [16, 28])]
set_option maxRecDepth 100000 in
theorem dk07ref3_cX12_doesGo_0_a : btA cX12_doesGo dk07ref3_cX12_doesGo_0 = true := by decide +kernel
theorem dX12_doesGo_0 : decode cX12_doesGo 0 = .ok (.aload_n 0, 1) := bd42 (btAt dk07ref3_cX12_doesGo_0_a 0 rfl)
theorem dX12_doesGo_1 : decode cX12_doesGo 1 = .ok (.getfield 9, 3) := bd180 (a := 0) (b := 9) (btAt dk07ref3_cX12_doesGo_0_a 1 rfl)
theorem dX12_doesGo_4 : decode cX12_doesGo 4 = .ok (.bipush 10, 2) := bd16 (a := 10) (btAt dk07ref3_cX12_doesGo_0_a 2 rfl)
theorem dX12_doesGo_6 : decode cX12_doesGo 6 = .ok (.iload_n 1, 1) := bd27 (btAt dk07ref3_cX12_doesGo_0_a 3 rfl)
theorem dX12_doesGo_7 : decode cX12_doesGo 7 = .ok (.iadd, 1) := bd96 (btAt dk07ref3_cX12_doesGo_0_a 4 rfl)
theorem dX12_doesGo_8 : decode cX12_doesGo 8 = .ok (.iaload, 1) := bd46 (btAt dk07ref3_cX12_doesGo_0_a 5 rfl)
theorem dX12_doesGo_9 : decode cX12_doesGo 9 = .ok (.istore_n 3, 1) := bd62 (btAt dk07ref3_cX12_doesGo_0_a 6 rfl)
theorem dX12_doesGo_10 : decode cX12_doesGo 10 = .ok (.iload_n 1, 1) := bd27 (btAt dk07ref3_cX12_doesGo_0_a 7 rfl)
theorem dX12_doesGo_11 : decode cX12_doesGo 11 = .ok (.iload_n 2, 1) := bd28 (btAt dk07ref3_cX12_doesGo_0_a 8 rfl)
theorem dX12_doesGo_12 : decode cX12_doesGo 12 = .ok (.if_icmp .eq 31, 3) := bd159 (a := 0) (b := 31) (btAt dk07ref3_cX12_doesGo_0_a 9 rfl)
theorem dX12_doesGo_15 : decode cX12_doesGo 15 = .ok (.iload_n 3, 1) := bd29 (btAt dk07ref3_cX12_doesGo_0_a 10 rfl)
theorem dX12_doesGo_16 : decode cX12_doesGo 16 = .ok (.iconst 3, 1) := bd6 (btAt dk07ref3_cX12_doesGo_0_a 11 rfl)
theorem dX12_doesGo_17 : decode cX12_doesGo 17 = .ok (.if_icmp .eq 26, 3) := bd159 (a := 0) (b := 26) (btAt dk07ref3_cX12_doesGo_0_a 12 rfl)
theorem dX12_doesGo_20 : decode cX12_doesGo 20 = .ok (.iload_n 3, 1) := bd29 (btAt dk07ref3_cX12_doesGo_0_a 13 rfl)
theorem dX12_doesGo_21 : decode cX12_doesGo 21 = .ok (.bipush 6, 2) := bd16 (a := 6) (btAt dk07ref3_cX12_doesGo_0_a 14 rfl)
theorem dX12_doesGo_23 : decode cX12_doesGo 23 = .ok (.if_icmp .eq 20, 3) := bd159 (a := 0) (b := 20) (btAt dk07ref3_cX12_doesGo_0_a 15 rfl)
theorem dX12_doesGo_26 : decode cX12_doesGo 26 = .ok (.aload_n 0, 1) := bd42 (btAt dk07ref3_cX12_doesGo_0_a 16 rfl)
theorem dX12_doesGo_27 : decode cX12_doesGo 27 = .ok (.iload_n 2, 1) := bd28 (btAt dk07ref3_cX12_doesGo_0_a 17 rfl)
theorem dX12_doesGo_28 : decode cX12_doesGo 28 = .ok (.aload_n 0, 1) := bd42 (btAt dk07ref3_cX12_doesGo_0_a 18 rfl)
theorem dX12_doesGo_29 : decode cX12_doesGo 29 = .ok (.getfield 9, 3) := bd180 (a := 0) (b := 9) (btAt dk07ref3_cX12_doesGo_0_a 19 rfl)
theorem dX12_doesGo_32 : decode cX12_doesGo 32 = .ok (.bipush 28, 2) := bd16 (a := 28) (btAt dk07ref3_cX12_doesGo_0_a 20 rfl)
theorem dX12_doesGo_34 : decode cX12_doesGo 34 = .ok (.iload_n 1, 1) := bd27 (btAt dk07ref3_cX12_doesGo_0_a 21 rfl)
theorem dX12_doesGo_35 : decode cX12_doesGo 35 = .ok (.iadd, 1) := bd96 (btAt dk07ref3_cX12_doesGo_0_a 22 rfl)
theorem dX12_doesGo_36 : decode cX12_doesGo 36 = .ok (.iaload, 1) := bd46 (btAt dk07ref3_cX12_doesGo_0_a 23 rfl)
theorem dX12_doesGo_37 : decode cX12_doesGo 37 = .ok (.invokevirtual 174, 3) := bd182 (a := 0) (b := 174) (btAt dk07ref3_cX12_doesGo_0_a 24 rfl)
theorem dX12_doesGo_40 : decode cX12_doesGo 40 = .ok (.ifCond .ne 5, 3) := bd154 (a := 0) (b := 5) (btAt dk07ref3_cX12_doesGo_0_a 25 rfl)
theorem dX12_doesGo_43 : decode cX12_doesGo 43 = .ok (.iconst 0, 1) := bd3 (btAt dk07ref3_cX12_doesGo_0_a 26 rfl)
theorem dX12_doesGo_44 : decode cX12_doesGo 44 = .ok (.ireturn, 1) := bd172 (btAt dk07ref3_cX12_doesGo_0_a 27 rfl)
theorem dX12_doesGo_45 : decode cX12_doesGo 45 = .ok (.aload_n 0, 1) := bd42 (btAt dk07ref3_cX12_doesGo_0_a 28 rfl)
theorem dX12_doesGo_46 : decode cX12_doesGo 46 = .ok (.getfield 9, 3) := bd180 (a := 0) (b := 9) (btAt dk07ref3_cX12_doesGo_0_a 29 rfl)
theorem dX12_doesGo_49 : decode cX12_doesGo 49 = .ok (.bipush 19, 2) := bd16 (a := 19) (btAt dk07ref3_cX12_doesGo_0_a 30 rfl)
theorem dX12_doesGo_51 : decode cX12_doesGo 51 = .ok (.iload_n 1, 1) := bd27 (btAt dk07ref3_cX12_doesGo_0_a 31 rfl)
theorem dX12_doesGo_52 : decode cX12_doesGo 52 = .ok (.iadd, 1) := bd96 (btAt dk07ref3_cX12_doesGo_0_a 32 rfl)
theorem dX12_doesGo_53 : decode cX12_doesGo 53 = .ok (.iaload, 1) := bd46 (btAt dk07ref3_cX12_doesGo_0_a 33 rfl)
theorem dX12_doesGo_54 : decode cX12_doesGo 54 = .ok (.bipush 8, 2) := bd16 (a := 8) (btAt dk07ref3_cX12_doesGo_0_a 34 rfl)
theorem dX12_doesGo_56 : decode cX12_doesGo 56 = .ok (.irem, 1) := bd112 (btAt dk07ref3_cX12_doesGo_0_a 35 rfl)
theorem dX12_doesGo_57 : decode cX12_doesGo 57 = .ok (.istore 4, 2) := bd54 (a := 4) (btAt dk07ref3_cX12_doesGo_0_a 36 rfl)
theorem dX12_doesGo_59 : decode cX12_doesGo 59 = .ok (.aload_n 0, 1) := bd42 (btAt dk07ref3_cX12_doesGo_0_a 37 rfl)
theorem dX12_doesGo_60 : decode cX12_doesGo 60 = .ok (.getfield 9, 3) := bd180 (a := 0) (b := 9) (btAt dk07ref3_cX12_doesGo_0_a 38 rfl)
theorem dX12_doesGo_63 : decode cX12_doesGo 63 = .ok (.bipush 28, 2) := bd16 (a := 28) (btAt dk07ref3_cX12_doesGo_0_a 39 rfl)
noncomputable def dk07ref3_cX12_doesGo_40 : List (Nat × List Nat) := [(65, [27]), (66, [96]), (67, [46]), (68, [54, 5]), (70, [42]), (71, [180, 0, 9]), (74, [16, 28]), (76, [28]), (77, [96]), (78, [46]), (79, [54, 6]), (81, [29]), (82, [7]), (83, [160, 0, 45]), (86, [21, 4]), (88, [184, 0, 53]), (91, [21, 5]), (93, [16, 6]), (95, [108]), (96, [21, 6]), (98, [16, 6]), (100, [108]), (101, [184, 0, 183]), (104, [153, 0, 28]), (107, [21, 4]), (109, [184, 0, 56]), (112, [21, 5]), (114, [16, 6]), (116, [112]), (117, [21, 6]), (119, [16, 6]), (121, [112]), (122, [184, 0, 183]), (125, [153, 0, 7]), (128, [4]), (129, [167, 0, 4]), (132, [3]), (133, [172])]
set_option maxRecDepth 100000 in
theorem dk07ref3_cX12_doesGo_40_a : btA cX12_doesGo dk07ref3_cX12_doesGo_40 = true := by decide +kernel
theorem dX12_doesGo_65 : decode cX12_doesGo 65 = .ok (.iload_n 1, 1) := bd27 (btAt dk07ref3_cX12_doesGo_40_a 0 rfl)
theorem dX12_doesGo_66 : decode cX12_doesGo 66 = .ok (.iadd, 1) := bd96 (btAt dk07ref3_cX12_doesGo_40_a 1 rfl)
theorem dX12_doesGo_67 : decode cX12_doesGo 67 = .ok (.iaload, 1) := bd46 (btAt dk07ref3_cX12_doesGo_40_a 2 rfl)
theorem dX12_doesGo_68 : decode cX12_doesGo 68 = .ok (.istore 5, 2) := bd54 (a := 5) (btAt dk07ref3_cX12_doesGo_40_a 3 rfl)
theorem dX12_doesGo_70 : decode cX12_doesGo 70 = .ok (.aload_n 0, 1) := bd42 (btAt dk07ref3_cX12_doesGo_40_a 4 rfl)
theorem dX12_doesGo_71 : decode cX12_doesGo 71 = .ok (.getfield 9, 3) := bd180 (a := 0) (b := 9) (btAt dk07ref3_cX12_doesGo_40_a 5 rfl)
theorem dX12_doesGo_74 : decode cX12_doesGo 74 = .ok (.bipush 28, 2) := bd16 (a := 28) (btAt dk07ref3_cX12_doesGo_40_a 6 rfl)
theorem dX12_doesGo_76 : decode cX12_doesGo 76 = .ok (.iload_n 2, 1) := bd28 (btAt dk07ref3_cX12_doesGo_40_a 7 rfl)
theorem dX12_doesGo_77 : decode cX12_doesGo 77 = .ok (.iadd, 1) := bd96 (btAt dk07ref3_cX12_doesGo_40_a 8 rfl)
theorem dX12_doesGo_78 : decode cX12_doesGo 78 = .ok (.iaload, 1) := bd46 (btAt dk07ref3_cX12_doesGo_40_a 9 rfl)
theorem dX12_doesGo_79 : decode cX12_doesGo 79 = .ok (.istore 6, 2) := bd54 (a := 6) (btAt dk07ref3_cX12_doesGo_40_a 10 rfl)
theorem dX12_doesGo_81 : decode cX12_doesGo 81 = .ok (.iload_n 3, 1) := bd29 (btAt dk07ref3_cX12_doesGo_40_a 11 rfl)
theorem dX12_doesGo_82 : decode cX12_doesGo 82 = .ok (.iconst 4, 1) := bd7 (btAt dk07ref3_cX12_doesGo_40_a 12 rfl)
theorem dX12_doesGo_83 : decode cX12_doesGo 83 = .ok (.if_icmp .ne 45, 3) := bd160 (a := 0) (b := 45) (btAt dk07ref3_cX12_doesGo_40_a 13 rfl)
theorem dX12_doesGo_86 : decode cX12_doesGo 86 = .ok (.iload 4, 2) := bd21 (a := 4) (btAt dk07ref3_cX12_doesGo_40_a 14 rfl)
theorem dX12_doesGo_88 : decode cX12_doesGo 88 = .ok (.invokestatic 53, 3) := bd184 (a := 0) (b := 53) (btAt dk07ref3_cX12_doesGo_40_a 15 rfl)
theorem dX12_doesGo_91 : decode cX12_doesGo 91 = .ok (.iload 5, 2) := bd21 (a := 5) (btAt dk07ref3_cX12_doesGo_40_a 16 rfl)
theorem dX12_doesGo_93 : decode cX12_doesGo 93 = .ok (.bipush 6, 2) := bd16 (a := 6) (btAt dk07ref3_cX12_doesGo_40_a 17 rfl)
theorem dX12_doesGo_95 : decode cX12_doesGo 95 = .ok (.idiv, 1) := bd108 (btAt dk07ref3_cX12_doesGo_40_a 18 rfl)
theorem dX12_doesGo_96 : decode cX12_doesGo 96 = .ok (.iload 6, 2) := bd21 (a := 6) (btAt dk07ref3_cX12_doesGo_40_a 19 rfl)
theorem dX12_doesGo_98 : decode cX12_doesGo 98 = .ok (.bipush 6, 2) := bd16 (a := 6) (btAt dk07ref3_cX12_doesGo_40_a 20 rfl)
theorem dX12_doesGo_100 : decode cX12_doesGo 100 = .ok (.idiv, 1) := bd108 (btAt dk07ref3_cX12_doesGo_40_a 21 rfl)
theorem dX12_doesGo_101 : decode cX12_doesGo 101 = .ok (.invokestatic 183, 3) := bd184 (a := 0) (b := 183) (btAt dk07ref3_cX12_doesGo_40_a 22 rfl)
theorem dX12_doesGo_104 : decode cX12_doesGo 104 = .ok (.ifCond .eq 28, 3) := bd153 (a := 0) (b := 28) (btAt dk07ref3_cX12_doesGo_40_a 23 rfl)
theorem dX12_doesGo_107 : decode cX12_doesGo 107 = .ok (.iload 4, 2) := bd21 (a := 4) (btAt dk07ref3_cX12_doesGo_40_a 24 rfl)
theorem dX12_doesGo_109 : decode cX12_doesGo 109 = .ok (.invokestatic 56, 3) := bd184 (a := 0) (b := 56) (btAt dk07ref3_cX12_doesGo_40_a 25 rfl)
theorem dX12_doesGo_112 : decode cX12_doesGo 112 = .ok (.iload 5, 2) := bd21 (a := 5) (btAt dk07ref3_cX12_doesGo_40_a 26 rfl)
theorem dX12_doesGo_114 : decode cX12_doesGo 114 = .ok (.bipush 6, 2) := bd16 (a := 6) (btAt dk07ref3_cX12_doesGo_40_a 27 rfl)
theorem dX12_doesGo_116 : decode cX12_doesGo 116 = .ok (.irem, 1) := bd112 (btAt dk07ref3_cX12_doesGo_40_a 28 rfl)
theorem dX12_doesGo_117 : decode cX12_doesGo 117 = .ok (.iload 6, 2) := bd21 (a := 6) (btAt dk07ref3_cX12_doesGo_40_a 29 rfl)
theorem dX12_doesGo_119 : decode cX12_doesGo 119 = .ok (.bipush 6, 2) := bd16 (a := 6) (btAt dk07ref3_cX12_doesGo_40_a 30 rfl)
theorem dX12_doesGo_121 : decode cX12_doesGo 121 = .ok (.irem, 1) := bd112 (btAt dk07ref3_cX12_doesGo_40_a 31 rfl)
theorem dX12_doesGo_122 : decode cX12_doesGo 122 = .ok (.invokestatic 183, 3) := bd184 (a := 0) (b := 183) (btAt dk07ref3_cX12_doesGo_40_a 32 rfl)
theorem dX12_doesGo_125 : decode cX12_doesGo 125 = .ok (.ifCond .eq 7, 3) := bd153 (a := 0) (b := 7) (btAt dk07ref3_cX12_doesGo_40_a 33 rfl)
theorem dX12_doesGo_128 : decode cX12_doesGo 128 = .ok (.iconst 1, 1) := bd4 (btAt dk07ref3_cX12_doesGo_40_a 34 rfl)
theorem dX12_doesGo_129 : decode cX12_doesGo 129 = .ok (.goto 4, 3) := bd167 (a := 0) (b := 4) (btAt dk07ref3_cX12_doesGo_40_a 35 rfl)
theorem dX12_doesGo_132 : decode cX12_doesGo 132 = .ok (.iconst 0, 1) := bd3 (btAt dk07ref3_cX12_doesGo_40_a 36 rfl)
theorem dX12_doesGo_133 : decode cX12_doesGo 133 = .ok (.ireturn, 1) := bd172 (btAt dk07ref3_cX12_doesGo_40_a 37 rfl)
noncomputable def dk07ref3_cX12_looksForGoings_0 : List (Nat × List Nat) := [(0, [3]), (1, [60]), (2, [27]), (3, [42]), (4, [180, 0, 9]), (7, [3]), (8, [46]), (9, [162, 0, 59]), (12, [42]), (13, [180, 0, 25]), (16, [27]), (17, [3]), (18, [79]), (19, [3]), (20, [61]), (21, [28]), (22, [42]), (23, [180, 0, 9]), (26, [3]), (27, [46]), (28, [162, 0, 34]), (31, [42]), (32, [180, 0, 25]), (35, [27]), (36, [92]), (37, [46]), (38, [42]), (39, [27]), (40, [28]), (41, [182, 0, 186]), (44, [153, 0, 9]), (47, [4]), (48, [28]), (49, [120]), (50, [167, 0, 4]), (54, [128]), (55, [79]), (62, [132, 1, 1]), (65, [167, 255, 193]), (68, [177])]
set_option maxRecDepth 100000 in
theorem dk07ref3_cX12_looksForGoings_0_a : btA cX12_looksForGoings dk07ref3_cX12_looksForGoings_0 = true := by decide +kernel
theorem dX12_looksForGoings_0 : decode cX12_looksForGoings 0 = .ok (.iconst 0, 1) := bd3 (btAt dk07ref3_cX12_looksForGoings_0_a 0 rfl)
theorem dX12_looksForGoings_1 : decode cX12_looksForGoings 1 = .ok (.istore_n 1, 1) := bd60 (btAt dk07ref3_cX12_looksForGoings_0_a 1 rfl)
theorem dX12_looksForGoings_2 : decode cX12_looksForGoings 2 = .ok (.iload_n 1, 1) := bd27 (btAt dk07ref3_cX12_looksForGoings_0_a 2 rfl)
theorem dX12_looksForGoings_3 : decode cX12_looksForGoings 3 = .ok (.aload_n 0, 1) := bd42 (btAt dk07ref3_cX12_looksForGoings_0_a 3 rfl)
theorem dX12_looksForGoings_4 : decode cX12_looksForGoings 4 = .ok (.getfield 9, 3) := bd180 (a := 0) (b := 9) (btAt dk07ref3_cX12_looksForGoings_0_a 4 rfl)
theorem dX12_looksForGoings_7 : decode cX12_looksForGoings 7 = .ok (.iconst 0, 1) := bd3 (btAt dk07ref3_cX12_looksForGoings_0_a 5 rfl)
theorem dX12_looksForGoings_8 : decode cX12_looksForGoings 8 = .ok (.iaload, 1) := bd46 (btAt dk07ref3_cX12_looksForGoings_0_a 6 rfl)
theorem dX12_looksForGoings_9 : decode cX12_looksForGoings 9 = .ok (.if_icmp .ge 59, 3) := bd162 (a := 0) (b := 59) (btAt dk07ref3_cX12_looksForGoings_0_a 7 rfl)
theorem dX12_looksForGoings_12 : decode cX12_looksForGoings 12 = .ok (.aload_n 0, 1) := bd42 (btAt dk07ref3_cX12_looksForGoings_0_a 8 rfl)
theorem dX12_looksForGoings_13 : decode cX12_looksForGoings 13 = .ok (.getfield 25, 3) := bd180 (a := 0) (b := 25) (btAt dk07ref3_cX12_looksForGoings_0_a 9 rfl)
theorem dX12_looksForGoings_16 : decode cX12_looksForGoings 16 = .ok (.iload_n 1, 1) := bd27 (btAt dk07ref3_cX12_looksForGoings_0_a 10 rfl)
theorem dX12_looksForGoings_17 : decode cX12_looksForGoings 17 = .ok (.iconst 0, 1) := bd3 (btAt dk07ref3_cX12_looksForGoings_0_a 11 rfl)
theorem dX12_looksForGoings_18 : decode cX12_looksForGoings 18 = .ok (.iastore, 1) := bd79 (btAt dk07ref3_cX12_looksForGoings_0_a 12 rfl)
theorem dX12_looksForGoings_19 : decode cX12_looksForGoings 19 = .ok (.iconst 0, 1) := bd3 (btAt dk07ref3_cX12_looksForGoings_0_a 13 rfl)
theorem dX12_looksForGoings_20 : decode cX12_looksForGoings 20 = .ok (.istore_n 2, 1) := bd61 (btAt dk07ref3_cX12_looksForGoings_0_a 14 rfl)
theorem dX12_looksForGoings_21 : decode cX12_looksForGoings 21 = .ok (.iload_n 2, 1) := bd28 (btAt dk07ref3_cX12_looksForGoings_0_a 15 rfl)
theorem dX12_looksForGoings_22 : decode cX12_looksForGoings 22 = .ok (.aload_n 0, 1) := bd42 (btAt dk07ref3_cX12_looksForGoings_0_a 16 rfl)
theorem dX12_looksForGoings_23 : decode cX12_looksForGoings 23 = .ok (.getfield 9, 3) := bd180 (a := 0) (b := 9) (btAt dk07ref3_cX12_looksForGoings_0_a 17 rfl)
theorem dX12_looksForGoings_26 : decode cX12_looksForGoings 26 = .ok (.iconst 0, 1) := bd3 (btAt dk07ref3_cX12_looksForGoings_0_a 18 rfl)
theorem dX12_looksForGoings_27 : decode cX12_looksForGoings 27 = .ok (.iaload, 1) := bd46 (btAt dk07ref3_cX12_looksForGoings_0_a 19 rfl)
theorem dX12_looksForGoings_28 : decode cX12_looksForGoings 28 = .ok (.if_icmp .ge 34, 3) := bd162 (a := 0) (b := 34) (btAt dk07ref3_cX12_looksForGoings_0_a 20 rfl)
theorem dX12_looksForGoings_31 : decode cX12_looksForGoings 31 = .ok (.aload_n 0, 1) := bd42 (btAt dk07ref3_cX12_looksForGoings_0_a 21 rfl)
theorem dX12_looksForGoings_32 : decode cX12_looksForGoings 32 = .ok (.getfield 25, 3) := bd180 (a := 0) (b := 25) (btAt dk07ref3_cX12_looksForGoings_0_a 22 rfl)
theorem dX12_looksForGoings_35 : decode cX12_looksForGoings 35 = .ok (.iload_n 1, 1) := bd27 (btAt dk07ref3_cX12_looksForGoings_0_a 23 rfl)
theorem dX12_looksForGoings_36 : decode cX12_looksForGoings 36 = .ok (.dup2, 1) := bd92 (btAt dk07ref3_cX12_looksForGoings_0_a 24 rfl)
theorem dX12_looksForGoings_37 : decode cX12_looksForGoings 37 = .ok (.iaload, 1) := bd46 (btAt dk07ref3_cX12_looksForGoings_0_a 25 rfl)
theorem dX12_looksForGoings_38 : decode cX12_looksForGoings 38 = .ok (.aload_n 0, 1) := bd42 (btAt dk07ref3_cX12_looksForGoings_0_a 26 rfl)
theorem dX12_looksForGoings_39 : decode cX12_looksForGoings 39 = .ok (.iload_n 1, 1) := bd27 (btAt dk07ref3_cX12_looksForGoings_0_a 27 rfl)
theorem dX12_looksForGoings_40 : decode cX12_looksForGoings 40 = .ok (.iload_n 2, 1) := bd28 (btAt dk07ref3_cX12_looksForGoings_0_a 28 rfl)
theorem dX12_looksForGoings_41 : decode cX12_looksForGoings 41 = .ok (.invokevirtual 186, 3) := bd182 (a := 0) (b := 186) (btAt dk07ref3_cX12_looksForGoings_0_a 29 rfl)
theorem dX12_looksForGoings_44 : decode cX12_looksForGoings 44 = .ok (.ifCond .eq 9, 3) := bd153 (a := 0) (b := 9) (btAt dk07ref3_cX12_looksForGoings_0_a 30 rfl)
theorem dX12_looksForGoings_47 : decode cX12_looksForGoings 47 = .ok (.iconst 1, 1) := bd4 (btAt dk07ref3_cX12_looksForGoings_0_a 31 rfl)
theorem dX12_looksForGoings_48 : decode cX12_looksForGoings 48 = .ok (.iload_n 2, 1) := bd28 (btAt dk07ref3_cX12_looksForGoings_0_a 32 rfl)
theorem dX12_looksForGoings_49 : decode cX12_looksForGoings 49 = .ok (.ishl, 1) := bd120 (btAt dk07ref3_cX12_looksForGoings_0_a 33 rfl)
theorem dX12_looksForGoings_50 : decode cX12_looksForGoings 50 = .ok (.goto 4, 3) := bd167 (a := 0) (b := 4) (btAt dk07ref3_cX12_looksForGoings_0_a 34 rfl)
theorem dX12_looksForGoings_54 : decode cX12_looksForGoings 54 = .ok (.ior, 1) := bd128 (btAt dk07ref3_cX12_looksForGoings_0_a 35 rfl)
theorem dX12_looksForGoings_55 : decode cX12_looksForGoings 55 = .ok (.iastore, 1) := bd79 (btAt dk07ref3_cX12_looksForGoings_0_a 36 rfl)
theorem dX12_looksForGoings_62 : decode cX12_looksForGoings 62 = .ok (.iinc 1 1, 3) := bd132 (a := 1) (b := 1) (btAt dk07ref3_cX12_looksForGoings_0_a 37 rfl)
theorem dX12_looksForGoings_65 : decode cX12_looksForGoings 65 = .ok (.goto (-63), 3) := bd167 (a := 255) (b := 193) (btAt dk07ref3_cX12_looksForGoings_0_a 38 rfl)
theorem dX12_looksForGoings_68 : decode cX12_looksForGoings 68 = .ok (.return_, 1) := bd177 (btAt dk07ref3_cX12_looksForGoings_0_a 39 rfl)
noncomputable def dk07ref3_cX12_looksForGoings_40 : List (Nat × List Nat) := [(53, [3]), (56, [132, 2, 1]), (59, [167, 255, 218])]
set_option maxRecDepth 100000 in
theorem dk07ref3_cX12_looksForGoings_40_a : btA cX12_looksForGoings dk07ref3_cX12_looksForGoings_40 = true := by decide +kernel
theorem dX12_looksForGoings_53 : decode cX12_looksForGoings 53 = .ok (.iconst 0, 1) := bd3 (btAt dk07ref3_cX12_looksForGoings_40_a 0 rfl)
theorem dX12_looksForGoings_56 : decode cX12_looksForGoings 56 = .ok (.iinc 2 1, 3) := bd132 (a := 2) (b := 1) (btAt dk07ref3_cX12_looksForGoings_40_a 1 rfl)
theorem dX12_looksForGoings_59 : decode cX12_looksForGoings 59 = .ok (.goto (-38), 3) := bd167 (a := 255) (b := 218) (btAt dk07ref3_cX12_looksForGoings_40_a 2 rfl)
noncomputable def dk07ref3_cX12_spread_0 : List (Nat × List Nat) := [(0, [27]), (1, [61]), (2, [3]), (3, [62]), (4, [29]), (5, [42]), (6, [180, 0, 9]), (9, [3]), (10, [46]), (11, [162, 0, 31]), (14, [28]), (15, [27]), (16, [29]), (17, [122]), (18, [4]), (19, [126]), (20, [4]), (21, [160, 0, 12]), (24, [42]), (25, [180, 0, 25]), (28, [29]), (29, [46]), (30, [167, 0, 4]), (33, [3]), (34, [128]), (35, [61]), (36, [132, 3, 1]), (39, [167, 255, 221]), (42, [28]), (43, [172])]
set_option maxRecDepth 100000 in
theorem dk07ref3_cX12_spread_0_a : btA cX12_spread dk07ref3_cX12_spread_0 = true := by decide +kernel
theorem dX12_spread_0 : decode cX12_spread 0 = .ok (.iload_n 1, 1) := bd27 (btAt dk07ref3_cX12_spread_0_a 0 rfl)
theorem dX12_spread_1 : decode cX12_spread 1 = .ok (.istore_n 2, 1) := bd61 (btAt dk07ref3_cX12_spread_0_a 1 rfl)
theorem dX12_spread_2 : decode cX12_spread 2 = .ok (.iconst 0, 1) := bd3 (btAt dk07ref3_cX12_spread_0_a 2 rfl)
theorem dX12_spread_3 : decode cX12_spread 3 = .ok (.istore_n 3, 1) := bd62 (btAt dk07ref3_cX12_spread_0_a 3 rfl)
theorem dX12_spread_4 : decode cX12_spread 4 = .ok (.iload_n 3, 1) := bd29 (btAt dk07ref3_cX12_spread_0_a 4 rfl)
theorem dX12_spread_5 : decode cX12_spread 5 = .ok (.aload_n 0, 1) := bd42 (btAt dk07ref3_cX12_spread_0_a 5 rfl)
theorem dX12_spread_6 : decode cX12_spread 6 = .ok (.getfield 9, 3) := bd180 (a := 0) (b := 9) (btAt dk07ref3_cX12_spread_0_a 6 rfl)
theorem dX12_spread_9 : decode cX12_spread 9 = .ok (.iconst 0, 1) := bd3 (btAt dk07ref3_cX12_spread_0_a 7 rfl)
theorem dX12_spread_10 : decode cX12_spread 10 = .ok (.iaload, 1) := bd46 (btAt dk07ref3_cX12_spread_0_a 8 rfl)
theorem dX12_spread_11 : decode cX12_spread 11 = .ok (.if_icmp .ge 31, 3) := bd162 (a := 0) (b := 31) (btAt dk07ref3_cX12_spread_0_a 9 rfl)
theorem dX12_spread_14 : decode cX12_spread 14 = .ok (.iload_n 2, 1) := bd28 (btAt dk07ref3_cX12_spread_0_a 10 rfl)
theorem dX12_spread_15 : decode cX12_spread 15 = .ok (.iload_n 1, 1) := bd27 (btAt dk07ref3_cX12_spread_0_a 11 rfl)
theorem dX12_spread_16 : decode cX12_spread 16 = .ok (.iload_n 3, 1) := bd29 (btAt dk07ref3_cX12_spread_0_a 12 rfl)
theorem dX12_spread_17 : decode cX12_spread 17 = .ok (.ishr, 1) := bd122 (btAt dk07ref3_cX12_spread_0_a 13 rfl)
theorem dX12_spread_18 : decode cX12_spread 18 = .ok (.iconst 1, 1) := bd4 (btAt dk07ref3_cX12_spread_0_a 14 rfl)
theorem dX12_spread_19 : decode cX12_spread 19 = .ok (.iand, 1) := bd126 (btAt dk07ref3_cX12_spread_0_a 15 rfl)
theorem dX12_spread_20 : decode cX12_spread 20 = .ok (.iconst 1, 1) := bd4 (btAt dk07ref3_cX12_spread_0_a 16 rfl)
theorem dX12_spread_21 : decode cX12_spread 21 = .ok (.if_icmp .ne 12, 3) := bd160 (a := 0) (b := 12) (btAt dk07ref3_cX12_spread_0_a 17 rfl)
theorem dX12_spread_24 : decode cX12_spread 24 = .ok (.aload_n 0, 1) := bd42 (btAt dk07ref3_cX12_spread_0_a 18 rfl)
theorem dX12_spread_25 : decode cX12_spread 25 = .ok (.getfield 25, 3) := bd180 (a := 0) (b := 25) (btAt dk07ref3_cX12_spread_0_a 19 rfl)
theorem dX12_spread_28 : decode cX12_spread 28 = .ok (.iload_n 3, 1) := bd29 (btAt dk07ref3_cX12_spread_0_a 20 rfl)
theorem dX12_spread_29 : decode cX12_spread 29 = .ok (.iaload, 1) := bd46 (btAt dk07ref3_cX12_spread_0_a 21 rfl)
theorem dX12_spread_30 : decode cX12_spread 30 = .ok (.goto 4, 3) := bd167 (a := 0) (b := 4) (btAt dk07ref3_cX12_spread_0_a 22 rfl)
theorem dX12_spread_33 : decode cX12_spread 33 = .ok (.iconst 0, 1) := bd3 (btAt dk07ref3_cX12_spread_0_a 23 rfl)
theorem dX12_spread_34 : decode cX12_spread 34 = .ok (.ior, 1) := bd128 (btAt dk07ref3_cX12_spread_0_a 24 rfl)
theorem dX12_spread_35 : decode cX12_spread 35 = .ok (.istore_n 2, 1) := bd61 (btAt dk07ref3_cX12_spread_0_a 25 rfl)
theorem dX12_spread_36 : decode cX12_spread 36 = .ok (.iinc 3 1, 3) := bd132 (a := 3) (b := 1) (btAt dk07ref3_cX12_spread_0_a 26 rfl)
theorem dX12_spread_39 : decode cX12_spread 39 = .ok (.goto (-35), 3) := bd167 (a := 255) (b := 221) (btAt dk07ref3_cX12_spread_0_a 27 rfl)
theorem dX12_spread_42 : decode cX12_spread 42 = .ok (.iload_n 2, 1) := bd28 (btAt dk07ref3_cX12_spread_0_a 28 rfl)
theorem dX12_spread_43 : decode cX12_spread 43 = .ok (.ireturn, 1) := bd172 (btAt dk07ref3_cX12_spread_0_a 29 rfl)
noncomputable def dk07ref3_cX12_stepsBut_0 : List (Nat × List Nat) := [(0, [4]), (1, [27]), (2, [120]), (3, [54, 4]), (5, [3]), (6, [54, 5]), (8, [21, 5]), (10, [16, 10]), (12, [162, 0, 34]), (15, [21, 4]), (17, [28]), (18, [122]), (19, [4]), (20, [126]), (21, [4]), (22, [160, 0, 6]), (25, [21, 5]), (27, [172]), (28, [42]), (29, [21, 4]), (31, [182, 0, 189]), (34, [29]), (35, [2]), (36, [130]), (37, [126]), (38, [54, 4]), (40, [132, 5, 1]), (43, [167, 255, 221]), (46, [16, 251]), (48, [172])]
set_option maxRecDepth 100000 in
theorem dk07ref3_cX12_stepsBut_0_a : btA cX12_stepsBut dk07ref3_cX12_stepsBut_0 = true := by decide +kernel
theorem dX12_stepsBut_0 : decode cX12_stepsBut 0 = .ok (.iconst 1, 1) := bd4 (btAt dk07ref3_cX12_stepsBut_0_a 0 rfl)
theorem dX12_stepsBut_1 : decode cX12_stepsBut 1 = .ok (.iload_n 1, 1) := bd27 (btAt dk07ref3_cX12_stepsBut_0_a 1 rfl)
theorem dX12_stepsBut_2 : decode cX12_stepsBut 2 = .ok (.ishl, 1) := bd120 (btAt dk07ref3_cX12_stepsBut_0_a 2 rfl)
theorem dX12_stepsBut_3 : decode cX12_stepsBut 3 = .ok (.istore 4, 2) := bd54 (a := 4) (btAt dk07ref3_cX12_stepsBut_0_a 3 rfl)
theorem dX12_stepsBut_5 : decode cX12_stepsBut 5 = .ok (.iconst 0, 1) := bd3 (btAt dk07ref3_cX12_stepsBut_0_a 4 rfl)
theorem dX12_stepsBut_6 : decode cX12_stepsBut 6 = .ok (.istore 5, 2) := bd54 (a := 5) (btAt dk07ref3_cX12_stepsBut_0_a 5 rfl)
theorem dX12_stepsBut_8 : decode cX12_stepsBut 8 = .ok (.iload 5, 2) := bd21 (a := 5) (btAt dk07ref3_cX12_stepsBut_0_a 6 rfl)
theorem dX12_stepsBut_10 : decode cX12_stepsBut 10 = .ok (.bipush 10, 2) := bd16 (a := 10) (btAt dk07ref3_cX12_stepsBut_0_a 7 rfl)
theorem dX12_stepsBut_12 : decode cX12_stepsBut 12 = .ok (.if_icmp .ge 34, 3) := bd162 (a := 0) (b := 34) (btAt dk07ref3_cX12_stepsBut_0_a 8 rfl)
theorem dX12_stepsBut_15 : decode cX12_stepsBut 15 = .ok (.iload 4, 2) := bd21 (a := 4) (btAt dk07ref3_cX12_stepsBut_0_a 9 rfl)
theorem dX12_stepsBut_17 : decode cX12_stepsBut 17 = .ok (.iload_n 2, 1) := bd28 (btAt dk07ref3_cX12_stepsBut_0_a 10 rfl)
theorem dX12_stepsBut_18 : decode cX12_stepsBut 18 = .ok (.ishr, 1) := bd122 (btAt dk07ref3_cX12_stepsBut_0_a 11 rfl)
theorem dX12_stepsBut_19 : decode cX12_stepsBut 19 = .ok (.iconst 1, 1) := bd4 (btAt dk07ref3_cX12_stepsBut_0_a 12 rfl)
theorem dX12_stepsBut_20 : decode cX12_stepsBut 20 = .ok (.iand, 1) := bd126 (btAt dk07ref3_cX12_stepsBut_0_a 13 rfl)
theorem dX12_stepsBut_21 : decode cX12_stepsBut 21 = .ok (.iconst 1, 1) := bd4 (btAt dk07ref3_cX12_stepsBut_0_a 14 rfl)
theorem dX12_stepsBut_22 : decode cX12_stepsBut 22 = .ok (.if_icmp .ne 6, 3) := bd160 (a := 0) (b := 6) (btAt dk07ref3_cX12_stepsBut_0_a 15 rfl)
theorem dX12_stepsBut_25 : decode cX12_stepsBut 25 = .ok (.iload 5, 2) := bd21 (a := 5) (btAt dk07ref3_cX12_stepsBut_0_a 16 rfl)
theorem dX12_stepsBut_27 : decode cX12_stepsBut 27 = .ok (.ireturn, 1) := bd172 (btAt dk07ref3_cX12_stepsBut_0_a 17 rfl)
theorem dX12_stepsBut_28 : decode cX12_stepsBut 28 = .ok (.aload_n 0, 1) := bd42 (btAt dk07ref3_cX12_stepsBut_0_a 18 rfl)
theorem dX12_stepsBut_29 : decode cX12_stepsBut 29 = .ok (.iload 4, 2) := bd21 (a := 4) (btAt dk07ref3_cX12_stepsBut_0_a 19 rfl)
theorem dX12_stepsBut_31 : decode cX12_stepsBut 31 = .ok (.invokevirtual 189, 3) := bd182 (a := 0) (b := 189) (btAt dk07ref3_cX12_stepsBut_0_a 20 rfl)
theorem dX12_stepsBut_34 : decode cX12_stepsBut 34 = .ok (.iload_n 3, 1) := bd29 (btAt dk07ref3_cX12_stepsBut_0_a 21 rfl)
theorem dX12_stepsBut_35 : decode cX12_stepsBut 35 = .ok (.iconst (-1), 1) := bd2 (btAt dk07ref3_cX12_stepsBut_0_a 22 rfl)
theorem dX12_stepsBut_36 : decode cX12_stepsBut 36 = .ok (.ixor, 1) := bd130 (btAt dk07ref3_cX12_stepsBut_0_a 23 rfl)
theorem dX12_stepsBut_37 : decode cX12_stepsBut 37 = .ok (.iand, 1) := bd126 (btAt dk07ref3_cX12_stepsBut_0_a 24 rfl)
theorem dX12_stepsBut_38 : decode cX12_stepsBut 38 = .ok (.istore 4, 2) := bd54 (a := 4) (btAt dk07ref3_cX12_stepsBut_0_a 25 rfl)
theorem dX12_stepsBut_40 : decode cX12_stepsBut 40 = .ok (.iinc 5 1, 3) := bd132 (a := 5) (b := 1) (btAt dk07ref3_cX12_stepsBut_0_a 26 rfl)
theorem dX12_stepsBut_43 : decode cX12_stepsBut 43 = .ok (.goto (-35), 3) := bd167 (a := 255) (b := 221) (btAt dk07ref3_cX12_stepsBut_0_a 27 rfl)
theorem dX12_stepsBut_46 : decode cX12_stepsBut 46 = .ok (.bipush (-5), 2) := bd16 (a := 251) (btAt dk07ref3_cX12_stepsBut_0_a 28 rfl)
theorem dX12_stepsBut_48 : decode cX12_stepsBut 48 = .ok (.ireturn, 1) := bd172 (btAt dk07ref3_cX12_stepsBut_0_a 29 rfl)
noncomputable def dk07ref3_cX12_stepsOf_0 : List (Nat × List Nat) := [(0, [42]), (1, [182, 0, 192]), (4, [42]), (5, [27]), (6, [28]), (7, [3]), (8, [182, 0, 195]), (11, [172])]
set_option maxRecDepth 100000 in
theorem dk07ref3_cX12_stepsOf_0_a : btA cX12_stepsOf dk07ref3_cX12_stepsOf_0 = true := by decide +kernel
theorem dX12_stepsOf_0 : decode cX12_stepsOf 0 = .ok (.aload_n 0, 1) := bd42 (btAt dk07ref3_cX12_stepsOf_0_a 0 rfl)
theorem dX12_stepsOf_1 : decode cX12_stepsOf 1 = .ok (.invokevirtual 192, 3) := bd182 (a := 0) (b := 192) (btAt dk07ref3_cX12_stepsOf_0_a 1 rfl)
theorem dX12_stepsOf_4 : decode cX12_stepsOf 4 = .ok (.aload_n 0, 1) := bd42 (btAt dk07ref3_cX12_stepsOf_0_a 2 rfl)
theorem dX12_stepsOf_5 : decode cX12_stepsOf 5 = .ok (.iload_n 1, 1) := bd27 (btAt dk07ref3_cX12_stepsOf_0_a 3 rfl)
theorem dX12_stepsOf_6 : decode cX12_stepsOf 6 = .ok (.iload_n 2, 1) := bd28 (btAt dk07ref3_cX12_stepsOf_0_a 4 rfl)
theorem dX12_stepsOf_7 : decode cX12_stepsOf 7 = .ok (.iconst 0, 1) := bd3 (btAt dk07ref3_cX12_stepsOf_0_a 5 rfl)
theorem dX12_stepsOf_8 : decode cX12_stepsOf 8 = .ok (.invokevirtual 195, 3) := bd182 (a := 0) (b := 195) (btAt dk07ref3_cX12_stepsOf_0_a 6 rfl)
theorem dX12_stepsOf_11 : decode cX12_stepsOf 11 = .ok (.ireturn, 1) := bd172 (btAt dk07ref3_cX12_stepsOf_0_a 7 rfl)
noncomputable def dk07ref3_cX12_steps_0 : List (Nat × List Nat) := [(0, [42]), (1, [27]), (2, [182, 0, 164]), (5, [153, 0, 20]), (8, [42]), (9, [28]), (10, [182, 0, 164]), (13, [153, 0, 12]), (16, [42]), (17, [27]), (18, [28]), (19, [182, 0, 198]), (22, [167, 0, 4]), (25, [2]), (26, [172])]
set_option maxRecDepth 100000 in
theorem dk07ref3_cX12_steps_0_a : btA cX12_steps dk07ref3_cX12_steps_0 = true := by decide +kernel
theorem dX12_steps_0 : decode cX12_steps 0 = .ok (.aload_n 0, 1) := bd42 (btAt dk07ref3_cX12_steps_0_a 0 rfl)
theorem dX12_steps_1 : decode cX12_steps 1 = .ok (.iload_n 1, 1) := bd27 (btAt dk07ref3_cX12_steps_0_a 1 rfl)
theorem dX12_steps_2 : decode cX12_steps 2 = .ok (.invokevirtual 164, 3) := bd182 (a := 0) (b := 164) (btAt dk07ref3_cX12_steps_0_a 2 rfl)
theorem dX12_steps_5 : decode cX12_steps 5 = .ok (.ifCond .eq 20, 3) := bd153 (a := 0) (b := 20) (btAt dk07ref3_cX12_steps_0_a 3 rfl)
theorem dX12_steps_8 : decode cX12_steps 8 = .ok (.aload_n 0, 1) := bd42 (btAt dk07ref3_cX12_steps_0_a 4 rfl)
theorem dX12_steps_9 : decode cX12_steps 9 = .ok (.iload_n 2, 1) := bd28 (btAt dk07ref3_cX12_steps_0_a 5 rfl)
theorem dX12_steps_10 : decode cX12_steps 10 = .ok (.invokevirtual 164, 3) := bd182 (a := 0) (b := 164) (btAt dk07ref3_cX12_steps_0_a 6 rfl)
theorem dX12_steps_13 : decode cX12_steps 13 = .ok (.ifCond .eq 12, 3) := bd153 (a := 0) (b := 12) (btAt dk07ref3_cX12_steps_0_a 7 rfl)
theorem dX12_steps_16 : decode cX12_steps 16 = .ok (.aload_n 0, 1) := bd42 (btAt dk07ref3_cX12_steps_0_a 8 rfl)
theorem dX12_steps_17 : decode cX12_steps 17 = .ok (.iload_n 1, 1) := bd27 (btAt dk07ref3_cX12_steps_0_a 9 rfl)
theorem dX12_steps_18 : decode cX12_steps 18 = .ok (.iload_n 2, 1) := bd28 (btAt dk07ref3_cX12_steps_0_a 10 rfl)
theorem dX12_steps_19 : decode cX12_steps 19 = .ok (.invokevirtual 198, 3) := bd182 (a := 0) (b := 198) (btAt dk07ref3_cX12_steps_0_a 11 rfl)
theorem dX12_steps_22 : decode cX12_steps 22 = .ok (.goto 4, 3) := bd167 (a := 0) (b := 4) (btAt dk07ref3_cX12_steps_0_a 12 rfl)
theorem dX12_steps_25 : decode cX12_steps 25 = .ok (.iconst (-1), 1) := bd2 (btAt dk07ref3_cX12_steps_0_a 13 rfl)
theorem dX12_steps_26 : decode cX12_steps 26 = .ok (.ireturn, 1) := bd172 (btAt dk07ref3_cX12_steps_0_a 14 rfl)
noncomputable def dk07ref3_cX12_via_0 : List (Nat × List Nat) := [(0, [42]), (1, [27]), (2, [182, 0, 164]), (5, [153, 0, 11]), (8, [42]), (9, [28]), (10, [182, 0, 164]), (13, [154, 0, 5]), (18, [42]), (19, [27]), (20, [28]), (21, [182, 0, 198]), (24, [62]), (25, [3]), (26, [54, 4]), (28, [21, 4]), (30, [42]), (31, [180, 0, 9]), (34, [3]), (35, [46]), (36, [162, 0, 45]), (39, [29]), (40, [158, 0, 41]), (43, [42]), (44, [180, 0, 25]), (47, [27]), (48, [46]), (49, [21, 4]), (51, [122]), (52, [4]), (53, [126]), (54, [4]), (55, [160, 0, 20]), (58, [42]), (59, [21, 4]), (61, [28]), (75, [132, 4, 1]), (78, [167, 255, 206]), (81, [16, 251]), (83, [172])]
set_option maxRecDepth 100000 in
theorem dk07ref3_cX12_via_0_a : btA cX12_via dk07ref3_cX12_via_0 = true := by decide +kernel
theorem dX12_via_0 : decode cX12_via 0 = .ok (.aload_n 0, 1) := bd42 (btAt dk07ref3_cX12_via_0_a 0 rfl)
theorem dX12_via_1 : decode cX12_via 1 = .ok (.iload_n 1, 1) := bd27 (btAt dk07ref3_cX12_via_0_a 1 rfl)
theorem dX12_via_2 : decode cX12_via 2 = .ok (.invokevirtual 164, 3) := bd182 (a := 0) (b := 164) (btAt dk07ref3_cX12_via_0_a 2 rfl)
theorem dX12_via_5 : decode cX12_via 5 = .ok (.ifCond .eq 11, 3) := bd153 (a := 0) (b := 11) (btAt dk07ref3_cX12_via_0_a 3 rfl)
theorem dX12_via_8 : decode cX12_via 8 = .ok (.aload_n 0, 1) := bd42 (btAt dk07ref3_cX12_via_0_a 4 rfl)
theorem dX12_via_9 : decode cX12_via 9 = .ok (.iload_n 2, 1) := bd28 (btAt dk07ref3_cX12_via_0_a 5 rfl)
theorem dX12_via_10 : decode cX12_via 10 = .ok (.invokevirtual 164, 3) := bd182 (a := 0) (b := 164) (btAt dk07ref3_cX12_via_0_a 6 rfl)
theorem dX12_via_13 : decode cX12_via 13 = .ok (.ifCond .ne 5, 3) := bd154 (a := 0) (b := 5) (btAt dk07ref3_cX12_via_0_a 7 rfl)
theorem dX12_via_18 : decode cX12_via 18 = .ok (.aload_n 0, 1) := bd42 (btAt dk07ref3_cX12_via_0_a 8 rfl)
theorem dX12_via_19 : decode cX12_via 19 = .ok (.iload_n 1, 1) := bd27 (btAt dk07ref3_cX12_via_0_a 9 rfl)
theorem dX12_via_20 : decode cX12_via 20 = .ok (.iload_n 2, 1) := bd28 (btAt dk07ref3_cX12_via_0_a 10 rfl)
theorem dX12_via_21 : decode cX12_via 21 = .ok (.invokevirtual 198, 3) := bd182 (a := 0) (b := 198) (btAt dk07ref3_cX12_via_0_a 11 rfl)
theorem dX12_via_24 : decode cX12_via 24 = .ok (.istore_n 3, 1) := bd62 (btAt dk07ref3_cX12_via_0_a 12 rfl)
theorem dX12_via_25 : decode cX12_via 25 = .ok (.iconst 0, 1) := bd3 (btAt dk07ref3_cX12_via_0_a 13 rfl)
theorem dX12_via_26 : decode cX12_via 26 = .ok (.istore 4, 2) := bd54 (a := 4) (btAt dk07ref3_cX12_via_0_a 14 rfl)
theorem dX12_via_28 : decode cX12_via 28 = .ok (.iload 4, 2) := bd21 (a := 4) (btAt dk07ref3_cX12_via_0_a 15 rfl)
theorem dX12_via_30 : decode cX12_via 30 = .ok (.aload_n 0, 1) := bd42 (btAt dk07ref3_cX12_via_0_a 16 rfl)
theorem dX12_via_31 : decode cX12_via 31 = .ok (.getfield 9, 3) := bd180 (a := 0) (b := 9) (btAt dk07ref3_cX12_via_0_a 17 rfl)
theorem dX12_via_34 : decode cX12_via 34 = .ok (.iconst 0, 1) := bd3 (btAt dk07ref3_cX12_via_0_a 18 rfl)
theorem dX12_via_35 : decode cX12_via 35 = .ok (.iaload, 1) := bd46 (btAt dk07ref3_cX12_via_0_a 19 rfl)
theorem dX12_via_36 : decode cX12_via 36 = .ok (.if_icmp .ge 45, 3) := bd162 (a := 0) (b := 45) (btAt dk07ref3_cX12_via_0_a 20 rfl)
theorem dX12_via_39 : decode cX12_via 39 = .ok (.iload_n 3, 1) := bd29 (btAt dk07ref3_cX12_via_0_a 21 rfl)
theorem dX12_via_40 : decode cX12_via 40 = .ok (.ifCond .le 41, 3) := bd158 (a := 0) (b := 41) (btAt dk07ref3_cX12_via_0_a 22 rfl)
theorem dX12_via_43 : decode cX12_via 43 = .ok (.aload_n 0, 1) := bd42 (btAt dk07ref3_cX12_via_0_a 23 rfl)
theorem dX12_via_44 : decode cX12_via 44 = .ok (.getfield 25, 3) := bd180 (a := 0) (b := 25) (btAt dk07ref3_cX12_via_0_a 24 rfl)
theorem dX12_via_47 : decode cX12_via 47 = .ok (.iload_n 1, 1) := bd27 (btAt dk07ref3_cX12_via_0_a 25 rfl)
theorem dX12_via_48 : decode cX12_via 48 = .ok (.iaload, 1) := bd46 (btAt dk07ref3_cX12_via_0_a 26 rfl)
theorem dX12_via_49 : decode cX12_via 49 = .ok (.iload 4, 2) := bd21 (a := 4) (btAt dk07ref3_cX12_via_0_a 27 rfl)
theorem dX12_via_51 : decode cX12_via 51 = .ok (.ishr, 1) := bd122 (btAt dk07ref3_cX12_via_0_a 28 rfl)
theorem dX12_via_52 : decode cX12_via 52 = .ok (.iconst 1, 1) := bd4 (btAt dk07ref3_cX12_via_0_a 29 rfl)
theorem dX12_via_53 : decode cX12_via 53 = .ok (.iand, 1) := bd126 (btAt dk07ref3_cX12_via_0_a 30 rfl)
theorem dX12_via_54 : decode cX12_via 54 = .ok (.iconst 1, 1) := bd4 (btAt dk07ref3_cX12_via_0_a 31 rfl)
theorem dX12_via_55 : decode cX12_via 55 = .ok (.if_icmp .ne 20, 3) := bd160 (a := 0) (b := 20) (btAt dk07ref3_cX12_via_0_a 32 rfl)
theorem dX12_via_58 : decode cX12_via 58 = .ok (.aload_n 0, 1) := bd42 (btAt dk07ref3_cX12_via_0_a 33 rfl)
theorem dX12_via_59 : decode cX12_via 59 = .ok (.iload 4, 2) := bd21 (a := 4) (btAt dk07ref3_cX12_via_0_a 34 rfl)
theorem dX12_via_61 : decode cX12_via 61 = .ok (.iload_n 2, 1) := bd28 (btAt dk07ref3_cX12_via_0_a 35 rfl)
theorem dX12_via_75 : decode cX12_via 75 = .ok (.iinc 4 1, 3) := bd132 (a := 4) (b := 1) (btAt dk07ref3_cX12_via_0_a 36 rfl)
theorem dX12_via_78 : decode cX12_via 78 = .ok (.goto (-50), 3) := bd167 (a := 255) (b := 206) (btAt dk07ref3_cX12_via_0_a 37 rfl)
theorem dX12_via_81 : decode cX12_via 81 = .ok (.bipush (-5), 2) := bd16 (a := 251) (btAt dk07ref3_cX12_via_0_a 38 rfl)
theorem dX12_via_83 : decode cX12_via 83 = .ok (.ireturn, 1) := bd172 (btAt dk07ref3_cX12_via_0_a 39 rfl)
noncomputable def dk07ref3_cX12_via_40 : List (Nat × List Nat) := [(16, [2]), (17, [172]), (62, [3]), (63, [182, 0, 195]), (66, [29]), (67, [4]), (68, [100]), (69, [160, 0, 6]), (72, [21, 4]), (74, [172])]
set_option maxRecDepth 100000 in
theorem dk07ref3_cX12_via_40_a : btA cX12_via dk07ref3_cX12_via_40 = true := by decide +kernel
theorem dX12_via_16 : decode cX12_via 16 = .ok (.iconst (-1), 1) := bd2 (btAt dk07ref3_cX12_via_40_a 0 rfl)
theorem dX12_via_17 : decode cX12_via 17 = .ok (.ireturn, 1) := bd172 (btAt dk07ref3_cX12_via_40_a 1 rfl)
theorem dX12_via_62 : decode cX12_via 62 = .ok (.iconst 0, 1) := bd3 (btAt dk07ref3_cX12_via_40_a 2 rfl)
theorem dX12_via_63 : decode cX12_via 63 = .ok (.invokevirtual 195, 3) := bd182 (a := 0) (b := 195) (btAt dk07ref3_cX12_via_40_a 3 rfl)
theorem dX12_via_66 : decode cX12_via 66 = .ok (.iload_n 3, 1) := bd29 (btAt dk07ref3_cX12_via_40_a 4 rfl)
theorem dX12_via_67 : decode cX12_via 67 = .ok (.iconst 1, 1) := bd4 (btAt dk07ref3_cX12_via_40_a 5 rfl)
theorem dX12_via_68 : decode cX12_via 68 = .ok (.isub, 1) := bd100 (btAt dk07ref3_cX12_via_40_a 6 rfl)
theorem dX12_via_69 : decode cX12_via 69 = .ok (.if_icmp .ne 6, 3) := bd160 (a := 0) (b := 6) (btAt dk07ref3_cX12_via_40_a 7 rfl)
theorem dX12_via_72 : decode cX12_via 72 = .ok (.iload 4, 2) := bd21 (a := 4) (btAt dk07ref3_cX12_via_40_a 8 rfl)
theorem dX12_via_74 : decode cX12_via 74 = .ok (.ireturn, 1) := bd172 (btAt dk07ref3_cX12_via_40_a 9 rfl)
noncomputable def dk07ref3_cX12_cuts_0 : List (Nat × List Nat) := [(0, [42]), (1, [27]), (2, [182, 0, 164]), (5, [153, 0, 11]), (8, [42]), (9, [28]), (10, [182, 0, 164]), (13, [154, 0, 5]), (18, [3]), (19, [62]), (20, [42]), (21, [27]), (22, [28]), (23, [182, 0, 198]), (26, [16, 251]), (28, [160, 0, 5]), (33, [3]), (34, [54, 4]), (36, [21, 4]), (38, [42]), (39, [180, 0, 9]), (42, [3]), (43, [46]), (44, [162, 0, 47]), (47, [29]), (48, [21, 4]), (50, [27]), (51, [159, 0, 31]), (54, [21, 4]), (56, [28]), (57, [159, 0, 25]), (60, [42]), (61, [27]), (82, [3]), (83, [128]), (84, [62]), (85, [132, 4, 1]), (88, [167, 255, 204]), (91, [29]), (92, [172])]
set_option maxRecDepth 100000 in
theorem dk07ref3_cX12_cuts_0_a : btA cX12_cuts dk07ref3_cX12_cuts_0 = true := by decide +kernel
theorem dX12_cuts_0 : decode cX12_cuts 0 = .ok (.aload_n 0, 1) := bd42 (btAt dk07ref3_cX12_cuts_0_a 0 rfl)
theorem dX12_cuts_1 : decode cX12_cuts 1 = .ok (.iload_n 1, 1) := bd27 (btAt dk07ref3_cX12_cuts_0_a 1 rfl)
theorem dX12_cuts_2 : decode cX12_cuts 2 = .ok (.invokevirtual 164, 3) := bd182 (a := 0) (b := 164) (btAt dk07ref3_cX12_cuts_0_a 2 rfl)
theorem dX12_cuts_5 : decode cX12_cuts 5 = .ok (.ifCond .eq 11, 3) := bd153 (a := 0) (b := 11) (btAt dk07ref3_cX12_cuts_0_a 3 rfl)
theorem dX12_cuts_8 : decode cX12_cuts 8 = .ok (.aload_n 0, 1) := bd42 (btAt dk07ref3_cX12_cuts_0_a 4 rfl)
theorem dX12_cuts_9 : decode cX12_cuts 9 = .ok (.iload_n 2, 1) := bd28 (btAt dk07ref3_cX12_cuts_0_a 5 rfl)
theorem dX12_cuts_10 : decode cX12_cuts 10 = .ok (.invokevirtual 164, 3) := bd182 (a := 0) (b := 164) (btAt dk07ref3_cX12_cuts_0_a 6 rfl)
theorem dX12_cuts_13 : decode cX12_cuts 13 = .ok (.ifCond .ne 5, 3) := bd154 (a := 0) (b := 5) (btAt dk07ref3_cX12_cuts_0_a 7 rfl)
theorem dX12_cuts_18 : decode cX12_cuts 18 = .ok (.iconst 0, 1) := bd3 (btAt dk07ref3_cX12_cuts_0_a 8 rfl)
theorem dX12_cuts_19 : decode cX12_cuts 19 = .ok (.istore_n 3, 1) := bd62 (btAt dk07ref3_cX12_cuts_0_a 9 rfl)
theorem dX12_cuts_20 : decode cX12_cuts 20 = .ok (.aload_n 0, 1) := bd42 (btAt dk07ref3_cX12_cuts_0_a 10 rfl)
theorem dX12_cuts_21 : decode cX12_cuts 21 = .ok (.iload_n 1, 1) := bd27 (btAt dk07ref3_cX12_cuts_0_a 11 rfl)
theorem dX12_cuts_22 : decode cX12_cuts 22 = .ok (.iload_n 2, 1) := bd28 (btAt dk07ref3_cX12_cuts_0_a 12 rfl)
theorem dX12_cuts_23 : decode cX12_cuts 23 = .ok (.invokevirtual 198, 3) := bd182 (a := 0) (b := 198) (btAt dk07ref3_cX12_cuts_0_a 13 rfl)
theorem dX12_cuts_26 : decode cX12_cuts 26 = .ok (.bipush (-5), 2) := bd16 (a := 251) (btAt dk07ref3_cX12_cuts_0_a 14 rfl)
theorem dX12_cuts_28 : decode cX12_cuts 28 = .ok (.if_icmp .ne 5, 3) := bd160 (a := 0) (b := 5) (btAt dk07ref3_cX12_cuts_0_a 15 rfl)
theorem dX12_cuts_33 : decode cX12_cuts 33 = .ok (.iconst 0, 1) := bd3 (btAt dk07ref3_cX12_cuts_0_a 16 rfl)
theorem dX12_cuts_34 : decode cX12_cuts 34 = .ok (.istore 4, 2) := bd54 (a := 4) (btAt dk07ref3_cX12_cuts_0_a 17 rfl)
theorem dX12_cuts_36 : decode cX12_cuts 36 = .ok (.iload 4, 2) := bd21 (a := 4) (btAt dk07ref3_cX12_cuts_0_a 18 rfl)
theorem dX12_cuts_38 : decode cX12_cuts 38 = .ok (.aload_n 0, 1) := bd42 (btAt dk07ref3_cX12_cuts_0_a 19 rfl)
theorem dX12_cuts_39 : decode cX12_cuts 39 = .ok (.getfield 9, 3) := bd180 (a := 0) (b := 9) (btAt dk07ref3_cX12_cuts_0_a 20 rfl)
theorem dX12_cuts_42 : decode cX12_cuts 42 = .ok (.iconst 0, 1) := bd3 (btAt dk07ref3_cX12_cuts_0_a 21 rfl)
theorem dX12_cuts_43 : decode cX12_cuts 43 = .ok (.iaload, 1) := bd46 (btAt dk07ref3_cX12_cuts_0_a 22 rfl)
theorem dX12_cuts_44 : decode cX12_cuts 44 = .ok (.if_icmp .ge 47, 3) := bd162 (a := 0) (b := 47) (btAt dk07ref3_cX12_cuts_0_a 23 rfl)
theorem dX12_cuts_47 : decode cX12_cuts 47 = .ok (.iload_n 3, 1) := bd29 (btAt dk07ref3_cX12_cuts_0_a 24 rfl)
theorem dX12_cuts_48 : decode cX12_cuts 48 = .ok (.iload 4, 2) := bd21 (a := 4) (btAt dk07ref3_cX12_cuts_0_a 25 rfl)
theorem dX12_cuts_50 : decode cX12_cuts 50 = .ok (.iload_n 1, 1) := bd27 (btAt dk07ref3_cX12_cuts_0_a 26 rfl)
theorem dX12_cuts_51 : decode cX12_cuts 51 = .ok (.if_icmp .eq 31, 3) := bd159 (a := 0) (b := 31) (btAt dk07ref3_cX12_cuts_0_a 27 rfl)
theorem dX12_cuts_54 : decode cX12_cuts 54 = .ok (.iload 4, 2) := bd21 (a := 4) (btAt dk07ref3_cX12_cuts_0_a 28 rfl)
theorem dX12_cuts_56 : decode cX12_cuts 56 = .ok (.iload_n 2, 1) := bd28 (btAt dk07ref3_cX12_cuts_0_a 29 rfl)
theorem dX12_cuts_57 : decode cX12_cuts 57 = .ok (.if_icmp .eq 25, 3) := bd159 (a := 0) (b := 25) (btAt dk07ref3_cX12_cuts_0_a 30 rfl)
theorem dX12_cuts_60 : decode cX12_cuts 60 = .ok (.aload_n 0, 1) := bd42 (btAt dk07ref3_cX12_cuts_0_a 31 rfl)
theorem dX12_cuts_61 : decode cX12_cuts 61 = .ok (.iload_n 1, 1) := bd27 (btAt dk07ref3_cX12_cuts_0_a 32 rfl)
theorem dX12_cuts_82 : decode cX12_cuts 82 = .ok (.iconst 0, 1) := bd3 (btAt dk07ref3_cX12_cuts_0_a 33 rfl)
theorem dX12_cuts_83 : decode cX12_cuts 83 = .ok (.ior, 1) := bd128 (btAt dk07ref3_cX12_cuts_0_a 34 rfl)
theorem dX12_cuts_84 : decode cX12_cuts 84 = .ok (.istore_n 3, 1) := bd62 (btAt dk07ref3_cX12_cuts_0_a 35 rfl)
theorem dX12_cuts_85 : decode cX12_cuts 85 = .ok (.iinc 4 1, 3) := bd132 (a := 4) (b := 1) (btAt dk07ref3_cX12_cuts_0_a 36 rfl)
theorem dX12_cuts_88 : decode cX12_cuts 88 = .ok (.goto (-52), 3) := bd167 (a := 255) (b := 204) (btAt dk07ref3_cX12_cuts_0_a 37 rfl)
theorem dX12_cuts_91 : decode cX12_cuts 91 = .ok (.iload_n 3, 1) := bd29 (btAt dk07ref3_cX12_cuts_0_a 38 rfl)
theorem dX12_cuts_92 : decode cX12_cuts 92 = .ok (.ireturn, 1) := bd172 (btAt dk07ref3_cX12_cuts_0_a 39 rfl)
noncomputable def dk07ref3_cX12_cuts_40 : List (Nat × List Nat) := [(16, [2]), (17, [172]), (31, [3]), (32, [172]), (62, [28]), (63, [4]), (64, [21, 4]), (66, [120]), (67, [182, 0, 195]), (70, [16, 251]), (72, [160, 0, 10]), (75, [4]), (76, [21, 4]), (78, [120]), (79, [167, 0, 4])]
set_option maxRecDepth 100000 in
theorem dk07ref3_cX12_cuts_40_a : btA cX12_cuts dk07ref3_cX12_cuts_40 = true := by decide +kernel
theorem dX12_cuts_16 : decode cX12_cuts 16 = .ok (.iconst (-1), 1) := bd2 (btAt dk07ref3_cX12_cuts_40_a 0 rfl)
theorem dX12_cuts_17 : decode cX12_cuts 17 = .ok (.ireturn, 1) := bd172 (btAt dk07ref3_cX12_cuts_40_a 1 rfl)
theorem dX12_cuts_31 : decode cX12_cuts 31 = .ok (.iconst 0, 1) := bd3 (btAt dk07ref3_cX12_cuts_40_a 2 rfl)
theorem dX12_cuts_32 : decode cX12_cuts 32 = .ok (.ireturn, 1) := bd172 (btAt dk07ref3_cX12_cuts_40_a 3 rfl)
theorem dX12_cuts_62 : decode cX12_cuts 62 = .ok (.iload_n 2, 1) := bd28 (btAt dk07ref3_cX12_cuts_40_a 4 rfl)
theorem dX12_cuts_63 : decode cX12_cuts 63 = .ok (.iconst 1, 1) := bd4 (btAt dk07ref3_cX12_cuts_40_a 5 rfl)
theorem dX12_cuts_64 : decode cX12_cuts 64 = .ok (.iload 4, 2) := bd21 (a := 4) (btAt dk07ref3_cX12_cuts_40_a 6 rfl)
theorem dX12_cuts_66 : decode cX12_cuts 66 = .ok (.ishl, 1) := bd120 (btAt dk07ref3_cX12_cuts_40_a 7 rfl)
theorem dX12_cuts_67 : decode cX12_cuts 67 = .ok (.invokevirtual 195, 3) := bd182 (a := 0) (b := 195) (btAt dk07ref3_cX12_cuts_40_a 8 rfl)
theorem dX12_cuts_70 : decode cX12_cuts 70 = .ok (.bipush (-5), 2) := bd16 (a := 251) (btAt dk07ref3_cX12_cuts_40_a 9 rfl)
theorem dX12_cuts_72 : decode cX12_cuts 72 = .ok (.if_icmp .ne 10, 3) := bd160 (a := 0) (b := 10) (btAt dk07ref3_cX12_cuts_40_a 10 rfl)
theorem dX12_cuts_75 : decode cX12_cuts 75 = .ok (.iconst 1, 1) := bd4 (btAt dk07ref3_cX12_cuts_40_a 11 rfl)
theorem dX12_cuts_76 : decode cX12_cuts 76 = .ok (.iload 4, 2) := bd21 (a := 4) (btAt dk07ref3_cX12_cuts_40_a 12 rfl)
theorem dX12_cuts_78 : decode cX12_cuts 78 = .ok (.ishl, 1) := bd120 (btAt dk07ref3_cX12_cuts_40_a 13 rfl)
theorem dX12_cuts_79 : decode cX12_cuts 79 = .ok (.goto 4, 3) := bd167 (a := 0) (b := 4) (btAt dk07ref3_cX12_cuts_40_a 14 rfl)
theorem kc_doesGo_0 : ∀ w ∈ wsX120, w ∈ wsX12_doesGo := fun w h => List.mem_cons_of_mem _ (gin_wsX120 w h)
theorem kc_doesGo_1 : (.fieldLink RX12 9 "MistHeapsModel" "s" "[I" : Cond) ∈ wsX12_doesGo := kc_of 1141 rfl rfl rfl
set_option maxHeartbeats 4000000 in
set_option maxRecDepth 100000 in
theorem c_doesGo (l : Launch) (dC : Nat → ClassId) (dI : Nat → Nat → Nat) (m0 aS aI aB aT aG aO aN aD aY : Nat) (th im ac sp en wg op se dn rn kd nu tv : Int32) (bv : Int64) (cS cB cT : ClassId) (fS : Nat → Int32) (fB : Nat → Int32) (fT : Nat → Int32) (a b : Nat) (cz : List pCla) (sz : Nat) (ga : a ≤ 8) (gb : b ≤ 8) (zh : hol fS cz) : Met l yX12_doesGo wsX12_doesGo ({ frames := 3, cells := 0, slots := 0, locals := 77 } : Room) (va_Pc [.ref m0, .int (nI a), .int (nI b)] (fun U => U.heap.size = sz ∧ va_P (dC, dI) vwCl [(zo14irriiiiiirriirrrrlriiii m0 th aS aI im ac sp en wg op aB aT se dn aG aO aN aD bv aY rn kd nu tv), (zaI aS cS 901 fS), (zaI aB cB 6 fB), (zaI aT cT 64 fT)] U.heap ∧ va_K (dC, dI) vwCl [(cS, .int), (cB, .int), (cT, .boolean)] U ∧ va_D (fun _ => True) [(zo14irriiiiiirriirrrrlriiii m0 th aS aI im ac sp en wg op aB aT se dn aG aO aN aD bv aY rn kd nu tv), (zaI aS cS 901 fS), (zaI aB cB 6 fB), (zaI aT cT 64 fT)])) (va_Qi (fun (r : Int32) (u : (Nat → Int32) × (Nat → Int32) × (Int32) × (Int32)) => match u with | (fB9, fT9, se9, dn9) => (r = 1 ∧ goF fS cz a b) ∨ (r = 0 ∧ ¬ goF fS cz a b)) (fun (u : (Nat → Int32) × (Nat → Int32) × (Int32) × (Int32)) (t : State) => match u with | (fB9, fT9, se9, dn9) => va_P (dC, dI) vwCl [(zo14irriiiiiirriirrrrlriiii m0 th aS aI im ac sp en wg op aB aT se9 dn9 aG aO aN aD bv aY rn kd nu tv), (zaI aS cS 901 fS), (zaI aB cB 6 fB9), (zaI aT cT 64 fT9)] t.heap ∧ va_K (dC, dI) vwCl [(cS, .int), (cB, .int), (cT, .boolean)] t ∧ va_D (va_A [(zo14irriiiiiirriirrrrlriiii m0 th aS aI im ac sp en wg op aB aT se dn aG aO aN aD bv aY rn kd nu tv), (zaI aS cS 901 fS), (zaI aB cB 6 fB), (zaI aT cT 64 fT)] sz) [(zo14irriiiiiirriirrrrlriiii m0 th aS aI im ac sp en wg op aB aT se9 dn9 aG aO aN aD bv aY rn kd nu tv), (zaI aS cS 901 fS), (zaI aB cB 6 fB9), (zaI aT cT 64 fT9)]) (va_A [(zo14irriiiiiirriirrrrlriiii m0 th aS aI im ac sp en wg op aB aT se dn aG aO aN aD bv aY rn kd nu tv), (zaI aS cS 901 fS), (zaI aB cB 6 fB), (zaI aT cT 64 fT)] sz)) 0 0 (va_A [(zo14irriiiiiirriirrrrlriiii m0 th aS aI im ac sp en wg op aB aT se dn aG aO aN aD bv aY rn kd nu tv), (zaI aS cS 901 fS), (zaI aB cB 6 fB), (zaI aT cT 64 fT)] sz) := by
  refine met_ofQ (cc := cX12_doesGo) (maxL := 7) (ret := (some .boolean)) (by decide) rfl ?_
  intro p e s m args below meth c s₁ Q B hml hv hQ
  obtain ⟨rfl, hsz, hP, hK, hD0⟩ := hv
  have hx := B.exec
  have hb := B.bytes
  have hr := B.returns
  have hts := atoms_spec (ws := wsX12_doesGo) B.pre
  have hown : s.vm.findClass RX12 = some m.cls := findClass_of_methodNamed B.named
  have hlocks := B.notSynchronized
  subst hsz
  have hD := hD0.self (sz := s.heap.size)
  generalize hAe : va_A [(zo14irriiiiiirriirrrrlriiii m0 th aS aI im ac sp en wg op aB aT se dn aG aO aN aD bv aY rn kd nu tv), (zaI aS cS 901 fS), (zaI aB cB 6 fB), (zaI aT cT 64 fT)] s.heap.size = A at hD hQ ⊢
  have hA : ∀ q : Nat, s.heap.size ≤ q → A q := fun q h => by rw [← hAe]; exact Or.inr h
  have hS : va_S A s.heap s.heap [] := va_S.rf
  have hl := lv_entry [.ref m0, .int (nI a), .int (nI b)] (n := 7) (Nat.le_of_ble_eq_true rfl)
  rw [lg_entry_eq]
  generalize (lg_sl [.ref m0, .int (nI a), .int (nI b)] ++ List.replicate (7 - (lg_sl [.ref m0, .int (nI a), .int (nI b)]).length) Slot.unset).toArray = ls at hl ⊢
  generalize hag : ([.ref m0, .int (nI a), .int (nI b)] : List Value).toArray = args at hts hQ ⊢
  have hl : lv_has ls 7 [(0, .ref m0), (1, .int (nI a)), (2, .int (nI b))] := hl
  obtain ⟨H, hH⟩ : ∃ H : Heap, H = s.heap := ⟨_, rfl⟩
  rw [← hH] at hP
  rw [← hH]
  have hS : va_S A s.heap H [] := by rw [hH]; exact hS
  obtain ⟨locs, hlo⟩ : ∃ L : List Loc, L = [] := ⟨_, rfl⟩
  rw [← hlo] at hS
  rw [← hlo]
  clear hH hlo
  refine lv_aload_n hx hb dX12_doesGo_0 rfl (lv_at hl 0 rfl) ?_
  refine va_get (D := (dC, dI)) (ci := 14) (v := .ref aS) (C := RX12) (T := TX12) (N := 23) hx hb hts kc_doesGo_0 hown hK hP 0 rfl rfl 1 (by decide) (hts (.fieldLink RX12 9 "MistHeapsModel" "s" "[I") kc_doesGo_1) (fun _ h9 => h9) rfl dX12_doesGo_1 ?_
  refine lv_bipush (v := 10) hx hb dX12_doesGo_4 (by decide) ?_
  refine lv_iload_n hx hb dX12_doesGo_6 rfl (lv_at hl 1 rfl) ?_
  refine lv_iadd hx hb dX12_doesGo_7 ?_
  refine qi_as (y := nI (10 + a)) (nI_add 10 a) ?_
  refine va_iald hx hb hK hP 1 0 rfl rfl (vp_in_nI (n := 10 + a) (N := 901) (by omega) (by omega)) dX12_doesGo_8 ?_
  refine qi_as (y := fS (10 + a)) (by rw [nI_clamp (by omega)]) ?_
  refine lv_istore_n (lv' := [(3, .int (fS (10 + a))), (0, .ref m0), (1, .int (nI a)), (2, .int (nI b))]) hx hb dX12_doesGo_9 rfl hl (by decide) rfl (fun ls hl => ?_)
  refine lv_iload_n hx hb dX12_doesGo_10 rfl (lv_at hl 2 rfl) ?_
  refine lv_iload_n hx hb dX12_doesGo_11 rfl (lv_at hl 3 rfl) ?_
  refine lv_icmp_eq (tgt := 43) hx hb dX12_doesGo_12 (by decide) (fun c_1 => ?_) (fun c_1 => ?_)
  · skip
    have c_1 : a = b := (nI_eq (a := a) (b := b) (by omega) (by omega)).mp c_1
    refine lv_iconst (v := 0) hx hb dX12_doesGo_43 (by decide) ?_
    rw [hQ]
    have hP9 := hP.sub (ws' := [(zo14irriiiiiirriirrrrlriiii m0 th aS aI im ac sp en wg op aB aT se dn aG aO aN aD bv aY rn kd nu tv), (zaI aS cS 901 fS), (zaI aB cB 6 fB), (zaI aT cT 64 fT)]) [0, 1, 2, 3] rfl
    have hD9 := hD.sub (ws' := [(zo14irriiiiiirriirrrrlriiii m0 th aS aI im ac sp en wg op aB aT se dn aG aO aN aD bv aY rn kd nu tv), (zaI aS cS 901 fS), (zaI aB cB 6 fB), (zaI aT cT 64 fT)]) [0, 1, 2, 3] (by decide) rfl
    have hK9 := hK.sub (tys' := [(cS, .int), (cB, .int), (cT, .boolean)]) [0, 1, 2] rfl
    exact W.zret (v := 0) hx hb hr rfl (fun tQ htQ hWQ => ⟨⟨0, (fB, fT, se, dn), rfl, Or.inr ⟨rfl, by first | exact go_eq (by assumption) | exact go_3 (by assumption) | exact go_6 (by assumption) | exact go_un (by assumption) | exact go_r (by assumption) (by assumption) | exact go_c (by assumption) (by assumption)⟩, by rw [htQ]; exact hP9, va_K.moved hWQ.alike hK9, hD9⟩, hS.F htQ⟩) hS.2.2 dX12_doesGo_44
  · skip
    have c_1 : ¬ a = b := fun q => c_1 ((nI_eq (a := a) (b := b) (by omega) (by omega)).mpr q)
    refine lv_iload_n hx hb dX12_doesGo_15 rfl (lv_at hl 0 rfl) ?_
    refine lv_iconst (v := 3) hx hb dX12_doesGo_16 (by decide) ?_
    refine lv_icmp_eq (tgt := 43) hx hb dX12_doesGo_17 (by decide) (fun c_2 => ?_) (fun c_2 => ?_)
    · skip
      refine lv_iconst (v := 0) hx hb dX12_doesGo_43 (by decide) ?_
      rw [hQ]
      have hP9 := hP.sub (ws' := [(zo14irriiiiiirriirrrrlriiii m0 th aS aI im ac sp en wg op aB aT se dn aG aO aN aD bv aY rn kd nu tv), (zaI aS cS 901 fS), (zaI aB cB 6 fB), (zaI aT cT 64 fT)]) [0, 1, 2, 3] rfl
      have hD9 := hD.sub (ws' := [(zo14irriiiiiirriirrrrlriiii m0 th aS aI im ac sp en wg op aB aT se dn aG aO aN aD bv aY rn kd nu tv), (zaI aS cS 901 fS), (zaI aB cB 6 fB), (zaI aT cT 64 fT)]) [0, 1, 2, 3] (by decide) rfl
      have hK9 := hK.sub (tys' := [(cS, .int), (cB, .int), (cT, .boolean)]) [0, 1, 2] rfl
      exact W.zret (v := 0) hx hb hr rfl (fun tQ htQ hWQ => ⟨⟨0, (fB, fT, se, dn), rfl, Or.inr ⟨rfl, by first | exact go_eq (by assumption) | exact go_3 (by assumption) | exact go_6 (by assumption) | exact go_un (by assumption) | exact go_r (by assumption) (by assumption) | exact go_c (by assumption) (by assumption)⟩, by rw [htQ]; exact hP9, va_K.moved hWQ.alike hK9, hD9⟩, hS.F htQ⟩) hS.2.2 dX12_doesGo_44
    · skip
      refine lv_iload_n hx hb dX12_doesGo_20 rfl (lv_at hl 0 rfl) ?_
      refine lv_bipush (v := 6) hx hb dX12_doesGo_21 (by decide) ?_
      refine lv_icmp_eq (tgt := 43) hx hb dX12_doesGo_23 (by decide) (fun c_3 => ?_) (fun c_3 => ?_)
      · skip
        refine lv_iconst (v := 0) hx hb dX12_doesGo_43 (by decide) ?_
        rw [hQ]
        have hP9 := hP.sub (ws' := [(zo14irriiiiiirriirrrrlriiii m0 th aS aI im ac sp en wg op aB aT se dn aG aO aN aD bv aY rn kd nu tv), (zaI aS cS 901 fS), (zaI aB cB 6 fB), (zaI aT cT 64 fT)]) [0, 1, 2, 3] rfl
        have hD9 := hD.sub (ws' := [(zo14irriiiiiirriirrrrlriiii m0 th aS aI im ac sp en wg op aB aT se dn aG aO aN aD bv aY rn kd nu tv), (zaI aS cS 901 fS), (zaI aB cB 6 fB), (zaI aT cT 64 fT)]) [0, 1, 2, 3] (by decide) rfl
        have hK9 := hK.sub (tys' := [(cS, .int), (cB, .int), (cT, .boolean)]) [0, 1, 2] rfl
        exact W.zret (v := 0) hx hb hr rfl (fun tQ htQ hWQ => ⟨⟨0, (fB, fT, se, dn), rfl, Or.inr ⟨rfl, by first | exact go_eq (by assumption) | exact go_3 (by assumption) | exact go_6 (by assumption) | exact go_un (by assumption) | exact go_r (by assumption) (by assumption) | exact go_c (by assumption) (by assumption)⟩, by rw [htQ]; exact hP9, va_K.moved hWQ.alike hK9, hD9⟩, hS.F htQ⟩) hS.2.2 dX12_doesGo_44
      · skip
        refine lv_aload_n hx hb dX12_doesGo_26 rfl (lv_at hl 1 rfl) ?_
        refine lv_iload_n hx hb dX12_doesGo_27 rfl (lv_at hl 3 rfl) ?_
        refine lv_aload_n hx hb dX12_doesGo_28 rfl (lv_at hl 1 rfl) ?_
        refine va_get (D := (dC, dI)) (ci := 14) (v := .ref aS) (C := RX12) (T := TX12) (N := 23) hx hb hts kc_doesGo_0 hown hK hP 0 rfl rfl 1 (by decide) (hts (.fieldLink RX12 9 "MistHeapsModel" "s" "[I") kc_doesGo_1) (fun _ h9 => h9) rfl dX12_doesGo_29 ?_
        refine lv_bipush (v := 28) hx hb dX12_doesGo_32 (by decide) ?_
        refine lv_iload_n hx hb dX12_doesGo_34 rfl (lv_at hl 2 rfl) ?_
        refine lv_iadd hx hb dX12_doesGo_35 ?_
        refine qi_as (y := nI (28 + a)) (nI_add 28 a) ?_
        refine va_iald hx hb hK hP 1 0 rfl rfl (vp_in_nI (n := 28 + a) (N := 901) (by omega) (by omega)) dX12_doesGo_36 ?_
        refine qi_as (y := fS (28 + a)) (by rw [nI_clamp (by omega)]) ?_
        have hPc := hP.sub (ws' := [(zo14irriiiiiirriirrrrlriiii m0 th aS aI im ac sp en wg op aB aT se dn aG aO aN aD bv aY rn kd nu tv), (zaI aS cS 901 fS), (zaI aB cB 6 fB), (zaI aT cT 64 fT)]) [0, 1, 2, 3] rfl
        have hDc := hD.sub (ws' := [(zo14irriiiiiirriirrrrlriiii m0 th aS aI im ac sp en wg op aB aT se dn aG aO aN aD bv aY rn kd nu tv), (zaI aS cS 901 fS), (zaI aB cB 6 fB), (zaI aT cT 64 fT)]) [0, 1, 2, 3] (by decide) rfl
        have hKc := hK.sub (tys' := [(cS, .int), (cB, .int), (cT, .boolean)]) [0, 1, 2] rfl
        have hFc := va_free (wc := [(zo14irriiiiiirriirrrrlriiii m0 th aS aI im ac sp en wg op aB aT se dn aG aO aN aD bv aY rn kd nu tv), (zaI aS cS 901 fS), (zaI aB cB 6 fB), (zaI aT cT 64 fT)]) hD hS hA [0, 1, 2, 3] rfl
        refine va_calli (va_runV (As := [.int (nI b), .int (fS (28 + a))]) (rest := []) ⟨hx, hb, hml, hown, hts⟩ (c_isSeen l dC dI m0 aS aI aB aT aG aO aN aD aY th im ac sp en wg op se dn rn kd nu tv bv cS cB cT fS fB fT b (fS (28 + a)) cz H.size (by omega) (zh)) (cwV 2 hts gX12_doesGo_X12_isSeen rfl rfl rfl hd_yX12_isSeen ⟨Nat.le_of_ble_eq_true rfl, Nat.le_of_ble_eq_true rfl⟩) ⟨fun a U g mk q => by obtain ⟨q0, q1, qP, qK, qD⟩ := q; exact ⟨q0, mvz g mk a q1, mvP g mk a qP, mvK g mk a qK, qD⟩, va_recv hK hP (ci := 14) (q := (RX12, TX12, 23)) (q0 := 0) rfl rfl, fun U hU hW => ⟨rfl, by rw [hU], by rw [hU]; exact hPc, va_K.moved hW.alike hKc, hDc.weaken (fun _ _ _ _ => trivial)⟩⟩ rfl rfl hl.1 rfl (lv_room (Nat.le_of_ble_eq_true rfl)) dX12_doesGo_37 ⟨Nat.le_of_ble_eq_true rfl, Nat.le_of_ble_eq_true rfl⟩) hS (fun q _ h => hFc q h) hFc (fun r_4 u tC H1 locs htC hvm hw_5 hB hz1 hk1 hS => ?_)
        obtain ⟨fB9_6, fT9_7, se9_8, dn9_9⟩ := u
        try dsimp only at hw_5 hB
        obtain ⟨hP1, hK1, hD1⟩ := hB
        rw [htC] at hP1
        have hK1 := va_K.moved hvm.symm hK1
        obtain ⟨hP, hD⟩ := va_join (wr := []) (w1 := [(zo14irriiiiiirriirrrrlriiii m0 th aS aI im ac sp en wg op aB aT se9_8 dn9_9 aG aO aN aD bv aY rn kd nu tv), (zaI aS cS 901 fS), (zaI aB cB 6 fB9_6), (zaI aT cT 64 fT9_7)]) hP hD [0, 1, 2, 3] [] rfl rfl (by decide) (by decide) hk1 hFc hP1 hD1
        have hK := (hK.sub (tys' := []) [] rfl).app hK1
        generalize H1 = H at hP hS ⊢
        have hP : va_P (dC, dI) vwCl [(zo14irriiiiiirriirrrrlriiii m0 th aS aI im ac sp en wg op aB aT se9_8 dn9_9 aG aO aN aD bv aY rn kd nu tv), (zaI aS cS 901 fS), (zaI aB cB 6 fB9_6), (zaI aT cT 64 fT9_7)] H := hP
        have hD : va_D A [(zo14irriiiiiirriirrrrlriiii m0 th aS aI im ac sp en wg op aB aT se9_8 dn9_9 aG aO aN aD bv aY rn kd nu tv), (zaI aS cS 901 fS), (zaI aB cB 6 fB9_6), (zaI aT cT 64 fT9_7)] := hD
        have hK : va_K (dC, dI) vwCl [(cS, .int), (cB, .int), (cT, .boolean)] s := hK
        rcases hw_5 with ⟨rfl, hs_10⟩ | ⟨rfl, hs_10⟩
        · skip
          refine lv_if_ne (tgt := 45) hx hb dX12_doesGo_40 (by decide) (fun _ => ?_) (fun c_11 => absurd c_11 (by decide))
          refine lv_aload_n hx hb dX12_doesGo_45 rfl (lv_at hl 1 rfl) ?_
          refine va_get (D := (dC, dI)) (ci := 14) (v := .ref aS) (C := RX12) (T := TX12) (N := 23) hx hb hts kc_doesGo_0 hown hK hP 0 rfl rfl 1 (by decide) (hts (.fieldLink RX12 9 "MistHeapsModel" "s" "[I") kc_doesGo_1) (fun _ h9 => h9) rfl dX12_doesGo_46 ?_
          refine lv_bipush (v := 19) hx hb dX12_doesGo_49 (by decide) ?_
          refine lv_iload_n hx hb dX12_doesGo_51 rfl (lv_at hl 2 rfl) ?_
          refine lv_iadd hx hb dX12_doesGo_52 ?_
          refine qi_as (y := nI (19 + a)) (nI_add 19 a) ?_
          refine va_iald hx hb hK hP 1 0 rfl rfl (vp_in_nI (n := 19 + a) (N := 901) (by omega) (by omega)) dX12_doesGo_53 ?_
          refine qi_as (y := fS (19 + a)) (by rw [nI_clamp (by omega)]) ?_
          refine lv_bipush (v := 8) hx hb dX12_doesGo_54 (by decide) ?_
          refine lv_irem hx hb dX12_doesGo_56 (by decide) ?_
          refine lv_istore (lv' := [(4, .int ((fS (19 + a)) - (fS (19 + a)) / 8 * 8)), (3, .int (fS (10 + a))), (0, .ref m0), (1, .int (nI a)), (2, .int (nI b))]) hx hb dX12_doesGo_57 hl (by decide) rfl (fun ls hl => ?_)
          refine lv_aload_n hx hb dX12_doesGo_59 rfl (lv_at hl 2 rfl) ?_
          refine va_get (D := (dC, dI)) (ci := 14) (v := .ref aS) (C := RX12) (T := TX12) (N := 23) hx hb hts kc_doesGo_0 hown hK hP 0 rfl rfl 1 (by decide) (hts (.fieldLink RX12 9 "MistHeapsModel" "s" "[I") kc_doesGo_1) (fun _ h9 => h9) rfl dX12_doesGo_60 ?_
          refine lv_bipush (v := 28) hx hb dX12_doesGo_63 (by decide) ?_
          refine lv_iload_n hx hb dX12_doesGo_65 rfl (lv_at hl 3 rfl) ?_
          refine lv_iadd hx hb dX12_doesGo_66 ?_
          refine qi_as (y := nI (28 + a)) (nI_add 28 a) ?_
          refine va_iald hx hb hK hP 1 0 rfl rfl (vp_in_nI (n := 28 + a) (N := 901) (by omega) (by omega)) dX12_doesGo_67 ?_
          refine qi_as (y := fS (28 + a)) (by rw [nI_clamp (by omega)]) ?_
          refine lv_istore (lv' := [(5, .int (fS (28 + a))), (4, .int ((fS (19 + a)) - (fS (19 + a)) / 8 * 8)), (3, .int (fS (10 + a))), (0, .ref m0), (1, .int (nI a)), (2, .int (nI b))]) hx hb dX12_doesGo_68 hl (by decide) rfl (fun ls hl => ?_)
          refine lv_aload_n hx hb dX12_doesGo_70 rfl (lv_at hl 3 rfl) ?_
          refine va_get (D := (dC, dI)) (ci := 14) (v := .ref aS) (C := RX12) (T := TX12) (N := 23) hx hb hts kc_doesGo_0 hown hK hP 0 rfl rfl 1 (by decide) (hts (.fieldLink RX12 9 "MistHeapsModel" "s" "[I") kc_doesGo_1) (fun _ h9 => h9) rfl dX12_doesGo_71 ?_
          refine lv_bipush (v := 28) hx hb dX12_doesGo_74 (by decide) ?_
          refine lv_iload_n hx hb dX12_doesGo_76 rfl (lv_at hl 5 rfl) ?_
          refine lv_iadd hx hb dX12_doesGo_77 ?_
          refine qi_as (y := nI (28 + b)) (nI_add 28 b) ?_
          refine va_iald hx hb hK hP 1 0 rfl rfl (vp_in_nI (n := 28 + b) (N := 901) (by omega) (by omega)) dX12_doesGo_78 ?_
          refine qi_as (y := fS (28 + b)) (by rw [nI_clamp (by omega)]) ?_
          refine lv_istore (lv' := [(6, .int (fS (28 + b))), (5, .int (fS (28 + a))), (4, .int ((fS (19 + a)) - (fS (19 + a)) / 8 * 8)), (3, .int (fS (10 + a))), (0, .ref m0), (1, .int (nI a)), (2, .int (nI b))]) hx hb dX12_doesGo_79 hl (by decide) rfl (fun ls hl => ?_)
          refine lv_iload_n hx hb dX12_doesGo_81 rfl (lv_at hl 3 rfl) ?_
          refine lv_iconst (v := 4) hx hb dX12_doesGo_82 (by decide) ?_
          refine lv_icmp_ne (tgt := 128) hx hb dX12_doesGo_83 (by decide) (fun c_12 => ?_) (fun c_12 => ?_)
          · skip
            refine lv_iconst (v := 1) hx hb dX12_doesGo_128 (by decide) ?_
            refine lv_goto (tgt := 133) hx hb dX12_doesGo_129 (by decide) ?_
            rw [hQ]
            have hP9 := hP.sub (ws' := [(zo14irriiiiiirriirrrrlriiii m0 th aS aI im ac sp en wg op aB aT se9_8 dn9_9 aG aO aN aD bv aY rn kd nu tv), (zaI aS cS 901 fS), (zaI aB cB 6 fB9_6), (zaI aT cT 64 fT9_7)]) [0, 1, 2, 3] rfl
            have hD9 := hD.sub (ws' := [(zo14irriiiiiirriirrrrlriiii m0 th aS aI im ac sp en wg op aB aT se9_8 dn9_9 aG aO aN aD bv aY rn kd nu tv), (zaI aS cS 901 fS), (zaI aB cB 6 fB9_6), (zaI aT cT 64 fT9_7)]) [0, 1, 2, 3] (by decide) rfl
            have hK9 := hK.sub (tys' := [(cS, .int), (cB, .int), (cT, .boolean)]) [0, 1, 2] rfl
            exact W.zret (v := 1) hx hb hr rfl (fun tQ htQ hWQ => ⟨⟨1, (fB9_6, fT9_7, se9_8, dn9_9), rfl, Or.inl ⟨rfl, by first | exact go_yes (by assumption) (by assumption) (by assumption) (by assumption) (by assumption) | exact go_yes4 (by assumption) (by assumption) (by assumption) (by assumption) (by assumption) (by assumption)⟩, by rw [htQ]; exact hP9, va_K.moved hWQ.alike hK9, hD9⟩, hS.F htQ⟩) hS.2.2 dX12_doesGo_133
          · skip
            refine lv_iload hx hb dX12_doesGo_86 (lv_at hl 2 rfl) ?_
            refine vp_callSi (va_runS (As := [.int ((fS (19 + a)) - (fS (19 + a)) / 8 * 8)]) (rest := []) ⟨hx, hb, hml, hown, hts⟩ (c_rowsOf l dC dI ((fS (19 + a)) - (fS (19 + a)) / 8 * 8)) (va_cwS 1 hts gX12_doesGo_X12_rowsOf rfl rfl rfl hd_yX12_rowsOf.2 ⟨Nat.le_of_ble_eq_true rfl, Nat.le_of_ble_eq_true rfl⟩) ⟨fun a U g mk q => ⟨q.1, trivial⟩, fun U hU hW => ⟨rfl, trivial⟩⟩ rfl rfl hl.1 rfl (lv_room (Nat.le_of_ble_eq_true rfl)) dX12_doesGo_88 ⟨Nat.le_of_ble_eq_true rfl, Nat.le_of_ble_eq_true rfl⟩).run (fun r_13 hw_14 => ?_)
            obtain rfl := hw_14
            refine lv_iload hx hb dX12_doesGo_91 (lv_at hl 1 rfl) ?_
            refine lv_bipush (v := 6) hx hb dX12_doesGo_93 (by decide) ?_
            refine lv_idiv hx hb dX12_doesGo_95 (by decide) ?_
            refine lv_iload hx hb dX12_doesGo_96 (lv_at hl 0 rfl) ?_
            refine lv_bipush (v := 6) hx hb dX12_doesGo_98 (by decide) ?_
            refine lv_idiv hx hb dX12_doesGo_100 (by decide) ?_
            refine vp_callSi (va_runS (As := [.int (rwR ((fS (19 + a)) - (fS (19 + a)) / 8 * 8)), .int ((fS (28 + a)) / 6), .int ((fS (28 + b)) / 6)]) (rest := []) ⟨hx, hb, hml, hown, hts⟩ (c_side l dC dI (rwR ((fS (19 + a)) - (fS (19 + a)) / 8 * 8)) ((fS (28 + a)) / 6) ((fS (28 + b)) / 6)) (va_cwS 3 hts gX12_doesGo_X12_isThatSide rfl rfl rfl hd_yX12_isThatSide.2 ⟨Nat.le_of_ble_eq_true rfl, Nat.le_of_ble_eq_true rfl⟩) ⟨fun a U g mk q => ⟨q.1, trivial⟩, fun U hU hW => ⟨rfl, trivial⟩⟩ rfl rfl hl.1 rfl (lv_room (Nat.le_of_ble_eq_true rfl)) dX12_doesGo_101 ⟨Nat.le_of_ble_eq_true rfl, Nat.le_of_ble_eq_true rfl⟩).run (fun r_15 hw_16 => ?_)
            rcases hw_16 with ⟨rfl, hd_17⟩ | ⟨rfl, hd_17⟩
            · skip
              refine lv_if_eq (tgt := 132) hx hb dX12_doesGo_104 (by decide) (fun c_18 => absurd c_18 (by decide)) (fun _ => ?_)
              refine lv_iload hx hb dX12_doesGo_107 (lv_at hl 2 rfl) ?_
              refine vp_callSi (va_runS (As := [.int ((fS (19 + a)) - (fS (19 + a)) / 8 * 8)]) (rest := []) ⟨hx, hb, hml, hown, hts⟩ (c_columnsOf l dC dI ((fS (19 + a)) - (fS (19 + a)) / 8 * 8)) (va_cwS 1 hts gX12_doesGo_X12_columnsOf rfl rfl rfl hd_yX12_columnsOf.2 ⟨Nat.le_of_ble_eq_true rfl, Nat.le_of_ble_eq_true rfl⟩) ⟨fun a U g mk q => ⟨q.1, trivial⟩, fun U hU hW => ⟨rfl, trivial⟩⟩ rfl rfl hl.1 rfl (lv_room (Nat.le_of_ble_eq_true rfl)) dX12_doesGo_109 ⟨Nat.le_of_ble_eq_true rfl, Nat.le_of_ble_eq_true rfl⟩).run (fun r_19 hw_20 => ?_)
              obtain rfl := hw_20
              refine lv_iload hx hb dX12_doesGo_112 (lv_at hl 1 rfl) ?_
              refine lv_bipush (v := 6) hx hb dX12_doesGo_114 (by decide) ?_
              refine lv_irem hx hb dX12_doesGo_116 (by decide) ?_
              refine lv_iload hx hb dX12_doesGo_117 (lv_at hl 0 rfl) ?_
              refine lv_bipush (v := 6) hx hb dX12_doesGo_119 (by decide) ?_
              refine lv_irem hx hb dX12_doesGo_121 (by decide) ?_
              refine vp_callSi (va_runS (As := [.int (clR ((fS (19 + a)) - (fS (19 + a)) / 8 * 8)), .int ((fS (28 + a)) - (fS (28 + a)) / 6 * 6), .int ((fS (28 + b)) - (fS (28 + b)) / 6 * 6)]) (rest := []) ⟨hx, hb, hml, hown, hts⟩ (c_side l dC dI (clR ((fS (19 + a)) - (fS (19 + a)) / 8 * 8)) ((fS (28 + a)) - (fS (28 + a)) / 6 * 6) ((fS (28 + b)) - (fS (28 + b)) / 6 * 6)) (va_cwS 3 hts gX12_doesGo_X12_isThatSide rfl rfl rfl hd_yX12_isThatSide.2 ⟨Nat.le_of_ble_eq_true rfl, Nat.le_of_ble_eq_true rfl⟩) ⟨fun a U g mk q => ⟨q.1, trivial⟩, fun U hU hW => ⟨rfl, trivial⟩⟩ rfl rfl hl.1 rfl (lv_room (Nat.le_of_ble_eq_true rfl)) dX12_doesGo_122 ⟨Nat.le_of_ble_eq_true rfl, Nat.le_of_ble_eq_true rfl⟩).run (fun r_21 hw_22 => ?_)
              rcases hw_22 with ⟨rfl, hd_23⟩ | ⟨rfl, hd_23⟩
              · skip
                refine lv_if_eq (tgt := 132) hx hb dX12_doesGo_125 (by decide) (fun c_24 => absurd c_24 (by decide)) (fun _ => ?_)
                refine lv_iconst (v := 1) hx hb dX12_doesGo_128 (by decide) ?_
                refine lv_goto (tgt := 133) hx hb dX12_doesGo_129 (by decide) ?_
                rw [hQ]
                have hP9 := hP.sub (ws' := [(zo14irriiiiiirriirrrrlriiii m0 th aS aI im ac sp en wg op aB aT se9_8 dn9_9 aG aO aN aD bv aY rn kd nu tv), (zaI aS cS 901 fS), (zaI aB cB 6 fB9_6), (zaI aT cT 64 fT9_7)]) [0, 1, 2, 3] rfl
                have hD9 := hD.sub (ws' := [(zo14irriiiiiirriirrrrlriiii m0 th aS aI im ac sp en wg op aB aT se9_8 dn9_9 aG aO aN aD bv aY rn kd nu tv), (zaI aS cS 901 fS), (zaI aB cB 6 fB9_6), (zaI aT cT 64 fT9_7)]) [0, 1, 2, 3] (by decide) rfl
                have hK9 := hK.sub (tys' := [(cS, .int), (cB, .int), (cT, .boolean)]) [0, 1, 2] rfl
                exact W.zret (v := 1) hx hb hr rfl (fun tQ htQ hWQ => ⟨⟨1, (fB9_6, fT9_7, se9_8, dn9_9), rfl, Or.inl ⟨rfl, by first | exact go_yes (by assumption) (by assumption) (by assumption) (by assumption) (by assumption) | exact go_yes4 (by assumption) (by assumption) (by assumption) (by assumption) (by assumption) (by assumption)⟩, by rw [htQ]; exact hP9, va_K.moved hWQ.alike hK9, hD9⟩, hS.F htQ⟩) hS.2.2 dX12_doesGo_133
              · skip
                refine lv_if_eq (tgt := 132) hx hb dX12_doesGo_125 (by decide) (fun _ => ?_) (fun c_25 => absurd c_25 (by decide))
                refine lv_iconst (v := 0) hx hb dX12_doesGo_132 (by decide) ?_
                rw [hQ]
                have hP9 := hP.sub (ws' := [(zo14irriiiiiirriirrrrlriiii m0 th aS aI im ac sp en wg op aB aT se9_8 dn9_9 aG aO aN aD bv aY rn kd nu tv), (zaI aS cS 901 fS), (zaI aB cB 6 fB9_6), (zaI aT cT 64 fT9_7)]) [0, 1, 2, 3] rfl
                have hD9 := hD.sub (ws' := [(zo14irriiiiiirriirrrrlriiii m0 th aS aI im ac sp en wg op aB aT se9_8 dn9_9 aG aO aN aD bv aY rn kd nu tv), (zaI aS cS 901 fS), (zaI aB cB 6 fB9_6), (zaI aT cT 64 fT9_7)]) [0, 1, 2, 3] (by decide) rfl
                have hK9 := hK.sub (tys' := [(cS, .int), (cB, .int), (cT, .boolean)]) [0, 1, 2] rfl
                exact W.zret (v := 0) hx hb hr rfl (fun tQ htQ hWQ => ⟨⟨0, (fB9_6, fT9_7, se9_8, dn9_9), rfl, Or.inr ⟨rfl, by first | exact go_eq (by assumption) | exact go_3 (by assumption) | exact go_6 (by assumption) | exact go_un (by assumption) | exact go_r (by assumption) (by assumption) | exact go_c (by assumption) (by assumption)⟩, by rw [htQ]; exact hP9, va_K.moved hWQ.alike hK9, hD9⟩, hS.F htQ⟩) hS.2.2 dX12_doesGo_133
            · skip
              refine lv_if_eq (tgt := 132) hx hb dX12_doesGo_104 (by decide) (fun _ => ?_) (fun c_26 => absurd c_26 (by decide))
              refine lv_iconst (v := 0) hx hb dX12_doesGo_132 (by decide) ?_
              rw [hQ]
              have hP9 := hP.sub (ws' := [(zo14irriiiiiirriirrrrlriiii m0 th aS aI im ac sp en wg op aB aT se9_8 dn9_9 aG aO aN aD bv aY rn kd nu tv), (zaI aS cS 901 fS), (zaI aB cB 6 fB9_6), (zaI aT cT 64 fT9_7)]) [0, 1, 2, 3] rfl
              have hD9 := hD.sub (ws' := [(zo14irriiiiiirriirrrrlriiii m0 th aS aI im ac sp en wg op aB aT se9_8 dn9_9 aG aO aN aD bv aY rn kd nu tv), (zaI aS cS 901 fS), (zaI aB cB 6 fB9_6), (zaI aT cT 64 fT9_7)]) [0, 1, 2, 3] (by decide) rfl
              have hK9 := hK.sub (tys' := [(cS, .int), (cB, .int), (cT, .boolean)]) [0, 1, 2] rfl
              exact W.zret (v := 0) hx hb hr rfl (fun tQ htQ hWQ => ⟨⟨0, (fB9_6, fT9_7, se9_8, dn9_9), rfl, Or.inr ⟨rfl, by first | exact go_eq (by assumption) | exact go_3 (by assumption) | exact go_6 (by assumption) | exact go_un (by assumption) | exact go_r (by assumption) (by assumption) | exact go_c (by assumption) (by assumption)⟩, by rw [htQ]; exact hP9, va_K.moved hWQ.alike hK9, hD9⟩, hS.F htQ⟩) hS.2.2 dX12_doesGo_133
        · skip
          refine lv_if_ne (tgt := 45) hx hb dX12_doesGo_40 (by decide) (fun c_27 => absurd c_27 (by decide)) (fun _ => ?_)
          refine lv_iconst (v := 0) hx hb dX12_doesGo_43 (by decide) ?_
          rw [hQ]
          have hP9 := hP.sub (ws' := [(zo14irriiiiiirriirrrrlriiii m0 th aS aI im ac sp en wg op aB aT se9_8 dn9_9 aG aO aN aD bv aY rn kd nu tv), (zaI aS cS 901 fS), (zaI aB cB 6 fB9_6), (zaI aT cT 64 fT9_7)]) [0, 1, 2, 3] rfl
          have hD9 := hD.sub (ws' := [(zo14irriiiiiirriirrrrlriiii m0 th aS aI im ac sp en wg op aB aT se9_8 dn9_9 aG aO aN aD bv aY rn kd nu tv), (zaI aS cS 901 fS), (zaI aB cB 6 fB9_6), (zaI aT cT 64 fT9_7)]) [0, 1, 2, 3] (by decide) rfl
          have hK9 := hK.sub (tys' := [(cS, .int), (cB, .int), (cT, .boolean)]) [0, 1, 2] rfl
          exact W.zret (v := 0) hx hb hr rfl (fun tQ htQ hWQ => ⟨⟨0, (fB9_6, fT9_7, se9_8, dn9_9), rfl, Or.inr ⟨rfl, by first | exact go_eq (by assumption) | exact go_3 (by assumption) | exact go_6 (by assumption) | exact go_un (by assumption) | exact go_r (by assumption) (by assumption) | exact go_c (by assumption) (by assumption)⟩, by rw [htQ]; exact hP9, va_K.moved hWQ.alike hK9, hD9⟩, hS.F htQ⟩) hS.2.2 dX12_doesGo_44

theorem kc_goings_0 : ∀ w ∈ wsX120, w ∈ wsX12_looksForGoings := fun w h => List.mem_cons_of_mem _ (gin_wsX120 w h)
theorem kc_goings_1 : (.fieldLink RX12 9 "MistHeapsModel" "s" "[I" : Cond) ∈ wsX12_looksForGoings := kc_of 1141 rfl rfl rfl
theorem kc_goings_2 : (.fieldLink RX12 25 "MistHeapsModel" "goes" "[I" : Cond) ∈ wsX12_looksForGoings := kc_of 1153 rfl rfl rfl
set_option maxHeartbeats 4000000 in
set_option maxRecDepth 100000 in
theorem c_goings (l : Launch) (dC : Nat → ClassId) (dI : Nat → Nat → Nat) (m0 aS aI aB aT aG aO aN aD aY : Nat) (th im ac sp en wg op se dn rn kd nu tv : Int32) (bv : Int64) (cS cB cT cG : ClassId) (fS : Nat → Int32) (fB : Nat → Int32) (fT : Nat → Int32) (fG : Nat → Int32) (n : Nat) (cz : List pCla) (sz : Nat) (zn : fS 0 = nI n) (hn : n ≤ 8) (zh : hol fS cz) : Met l yX12_looksForGoings wsX12_looksForGoings ({ frames := 4, cells := 0, slots := 0, locals := 103 } : Room) (va_Pc [.ref m0] (fun U => U.heap.size = sz ∧ va_P (dC, dI) vwCl [(zo14irriiiiiirriirrrrlriiii m0 th aS aI im ac sp en wg op aB aT se dn aG aO aN aD bv aY rn kd nu tv), (zaI aS cS 901 fS), (zaI aB cB 6 fB), (zaI aT cT 64 fT), (zaI aG cG 9 fG)] U.heap ∧ va_K (dC, dI) vwCl [(cS, .int), (cB, .int), (cT, .boolean), (cG, .int)] U ∧ va_D (fun _ => True) [(zo14irriiiiiirriirrrrlriiii m0 th aS aI im ac sp en wg op aB aT se dn aG aO aN aD bv aY rn kd nu tv), (zaI aS cS 901 fS), (zaI aB cB 6 fB), (zaI aT cT 64 fT), (zaI aG cG 9 fG)])) (va_Qv (fun (u : (Nat → Int32) × (Nat → Int32) × (Int32) × (Int32) × (Nat → Int32)) => match u with | (fB9, fT9, se9, dn9, fG9) => ∀ k, k < n → fG9 k = gbI (goF fS cz k) n) (fun (u : (Nat → Int32) × (Nat → Int32) × (Int32) × (Int32) × (Nat → Int32)) (t : State) => match u with | (fB9, fT9, se9, dn9, fG9) => va_P (dC, dI) vwCl [(zo14irriiiiiirriirrrrlriiii m0 th aS aI im ac sp en wg op aB aT se9 dn9 aG aO aN aD bv aY rn kd nu tv), (zaI aS cS 901 fS), (zaI aB cB 6 fB9), (zaI aT cT 64 fT9), (zaI aG cG 9 fG9)] t.heap ∧ va_K (dC, dI) vwCl [(cS, .int), (cB, .int), (cT, .boolean), (cG, .int)] t ∧ va_D (va_A [(zo14irriiiiiirriirrrrlriiii m0 th aS aI im ac sp en wg op aB aT se dn aG aO aN aD bv aY rn kd nu tv), (zaI aS cS 901 fS), (zaI aB cB 6 fB), (zaI aT cT 64 fT), (zaI aG cG 9 fG)] sz) [(zo14irriiiiiirriirrrrlriiii m0 th aS aI im ac sp en wg op aB aT se9 dn9 aG aO aN aD bv aY rn kd nu tv), (zaI aS cS 901 fS), (zaI aB cB 6 fB9), (zaI aT cT 64 fT9), (zaI aG cG 9 fG9)]) (va_A [(zo14irriiiiiirriirrrrlriiii m0 th aS aI im ac sp en wg op aB aT se dn aG aO aN aD bv aY rn kd nu tv), (zaI aS cS 901 fS), (zaI aB cB 6 fB), (zaI aT cT 64 fT), (zaI aG cG 9 fG)] sz)) 0 0 (va_A [(zo14irriiiiiirriirrrrlriiii m0 th aS aI im ac sp en wg op aB aT se dn aG aO aN aD bv aY rn kd nu tv), (zaI aS cS 901 fS), (zaI aB cB 6 fB), (zaI aT cT 64 fT), (zaI aG cG 9 fG)] sz) := by
  refine met_ofQ (cc := cX12_looksForGoings) (maxL := 3) (ret := none) (by decide) rfl ?_
  intro p e s m args below meth c s₁ Q B hml hv hQ
  obtain ⟨rfl, hsz, hP, hK, hD0⟩ := hv
  have hx := B.exec
  have hb := B.bytes
  have hr := B.returns
  have hts := atoms_spec (ws := wsX12_looksForGoings) B.pre
  have hown : s.vm.findClass RX12 = some m.cls := findClass_of_methodNamed B.named
  have hlocks := B.notSynchronized
  subst hsz
  have hD := hD0.self (sz := s.heap.size)
  generalize hAe : va_A [(zo14irriiiiiirriirrrrlriiii m0 th aS aI im ac sp en wg op aB aT se dn aG aO aN aD bv aY rn kd nu tv), (zaI aS cS 901 fS), (zaI aB cB 6 fB), (zaI aT cT 64 fT), (zaI aG cG 9 fG)] s.heap.size = A at hD hQ ⊢
  have hA : ∀ q : Nat, s.heap.size ≤ q → A q := fun q h => by rw [← hAe]; exact Or.inr h
  have hS : va_S A s.heap s.heap [] := va_S.rf
  have hl := lv_entry [.ref m0] (n := 3) (Nat.le_of_ble_eq_true rfl)
  rw [lg_entry_eq]
  generalize (lg_sl [.ref m0] ++ List.replicate (3 - (lg_sl [.ref m0]).length) Slot.unset).toArray = ls at hl ⊢
  generalize hag : ([.ref m0] : List Value).toArray = args at hts hQ ⊢
  have hl : lv_has ls 3 [(0, .ref m0)] := hl
  obtain ⟨H, hH⟩ : ∃ H : Heap, H = s.heap := ⟨_, rfl⟩
  rw [← hH] at hP
  rw [← hH]
  have hS : va_S A s.heap H [] := by rw [hH]; exact hS
  obtain ⟨locs, hlo⟩ : ∃ L : List Loc, L = [] := ⟨_, rfl⟩
  rw [← hlo] at hS
  rw [← hlo]
  clear hH hlo
  refine lv_iconst (v := 0) hx hb dX12_looksForGoings_0 (by decide) ?_
  refine lv_istore_n (lv' := [(1, .int 0), (0, .ref m0)]) hx hb dX12_looksForGoings_1 rfl hl (by decide) rfl (fun ls hl => ?_)
  have L2 : ∀ (nF : Nat) (i : Nat) (se2 : Int32) (dn2 : Int32) (fB2 : Nat → Int32) (fT2 : Nat → Int32) (fG2 : Nat → Int32), n - i < nF → (i ≤ n) → (∀ k, k < i → fG2 k = gbI (goF fS cz k) n) → ∀ (H : Heap) (locs : List Loc), va_K (dC, dI) vwCl [(cS, .int), (cB, .int), (cT, .boolean), (cG, .int)] s → va_P (dC, dI) vwCl [(zo14irriiiiiirriirrrrlriiii m0 th aS aI im ac sp en wg op aB aT se2 dn2 aG aO aN aD bv aY rn kd nu tv), (zaI aS cS 901 fS), (zaI aB cB 6 fB2), (zaI aT cT 64 fT2), (zaI aG cG 9 fG2)] H → va_D A [(zo14irriiiiiirriirrrrlriiii m0 th aS aI im ac sp en wg op aB aT se2 dn2 aG aO aN aD bv aY rn kd nu tv), (zaI aS cS 901 fS), (zaI aB cB 6 fB2), (zaI aT cT 64 fT2), (zaI aG cG 9 fG2)] → va_S A s.heap H locs → ∀ (ls : Array Slot), lv_has ls 3 [(0, .ref m0), (1, .int (nI i))] → W p l e ({ frames := 4, cells := 0, slots := 0, locals := 103 } : Room) s m args below meth c H locs 0 0 Q (F0 m 2 ls []) := by
    intro nF
    induction nF with
    | zero => intro i se2 dn2 fB2 fT2 fG2 hm; exact absurd hm (Nat.not_lt_zero _)
    | succ nF ih2 =>
      intro i se2 dn2 fB2 fT2 fG2 hm hii hg9 H locs hK hP hD hS ls hl
      refine lv_iload_n hx hb dX12_looksForGoings_2 rfl (lv_at hl 1 rfl) ?_
      refine lv_aload_n hx hb dX12_looksForGoings_3 rfl (lv_at hl 0 rfl) ?_
      refine va_get (D := (dC, dI)) (ci := 14) (v := .ref aS) (C := RX12) (T := TX12) (N := 23) hx hb hts kc_goings_0 hown hK hP 0 rfl rfl 1 (by decide) (hts (.fieldLink RX12 9 "MistHeapsModel" "s" "[I") kc_goings_1) (fun _ h9 => h9) rfl dX12_looksForGoings_4 ?_
      refine lv_iconst (v := 0) hx hb dX12_looksForGoings_7 (by decide) ?_
      refine va_iald hx hb hK hP 1 0 rfl rfl (vp_in_nI (n := 0) (N := 901) (by omega) (by omega)) dX12_looksForGoings_8 ?_
      refine qi_as (y := nI n) ((show fS (0 : Int32).toNatClampNeg = fS 0 from rfl).trans (zn)) ?_
      refine lv_icmp_ge (tgt := 68) hx hb dX12_looksForGoings_9 (by decide) (fun c_1 => ?_) (fun c_1 => ?_)
      · skip
        have c_1 : n ≤ i := (nI_leI (a := n) (b := i) (by omega) (by omega)).mp c_1
        rw [hQ]
        have hP9 := hP.sub (ws' := [(zo14irriiiiiirriirrrrlriiii m0 th aS aI im ac sp en wg op aB aT se2 dn2 aG aO aN aD bv aY rn kd nu tv), (zaI aS cS 901 fS), (zaI aB cB 6 fB2), (zaI aT cT 64 fT2), (zaI aG cG 9 fG2)]) [0, 1, 2, 3, 4] rfl
        have hD9 := hD.sub (ws' := [(zo14irriiiiiirriirrrrlriiii m0 th aS aI im ac sp en wg op aB aT se2 dn2 aG aO aN aD bv aY rn kd nu tv), (zaI aS cS 901 fS), (zaI aB cB 6 fB2), (zaI aT cT 64 fT2), (zaI aG cG 9 fG2)]) [0, 1, 2, 3, 4] (by decide) rfl
        have hK9 := hK.sub (tys' := [(cS, .int), (cB, .int), (cT, .boolean), (cG, .int)]) [0, 1, 2, 3] rfl
        exact W.vret hx hb hr (fun tQ htQ hWQ => ⟨⟨(fB2, fT2, se2, dn2, fG2), rfl, fun k hk => hg9 k (by omega), by rw [htQ]; exact hP9, va_K.moved hWQ.alike hK9, hD9⟩, hS.F htQ⟩) hS.2.2 dX12_looksForGoings_68
      · skip
        have c_1 : ¬ n ≤ i := fun q => c_1 ((nI_leI (a := n) (b := i) (by omega) (by omega)).mpr q)
        refine lv_aload_n hx hb dX12_looksForGoings_12 rfl (lv_at hl 0 rfl) ?_
        refine va_get (D := (dC, dI)) (ci := 14) (v := .ref aG) (C := RX12) (T := TX12) (N := 23) hx hb hts kc_goings_0 hown hK hP 0 rfl rfl 13 (by decide) (hts (.fieldLink RX12 25 "MistHeapsModel" "goes" "[I") kc_goings_2) (fun _ h9 => h9) rfl dX12_looksForGoings_13 ?_
        refine lv_iload_n hx hb dX12_looksForGoings_16 rfl (lv_at hl 1 rfl) ?_
        refine lv_iconst (v := 0) hx hb dX12_looksForGoings_17 (by decide) ?_
        refine va_iast hx hb hK hP hD hS 4 3 rfl rfl (vp_in_nI (n := i) (N := 9) (by omega) (by omega)) dX12_looksForGoings_18 (fun H locs hP hD hS => ?_)
        rw [nI_clamp (n := i) (by omega)] at hP hD
        have hP : va_P (dC, dI) vwCl [(zo14irriiiiiirriirrrrlriiii m0 th aS aI im ac sp en wg op aB aT se2 dn2 aG aO aN aD bv aY rn kd nu tv), (zaI aS cS 901 fS), (zaI aB cB 6 fB2), (zaI aT cT 64 fT2), (zaI aG cG 9 (upd fG2 i 0))] H := hP
        have hD : va_D A [(zo14irriiiiiirriirrrrlriiii m0 th aS aI im ac sp en wg op aB aT se2 dn2 aG aO aN aD bv aY rn kd nu tv), (zaI aS cS 901 fS), (zaI aB cB 6 fB2), (zaI aT cT 64 fT2), (zaI aG cG 9 (upd fG2 i 0))] := hD
        refine lv_iconst (v := 0) hx hb dX12_looksForGoings_19 (by decide) ?_
        refine lv_istore_n (lv' := [(2, .int 0), (0, .ref m0), (1, .int (nI i))]) hx hb dX12_looksForGoings_20 rfl hl (by decide) rfl (fun ls hl => ?_)
        have L21 : ∀ (nF : Nat) (j : Nat) (se2 : Int32) (dn2 : Int32) (fB2 : Nat → Int32) (fT2 : Nat → Int32) (fG2 : Nat → Int32), n - j < nF → (j ≤ n) → (∀ k, k < i → fG2 k = gbI (goF fS cz k) n) → (fG2 i = gbI (goF fS cz i) j) → ∀ (H : Heap) (locs : List Loc), va_K (dC, dI) vwCl [(cS, .int), (cB, .int), (cT, .boolean), (cG, .int)] s → va_P (dC, dI) vwCl [(zo14irriiiiiirriirrrrlriiii m0 th aS aI im ac sp en wg op aB aT se2 dn2 aG aO aN aD bv aY rn kd nu tv), (zaI aS cS 901 fS), (zaI aB cB 6 fB2), (zaI aT cT 64 fT2), (zaI aG cG 9 fG2)] H → va_D A [(zo14irriiiiiirriirrrrlriiii m0 th aS aI im ac sp en wg op aB aT se2 dn2 aG aO aN aD bv aY rn kd nu tv), (zaI aS cS 901 fS), (zaI aB cB 6 fB2), (zaI aT cT 64 fT2), (zaI aG cG 9 fG2)] → va_S A s.heap H locs → ∀ (ls : Array Slot), lv_has ls 3 [(0, .ref m0), (1, .int (nI i)), (2, .int (nI j))] → W p l e ({ frames := 4, cells := 0, slots := 0, locals := 103 } : Room) s m args below meth c H locs 0 0 Q (F0 m 21 ls []) := by
          intro nF
          induction nF with
          | zero => intro j se2 dn2 fB2 fT2 fG2 hm; exact absurd hm (Nat.not_lt_zero _)
          | succ nF ih21 =>
            intro j se2 dn2 fB2 fT2 fG2 hm hij hg9 hr9 H locs hK hP hD hS ls hl
            refine lv_iload_n hx hb dX12_looksForGoings_21 rfl (lv_at hl 2 rfl) ?_
            refine lv_aload_n hx hb dX12_looksForGoings_22 rfl (lv_at hl 0 rfl) ?_
            refine va_get (D := (dC, dI)) (ci := 14) (v := .ref aS) (C := RX12) (T := TX12) (N := 23) hx hb hts kc_goings_0 hown hK hP 0 rfl rfl 1 (by decide) (hts (.fieldLink RX12 9 "MistHeapsModel" "s" "[I") kc_goings_1) (fun _ h9 => h9) rfl dX12_looksForGoings_23 ?_
            refine lv_iconst (v := 0) hx hb dX12_looksForGoings_26 (by decide) ?_
            refine va_iald hx hb hK hP 1 0 rfl rfl (vp_in_nI (n := 0) (N := 901) (by omega) (by omega)) dX12_looksForGoings_27 ?_
            refine qi_as (y := nI n) ((show fS (0 : Int32).toNatClampNeg = fS 0 from rfl).trans (zn)) ?_
            refine lv_icmp_ge (tgt := 62) hx hb dX12_looksForGoings_28 (by decide) (fun c_2 => ?_) (fun c_2 => ?_)
            · skip
              have c_2 : n ≤ j := (nI_leI (a := n) (b := j) (by omega) (by omega)).mp c_2
              refine lv_iinc (v := nI (i + 1)) (lv' := [(1, .int (nI (i + 1))), (0, .ref m0), (2, .int (nI j))]) hx hb dX12_looksForGoings_62 hl (k := 1) rfl (nI_add i 1) (by decide) rfl (fun ls hl => ?_)
              refine lv_goto (tgt := 2) hx hb dX12_looksForGoings_65 (by decide) ?_
              exact ih2 (i + 1) _ _ _ _ (fG2) (by omega) (by omega) (go_up hg9 (gb_e hr9 (by omega))) _ _ (hK.sub [0, 1, 2, 3] rfl) (hP.sub [0, 1, 2, 3, 4] rfl) (hD.sub [0, 1, 2, 3, 4] (by decide) rfl) hS ls (lv_sub hl [1, 0] rfl)
            · skip
              have c_2 : ¬ n ≤ j := fun q => c_2 ((nI_leI (a := n) (b := j) (by omega) (by omega)).mpr q)
              refine lv_aload_n hx hb dX12_looksForGoings_31 rfl (lv_at hl 0 rfl) ?_
              refine va_get (D := (dC, dI)) (ci := 14) (v := .ref aG) (C := RX12) (T := TX12) (N := 23) hx hb hts kc_goings_0 hown hK hP 0 rfl rfl 13 (by decide) (hts (.fieldLink RX12 25 "MistHeapsModel" "goes" "[I") kc_goings_2) (fun _ h9 => h9) rfl dX12_looksForGoings_32 ?_
              refine lv_iload_n hx hb dX12_looksForGoings_35 rfl (lv_at hl 1 rfl) ?_
              refine lv_dup2_11 hx hb dX12_looksForGoings_36 rfl rfl ?_
              refine va_iald hx hb hK hP 4 3 rfl rfl (vp_in_nI (n := i) (N := 9) (by omega) (by omega)) dX12_looksForGoings_37 ?_
              refine qi_as (y := fG2 i) (by rw [nI_clamp (by omega)]) ?_
              refine lv_aload_n hx hb dX12_looksForGoings_38 rfl (lv_at hl 0 rfl) ?_
              refine lv_iload_n hx hb dX12_looksForGoings_39 rfl (lv_at hl 1 rfl) ?_
              refine lv_iload_n hx hb dX12_looksForGoings_40 rfl (lv_at hl 2 rfl) ?_
              have hPc := hP.sub (ws' := [(zo14irriiiiiirriirrrrlriiii m0 th aS aI im ac sp en wg op aB aT se2 dn2 aG aO aN aD bv aY rn kd nu tv), (zaI aS cS 901 fS), (zaI aB cB 6 fB2), (zaI aT cT 64 fT2)]) [0, 1, 2, 3] rfl
              have hDc := hD.sub (ws' := [(zo14irriiiiiirriirrrrlriiii m0 th aS aI im ac sp en wg op aB aT se2 dn2 aG aO aN aD bv aY rn kd nu tv), (zaI aS cS 901 fS), (zaI aB cB 6 fB2), (zaI aT cT 64 fT2)]) [0, 1, 2, 3] (by decide) rfl
              have hKc := hK.sub (tys' := [(cS, .int), (cB, .int), (cT, .boolean)]) [0, 1, 2] rfl
              have hFc := va_free (wc := [(zo14irriiiiiirriirrrrlriiii m0 th aS aI im ac sp en wg op aB aT se2 dn2 aG aO aN aD bv aY rn kd nu tv), (zaI aS cS 901 fS), (zaI aB cB 6 fB2), (zaI aT cT 64 fT2)]) hD hS hA [0, 1, 2, 3] rfl
              refine va_calli (va_runV (As := [.int (nI i), .int (nI j)]) (rest := [.int (fG2 i), .int (nI i), .ref aG]) ⟨hx, hb, hml, hown, hts⟩ (c_doesGo l dC dI m0 aS aI aB aT aG aO aN aD aY th im ac sp en wg op se2 dn2 rn kd nu tv bv cS cB cT fS fB2 fT2 i j cz H.size (by omega) (by omega) (zh)) (cwV 2 hts gX12_looksForGoings_X12_doesGo rfl rfl rfl hd_yX12_doesGo ⟨Nat.le_of_ble_eq_true rfl, Nat.le_of_ble_eq_true rfl⟩) ⟨fun a U g mk q => by obtain ⟨q0, q1, qP, qK, qD⟩ := q; exact ⟨q0, mvz g mk a q1, mvP g mk a qP, mvK g mk a qK, qD⟩, va_recv hK hP (ci := 14) (q := (RX12, TX12, 23)) (q0 := 0) rfl rfl, fun U hU hW => ⟨rfl, by rw [hU], by rw [hU]; exact hPc, va_K.moved hW.alike hKc, hDc.weaken (fun _ _ _ _ => trivial)⟩⟩ rfl rfl hl.1 rfl (lv_room (Nat.le_of_ble_eq_true rfl)) dX12_looksForGoings_41 ⟨Nat.le_of_ble_eq_true rfl, Nat.le_of_ble_eq_true rfl⟩) hS (fun q _ h => hFc q h) hFc (fun r_3 u tC H1 locs htC hvm hw_4 hB hz1 hk1 hS => ?_)
              obtain ⟨fB9_5, fT9_6, se9_7, dn9_8⟩ := u
              try dsimp only at hw_4 hB
              obtain ⟨hP1, hK1, hD1⟩ := hB
              rw [htC] at hP1
              have hK1 := va_K.moved hvm.symm hK1
              obtain ⟨hP, hD⟩ := va_join (wr := [(zaI aG cG 9 fG2)]) (w1 := [(zo14irriiiiiirriirrrrlriiii m0 th aS aI im ac sp en wg op aB aT se9_7 dn9_8 aG aO aN aD bv aY rn kd nu tv), (zaI aS cS 901 fS), (zaI aB cB 6 fB9_5), (zaI aT cT 64 fT9_6)]) hP hD [0, 1, 2, 3] [4] rfl rfl (by decide) (by decide) hk1 hFc hP1 hD1
              have hK := (hK.sub (tys' := [(cG, .int)]) [3] rfl).app hK1
              generalize H1 = H at hP hS ⊢
              have hP : va_P (dC, dI) vwCl [(zaI aG cG 9 fG2), (zo14irriiiiiirriirrrrlriiii m0 th aS aI im ac sp en wg op aB aT se9_7 dn9_8 aG aO aN aD bv aY rn kd nu tv), (zaI aS cS 901 fS), (zaI aB cB 6 fB9_5), (zaI aT cT 64 fT9_6)] H := hP
              have hD : va_D A [(zaI aG cG 9 fG2), (zo14irriiiiiirriirrrrlriiii m0 th aS aI im ac sp en wg op aB aT se9_7 dn9_8 aG aO aN aD bv aY rn kd nu tv), (zaI aS cS 901 fS), (zaI aB cB 6 fB9_5), (zaI aT cT 64 fT9_6)] := hD
              have hK : va_K (dC, dI) vwCl [(cG, .int), (cS, .int), (cB, .int), (cT, .boolean)] s := hK
              rcases hw_4 with ⟨rfl, hd_9⟩ | ⟨rfl, hd_9⟩
              · skip
                refine lv_if_eq (tgt := 53) hx hb dX12_looksForGoings_44 (by decide) (fun c_10 => absurd c_10 (by decide)) (fun _ => ?_)
                refine lv_iconst (v := 1) hx hb dX12_looksForGoings_47 (by decide) ?_
                refine lv_iload_n hx hb dX12_looksForGoings_48 rfl (lv_at hl 2 rfl) ?_
                refine lv_ishl hx hb dX12_looksForGoings_49 ?_
                refine lv_goto (tgt := 54) hx hb dX12_looksForGoings_50 (by decide) ?_
                refine lv_ior hx hb dX12_looksForGoings_54 ?_
                refine va_iast hx hb hK hP hD hS 0 0 rfl rfl (vp_in_nI (n := i) (N := 9) (by omega) (by omega)) dX12_looksForGoings_55 (fun H locs hP hD hS => ?_)
                rw [nI_clamp (n := i) (by omega)] at hP hD
                have hP : va_P (dC, dI) vwCl [(zaI aG cG 9 (upd fG2 i ((fG2 i) ||| (1 <<< ((nI j) &&& 31))))), (zo14irriiiiiirriirrrrlriiii m0 th aS aI im ac sp en wg op aB aT se9_7 dn9_8 aG aO aN aD bv aY rn kd nu tv), (zaI aS cS 901 fS), (zaI aB cB 6 fB9_5), (zaI aT cT 64 fT9_6)] H := hP
                have hD : va_D A [(zaI aG cG 9 (upd fG2 i ((fG2 i) ||| (1 <<< ((nI j) &&& 31))))), (zo14irriiiiiirriirrrrlriiii m0 th aS aI im ac sp en wg op aB aT se9_7 dn9_8 aG aO aN aD bv aY rn kd nu tv), (zaI aS cS 901 fS), (zaI aB cB 6 fB9_5), (zaI aT cT 64 fT9_6)] := hD
                refine lv_iinc (v := nI (j + 1)) (lv' := [(2, .int (nI (j + 1))), (0, .ref m0), (1, .int (nI i))]) hx hb dX12_looksForGoings_56 hl (k := 2) rfl (nI_add j 1) (by decide) rfl (fun ls hl => ?_)
                refine lv_goto (tgt := 21) hx hb dX12_looksForGoings_59 (by decide) ?_
                exact ih21 (j + 1) _ _ _ _ ((upd fG2 i ((fG2 i) ||| (1 <<< ((nI j) &&& 31))))) (by omega) (by omega) (fun k hk => (pk_un (show ¬ k = i by omega)).trans (hg9 k hk)) (pk_us.trans (gb_t hr9 hd_9)) _ _ (hK.sub [1, 2, 3, 0] rfl) (hP.sub [1, 2, 3, 4, 0] rfl) (hD.sub [1, 2, 3, 4, 0] (by decide) rfl) hS ls (lv_sub hl [1, 2, 0] rfl)
              · skip
                refine lv_if_eq (tgt := 53) hx hb dX12_looksForGoings_44 (by decide) (fun _ => ?_) (fun c_11 => absurd c_11 (by decide))
                refine lv_iconst (v := 0) hx hb dX12_looksForGoings_53 (by decide) ?_
                refine lv_ior hx hb dX12_looksForGoings_54 ?_
                refine va_iast hx hb hK hP hD hS 0 0 rfl rfl (vp_in_nI (n := i) (N := 9) (by omega) (by omega)) dX12_looksForGoings_55 (fun H locs hP hD hS => ?_)
                rw [nI_clamp (n := i) (by omega)] at hP hD
                have hP : va_P (dC, dI) vwCl [(zaI aG cG 9 (upd fG2 i ((fG2 i) ||| 0))), (zo14irriiiiiirriirrrrlriiii m0 th aS aI im ac sp en wg op aB aT se9_7 dn9_8 aG aO aN aD bv aY rn kd nu tv), (zaI aS cS 901 fS), (zaI aB cB 6 fB9_5), (zaI aT cT 64 fT9_6)] H := hP
                have hD : va_D A [(zaI aG cG 9 (upd fG2 i ((fG2 i) ||| 0))), (zo14irriiiiiirriirrrrlriiii m0 th aS aI im ac sp en wg op aB aT se9_7 dn9_8 aG aO aN aD bv aY rn kd nu tv), (zaI aS cS 901 fS), (zaI aB cB 6 fB9_5), (zaI aT cT 64 fT9_6)] := hD
                refine lv_iinc (v := nI (j + 1)) (lv' := [(2, .int (nI (j + 1))), (0, .ref m0), (1, .int (nI i))]) hx hb dX12_looksForGoings_56 hl (k := 2) rfl (nI_add j 1) (by decide) rfl (fun ls hl => ?_)
                refine lv_goto (tgt := 21) hx hb dX12_looksForGoings_59 (by decide) ?_
                exact ih21 (j + 1) _ _ _ _ ((upd fG2 i ((fG2 i) ||| 0))) (by omega) (by omega) (fun k hk => (pk_un (show ¬ k = i by omega)).trans (hg9 k hk)) (pk_us.trans (gb_f hr9 hd_9)) _ _ (hK.sub [1, 2, 3, 0] rfl) (hP.sub [1, 2, 3, 4, 0] rfl) (hD.sub [1, 2, 3, 4, 0] (by decide) rfl) hS ls (lv_sub hl [1, 2, 0] rfl)
        exact L21 _ (0) _ _ _ _ ((upd fG2 i 0)) (Nat.lt_succ_self _) (by omega) (fun k hk => (pk_un (show ¬ k = i by omega)).trans (hg9 k hk)) (pk_us) _ _ (hK.sub [0, 1, 2, 3] rfl) (hP.sub [0, 1, 2, 3, 4] rfl) (hD.sub [0, 1, 2, 3, 4] (by decide) rfl) hS ls (lv_sub hl [1, 2, 0] rfl)
  exact L2 _ (0) _ _ _ _ (fG) (Nat.lt_succ_self _) (by omega) (fun k hk => absurd hk (Nat.not_lt_zero k)) _ _ (hK.sub [0, 1, 2, 3] rfl) (hP.sub [0, 1, 2, 3, 4] rfl) (hD.sub [0, 1, 2, 3, 4] (by decide) rfl) hS ls (lv_sub hl [1, 0] rfl)

theorem kc_mSpread_0 : ∀ w ∈ wsX120, w ∈ wsX12_spread := fun w h => List.mem_cons_of_mem _ (gin_wsX120 w h)
theorem kc_mSpread_1 : (.fieldLink RX12 9 "MistHeapsModel" "s" "[I" : Cond) ∈ wsX12_spread := kc_of 1141 rfl rfl rfl
theorem kc_mSpread_2 : (.fieldLink RX12 25 "MistHeapsModel" "goes" "[I" : Cond) ∈ wsX12_spread := kc_of 1153 rfl rfl rfl
set_option maxHeartbeats 4000000 in
set_option maxRecDepth 100000 in
theorem c_mSpread (l : Launch) (dC : Nat → ClassId) (dI : Nat → Nat → Nat) (m0 aS aI aB aT aG aO aN aD aY : Nat) (th im ac sp en wg op se dn rn kd nu tv : Int32) (bv : Int64) (cS cG : ClassId) (fS : Nat → Int32) (fG : Nat → Int32) (n : Nat) (x : Int32) (zn : fS 0 = nI n) (hn : n ≤ 8) : Met l yX12_spread wsX12_spread ({ frames := 0, cells := 0, slots := 0, locals := 0 } : Room) (va_Pc [.ref m0, .int x] (fun U => va_P (dC, dI) vwCl [(zo14irriiiiiirriirrrrlriiii m0 th aS aI im ac sp en wg op aB aT se dn aG aO aN aD bv aY rn kd nu tv), (zaI aS cS 901 fS), (zaI aG cG 9 fG)] U.heap ∧ va_K (dC, dI) vwCl [(cS, .int), (cG, .int)] U)) (vp_Si (fun r => r = spI fG x n)) 0 0 (fun _ => False) := by
  refine met_ofQ (cc := cX12_spread) (maxL := 4) (ret := (some .int)) (by decide) rfl ?_
  intro p e s m args below meth c s₁ Q B hml hv hQ
  obtain ⟨rfl, hP, hK⟩ := hv
  have hx := B.exec
  have hb := B.bytes
  have hr := B.returns
  have hts := atoms_spec (ws := wsX12_spread) B.pre
  have hown : s.vm.findClass RX12 = some m.cls := findClass_of_methodNamed B.named
  have hlocks := B.notSynchronized
  obtain ⟨A, hAe⟩ : ∃ A : Nat → Prop, A = fun _ => False := ⟨_, rfl⟩
  rw [← hAe] at hQ
  have hS : va_S A s.heap s.heap [] := va_S.rf
  have hl := lv_entry [.ref m0, .int x] (n := 4) (Nat.le_of_ble_eq_true rfl)
  rw [lg_entry_eq]
  generalize (lg_sl [.ref m0, .int x] ++ List.replicate (4 - (lg_sl [.ref m0, .int x]).length) Slot.unset).toArray = ls at hl ⊢
  generalize hag : ([.ref m0, .int x] : List Value).toArray = args at hts hQ ⊢
  have hl : lv_has ls 4 [(0, .ref m0), (1, .int x)] := hl
  refine lv_iload_n hx hb dX12_spread_0 rfl (lv_at hl 1 rfl) ?_
  refine lv_istore_n (lv' := [(2, .int x), (0, .ref m0), (1, .int x)]) hx hb dX12_spread_1 rfl hl (by decide) rfl (fun ls hl => ?_)
  refine lv_iconst (v := 0) hx hb dX12_spread_2 (by decide) ?_
  refine lv_istore_n (lv' := [(3, .int 0), (2, .int x), (0, .ref m0), (1, .int x)]) hx hb dX12_spread_3 rfl hl (by decide) rfl (fun ls hl => ?_)
  have L4 : ∀ (nF : Nat) (i : Nat) (q : Int32), n - i < nF → (i ≤ n) → (q = spI fG x i) → ∀ (ls : Array Slot), lv_has ls 4 [(0, .ref m0), (1, .int x), (2, .int q), (3, .int (nI i))] → W p l e ({ frames := 0, cells := 0, slots := 0, locals := 0 } : Room) s m args below meth c s.heap [] 0 0 Q (F0 m 4 ls []) := by
    intro nF
    induction nF with
    | zero => intro i q hm; exact absurd hm (Nat.not_lt_zero _)
    | succ nF ih4 =>
      intro i q hm hi hq9 ls hl
      refine lv_iload_n hx hb dX12_spread_4 rfl (lv_at hl 3 rfl) ?_
      refine lv_aload_n hx hb dX12_spread_5 rfl (lv_at hl 0 rfl) ?_
      refine va_get (D := (dC, dI)) (ci := 14) (v := .ref aS) (C := RX12) (T := TX12) (N := 23) hx hb hts kc_mSpread_0 hown hK hP 0 rfl rfl 1 (by decide) (hts (.fieldLink RX12 9 "MistHeapsModel" "s" "[I") kc_mSpread_1) (fun _ h9 => h9) rfl dX12_spread_6 ?_
      refine lv_iconst (v := 0) hx hb dX12_spread_9 (by decide) ?_
      refine va_iald hx hb hK hP 1 0 rfl rfl (vp_in_nI (n := 0) (N := 901) (by omega) (by omega)) dX12_spread_10 ?_
      refine qi_as (y := nI n) ((show fS (0 : Int32).toNatClampNeg = fS 0 from rfl).trans (zn)) ?_
      refine lv_icmp_ge (tgt := 42) hx hb dX12_spread_11 (by decide) (fun c_1 => ?_) (fun c_1 => ?_)
      · skip
        have c_1 : n ≤ i := (nI_leI (a := n) (b := i) (by omega) (by omega)).mp c_1
        refine lv_iload_n hx hb dX12_spread_42 rfl (lv_at hl 2 rfl) ?_
        rw [hQ]
        exact W.iret (v := q) hx hb hr (fun tQ htQ hWQ => ⟨q, rfl, sp_e hq9 (by omega), by rw [htQ]⟩) (fun q hq => absurd hq List.not_mem_nil) dX12_spread_43
      · skip
        have c_1 : ¬ n ≤ i := fun q => c_1 ((nI_leI (a := n) (b := i) (by omega) (by omega)).mpr q)
        refine lv_iload_n hx hb dX12_spread_14 rfl (lv_at hl 2 rfl) ?_
        refine lv_iload_n hx hb dX12_spread_15 rfl (lv_at hl 1 rfl) ?_
        refine lv_iload_n hx hb dX12_spread_16 rfl (lv_at hl 3 rfl) ?_
        refine lv_ishr hx hb dX12_spread_17 ?_
        refine lv_iconst (v := 1) hx hb dX12_spread_18 (by decide) ?_
        refine lv_iand hx hb dX12_spread_19 ?_
        refine lv_iconst (v := 1) hx hb dX12_spread_20 (by decide) ?_
        refine lv_icmp_ne (tgt := 33) hx hb dX12_spread_21 (by decide) (fun c_2 => ?_) (fun c_2 => ?_)
        · skip
          refine lv_iconst (v := 0) hx hb dX12_spread_33 (by decide) ?_
          refine lv_ior hx hb dX12_spread_34 ?_
          refine lv_istore_n (lv' := [(2, .int (q ||| 0)), (0, .ref m0), (1, .int x), (3, .int (nI i))]) hx hb dX12_spread_35 rfl hl (by decide) rfl (fun ls hl => ?_)
          refine lv_iinc (v := nI (i + 1)) (lv' := [(3, .int (nI (i + 1))), (2, .int (q ||| 0)), (0, .ref m0), (1, .int x)]) hx hb dX12_spread_36 hl (k := 3) rfl (nI_add i 1) (by decide) rfl (fun ls hl => ?_)
          refine lv_goto (tgt := 4) hx hb dX12_spread_39 (by decide) ?_
          exact ih4 (i + 1) (q ||| 0) (by omega) (by omega) (sp_f hq9 c_2) ls (lv_sub hl [2, 3, 1, 0] rfl)
        · skip
          refine lv_aload_n hx hb dX12_spread_24 rfl (lv_at hl 0 rfl) ?_
          refine va_get (D := (dC, dI)) (ci := 14) (v := .ref aG) (C := RX12) (T := TX12) (N := 23) hx hb hts kc_mSpread_0 hown hK hP 0 rfl rfl 13 (by decide) (hts (.fieldLink RX12 25 "MistHeapsModel" "goes" "[I") kc_mSpread_2) (fun _ h9 => h9) rfl dX12_spread_25 ?_
          refine lv_iload_n hx hb dX12_spread_28 rfl (lv_at hl 3 rfl) ?_
          refine va_iald hx hb hK hP 2 1 rfl rfl (vp_in_nI (n := i) (N := 9) (by omega) (by omega)) dX12_spread_29 ?_
          refine qi_as (y := fG i) (by rw [nI_clamp (by omega)]) ?_
          refine lv_goto (tgt := 34) hx hb dX12_spread_30 (by decide) ?_
          refine lv_ior hx hb dX12_spread_34 ?_
          refine lv_istore_n (lv' := [(2, .int (q ||| (fG i))), (0, .ref m0), (1, .int x), (3, .int (nI i))]) hx hb dX12_spread_35 rfl hl (by decide) rfl (fun ls hl => ?_)
          refine lv_iinc (v := nI (i + 1)) (lv' := [(3, .int (nI (i + 1))), (2, .int (q ||| (fG i))), (0, .ref m0), (1, .int x)]) hx hb dX12_spread_36 hl (k := 3) rfl (nI_add i 1) (by decide) rfl (fun ls hl => ?_)
          refine lv_goto (tgt := 4) hx hb dX12_spread_39 (by decide) ?_
          exact ih4 (i + 1) (q ||| (fG i)) (by omega) (by omega) (sp_t hq9 c_2) ls (lv_sub hl [2, 3, 1, 0] rfl)
  exact L4 _ (0) (x) (Nat.lt_succ_self _) (by omega) (rfl) ls (lv_sub hl [2, 3, 1, 0] rfl)

set_option maxHeartbeats 4000000 in
set_option maxRecDepth 100000 in
theorem c_stepsBut (l : Launch) (dC : Nat → ClassId) (dI : Nat → Nat → Nat) (m0 aS aI aB aT aG aO aN aD aY : Nat) (th im ac sp en wg op se dn rn kd nu tv : Int32) (bv : Int64) (cS cG : ClassId) (fS : Nat → Int32) (fG : Nat → Int32) (n : Nat) (x y z : Int32) (zn : fS 0 = nI n) (hn : n ≤ 8) : Met l yX12_stepsBut wsX12_stepsBut ({ frames := 1, cells := 0, slots := 0, locals := 23 } : Room) (va_Pc [.ref m0, .int x, .int y, .int z] (fun U => va_P (dC, dI) vwCl [(zo14irriiiiiirriirrrrlriiii m0 th aS aI im ac sp en wg op aB aT se dn aG aO aN aD bv aY rn kd nu tv), (zaI aS cS 901 fS), (zaI aG cG 9 fG)] U.heap ∧ va_K (dC, dI) vwCl [(cS, .int), (cG, .int)] U)) (vp_Si (fun r => r = fsR fG n x y z)) 0 0 (fun _ => False) := by
  refine met_ofQ (cc := cX12_stepsBut) (maxL := 6) (ret := (some .int)) (by decide) rfl ?_
  intro p e s m args below meth c s₁ Q B hml hv hQ
  obtain ⟨rfl, hP, hK⟩ := hv
  have hx := B.exec
  have hb := B.bytes
  have hr := B.returns
  have hts := atoms_spec (ws := wsX12_stepsBut) B.pre
  have hown : s.vm.findClass RX12 = some m.cls := findClass_of_methodNamed B.named
  have hlocks := B.notSynchronized
  obtain ⟨A, hAe⟩ : ∃ A : Nat → Prop, A = fun _ => False := ⟨_, rfl⟩
  rw [← hAe] at hQ
  have hS : va_S A s.heap s.heap [] := va_S.rf
  have hl := lv_entry [.ref m0, .int x, .int y, .int z] (n := 6) (Nat.le_of_ble_eq_true rfl)
  rw [lg_entry_eq]
  generalize (lg_sl [.ref m0, .int x, .int y, .int z] ++ List.replicate (6 - (lg_sl [.ref m0, .int x, .int y, .int z]).length) Slot.unset).toArray = ls at hl ⊢
  generalize hag : ([.ref m0, .int x, .int y, .int z] : List Value).toArray = args at hts hQ ⊢
  have hl : lv_has ls 6 [(0, .ref m0), (1, .int x), (2, .int y), (3, .int z)] := hl
  refine lv_iconst (v := 1) hx hb dX12_stepsBut_0 (by decide) ?_
  refine lv_iload_n hx hb dX12_stepsBut_1 rfl (lv_at hl 1 rfl) ?_
  refine lv_ishl hx hb dX12_stepsBut_2 ?_
  refine lv_istore (lv' := [(4, .int (1 <<< (x &&& 31))), (0, .ref m0), (1, .int x), (2, .int y), (3, .int z)]) hx hb dX12_stepsBut_3 hl (by decide) rfl (fun ls hl => ?_)
  refine lv_iconst (v := 0) hx hb dX12_stepsBut_5 (by decide) ?_
  refine lv_istore (lv' := [(5, .int 0), (4, .int (1 <<< (x &&& 31))), (0, .ref m0), (1, .int x), (2, .int y), (3, .int z)]) hx hb dX12_stepsBut_6 hl (by decide) rfl (fun ls hl => ?_)
  have L8 : ∀ (nF : Nat) (i : Nat) (q : Int32), 10 - i < nF → (i ≤ 10) → (q = SI fG n x z i) → (fsR fG n x y z = fsF (SI fG n x z) y (10 - i) i) → ∀ (ls : Array Slot), lv_has ls 6 [(0, .ref m0), (1, .int x), (2, .int y), (3, .int z), (4, .int q), (5, .int (nI i))] → W p l e ({ frames := 1, cells := 0, slots := 0, locals := 23 } : Room) s m args below meth c s.heap [] 0 0 Q (F0 m 8 ls []) := by
    intro nF
    induction nF with
    | zero => intro i q hm; exact absurd hm (Nat.not_lt_zero _)
    | succ nF ih8 =>
      intro i q hm hi hq9 hf9 ls hl
      refine lv_iload hx hb dX12_stepsBut_8 (lv_at hl 5 rfl) ?_
      refine lv_bipush (v := 10) hx hb dX12_stepsBut_10 (by decide) ?_
      refine lv_icmp_ge (tgt := 46) hx hb dX12_stepsBut_12 (by decide) (fun c_1 => ?_) (fun c_1 => ?_)
      · skip
        have c_1 : 10 ≤ i := (nI_leI (a := 10) (b := i) (by omega) (by omega)).mp c_1
        refine lv_bipush (v := (-5)) hx hb dX12_stepsBut_46 (by decide) ?_
        rw [hQ]
        exact W.iret (v := (-5)) hx hb hr (fun tQ htQ hWQ => ⟨(-5), rfl, fs_end hf9 (by assumption), by rw [htQ]⟩) (fun q hq => absurd hq List.not_mem_nil) dX12_stepsBut_48
      · skip
        have c_1 : ¬ 10 ≤ i := fun q => c_1 ((nI_leI (a := 10) (b := i) (by omega) (by omega)).mpr q)
        refine lv_iload hx hb dX12_stepsBut_15 (lv_at hl 4 rfl) ?_
        refine lv_iload_n hx hb dX12_stepsBut_17 rfl (lv_at hl 2 rfl) ?_
        refine lv_ishr hx hb dX12_stepsBut_18 ?_
        refine lv_iconst (v := 1) hx hb dX12_stepsBut_19 (by decide) ?_
        refine lv_iand hx hb dX12_stepsBut_20 ?_
        refine lv_iconst (v := 1) hx hb dX12_stepsBut_21 (by decide) ?_
        refine lv_icmp_ne (tgt := 28) hx hb dX12_stepsBut_22 (by decide) (fun c_2 => ?_) (fun c_2 => ?_)
        · skip
          refine lv_aload_n hx hb dX12_stepsBut_28 rfl (lv_at hl 0 rfl) ?_
          refine lv_iload hx hb dX12_stepsBut_29 (lv_at hl 4 rfl) ?_
          have hPc := hP.sub (ws' := [(zo14irriiiiiirriirrrrlriiii m0 th aS aI im ac sp en wg op aB aT se dn aG aO aN aD bv aY rn kd nu tv), (zaI aS cS 901 fS), (zaI aG cG 9 fG)]) [0, 1, 2] rfl
          have hKc := hK.sub (tys' := [(cS, .int), (cG, .int)]) [0, 1] rfl
          refine vp_callSi (va_runV (As := [.int q]) (rest := []) ⟨hx, hb, hml, hown, hts⟩ (c_mSpread l dC dI m0 aS aI aB aT aG aO aN aD aY th im ac sp en wg op se dn rn kd nu tv bv cS cG fS fG n q (zn) (hn)) (cwV 1 hts gX12_stepsBut_X12_spread rfl rfl rfl hd_yX12_spread ⟨Nat.le_of_ble_eq_true rfl, Nat.le_of_ble_eq_true rfl⟩) ⟨fun a U g mk q => by obtain ⟨q0, qP, qK⟩ := q; exact ⟨q0, mvP g mk a qP, mvK g mk a qK⟩, va_recv hK hP (ci := 14) (q := (RX12, TX12, 23)) (q0 := 0) rfl rfl, fun U hU hW => ⟨rfl, by rw [hU]; exact hPc, va_K.moved hW.alike hKc⟩⟩ rfl rfl hl.1 rfl (lv_room (Nat.le_of_ble_eq_true rfl)) dX12_stepsBut_31 ⟨Nat.le_of_ble_eq_true rfl, Nat.le_of_ble_eq_true rfl⟩).run (fun r_3 hw_4 => ?_)
          obtain rfl := hw_4
          refine lv_iload_n hx hb dX12_stepsBut_34 rfl (lv_at hl 3 rfl) ?_
          refine lv_iconst (v := (-1)) hx hb dX12_stepsBut_35 (by decide) ?_
          refine lv_ixor hx hb dX12_stepsBut_36 ?_
          refine lv_iand hx hb dX12_stepsBut_37 ?_
          refine lv_istore (lv' := [(4, .int ((spI fG q n) &&& (z ^^^ (-1)))), (0, .ref m0), (1, .int x), (2, .int y), (3, .int z), (5, .int (nI i))]) hx hb dX12_stepsBut_38 hl (by decide) rfl (fun ls hl => ?_)
          refine lv_iinc (v := nI (i + 1)) (lv' := [(5, .int (nI (i + 1))), (4, .int ((spI fG q n) &&& (z ^^^ (-1)))), (0, .ref m0), (1, .int x), (2, .int y), (3, .int z)]) hx hb dX12_stepsBut_40 hl (k := 5) rfl (nI_add i 1) (by decide) rfl (fun ls hl => ?_)
          refine lv_goto (tgt := 8) hx hb dX12_stepsBut_43 (by decide) ?_
          exact ih8 (i + 1) ((spI fG q n) &&& (z ^^^ (-1))) (by omega) (by omega) (by rw [hq9]; rfl) (fs_next hf9 (by assumption) hq9 c_2) ls (lv_sub hl [2, 3, 4, 5, 1, 0] rfl)
        · skip
          refine lv_iload hx hb dX12_stepsBut_25 (lv_at hl 5 rfl) ?_
          rw [hQ]
          exact W.iret (v := nI i) hx hb hr (fun tQ htQ hWQ => ⟨nI i, rfl, fs_hit hf9 (by assumption) hq9 c_2, by rw [htQ]⟩) (fun q hq => absurd hq List.not_mem_nil) dX12_stepsBut_27
  exact L8 _ (0) (1 <<< (x &&& 31)) (Nat.lt_succ_self _) (by omega) (rfl) (rfl) ls (lv_sub hl [2, 3, 4, 5, 1, 0] rfl)

set_option maxHeartbeats 4000000 in
set_option maxRecDepth 100000 in
theorem c_stepsOf (l : Launch) (dC : Nat → ClassId) (dI : Nat → Nat → Nat) (m0 aS aI aB aT aG aO aN aD aY : Nat) (th im ac sp en wg op se dn rn kd nu tv : Int32) (bv : Int64) (cS cB cT cG : ClassId) (fS : Nat → Int32) (fB : Nat → Int32) (fT : Nat → Int32) (fG : Nat → Int32) (n : Nat) (x y : Int32) (cz : List pCla) (sz : Nat) (zn : fS 0 = nI n) (hn : n ≤ 8) (zh : hol fS cz) : Met l yX12_stepsOf wsX12_stepsOf ({ frames := 5, cells := 0, slots := 0, locals := 125 } : Room) (va_Pc [.ref m0, .int x, .int y] (fun U => U.heap.size = sz ∧ va_P (dC, dI) vwCl [(zo14irriiiiiirriirrrrlriiii m0 th aS aI im ac sp en wg op aB aT se dn aG aO aN aD bv aY rn kd nu tv), (zaI aS cS 901 fS), (zaI aB cB 6 fB), (zaI aT cT 64 fT), (zaI aG cG 9 fG)] U.heap ∧ va_K (dC, dI) vwCl [(cS, .int), (cB, .int), (cT, .boolean), (cG, .int)] U ∧ va_D (fun _ => True) [(zo14irriiiiiirriirrrrlriiii m0 th aS aI im ac sp en wg op aB aT se dn aG aO aN aD bv aY rn kd nu tv), (zaI aS cS 901 fS), (zaI aB cB 6 fB), (zaI aT cT 64 fT), (zaI aG cG 9 fG)])) (va_Qi (fun (r : Int32) (u : (Nat → Int32) × (Nat → Int32) × (Int32) × (Int32) × (Nat → Int32)) => match u with | (fB9, fT9, se9, dn9, fG9) => (∀ k, k < n → fG9 k = gbI (goF fS cz k) n) ∧ r = fsR fG9 n x y 0) (fun (u : (Nat → Int32) × (Nat → Int32) × (Int32) × (Int32) × (Nat → Int32)) (t : State) => match u with | (fB9, fT9, se9, dn9, fG9) => va_P (dC, dI) vwCl [(zo14irriiiiiirriirrrrlriiii m0 th aS aI im ac sp en wg op aB aT se9 dn9 aG aO aN aD bv aY rn kd nu tv), (zaI aS cS 901 fS), (zaI aB cB 6 fB9), (zaI aT cT 64 fT9), (zaI aG cG 9 fG9)] t.heap ∧ va_K (dC, dI) vwCl [(cS, .int), (cB, .int), (cT, .boolean), (cG, .int)] t ∧ va_D (va_A [(zo14irriiiiiirriirrrrlriiii m0 th aS aI im ac sp en wg op aB aT se dn aG aO aN aD bv aY rn kd nu tv), (zaI aS cS 901 fS), (zaI aB cB 6 fB), (zaI aT cT 64 fT), (zaI aG cG 9 fG)] sz) [(zo14irriiiiiirriirrrrlriiii m0 th aS aI im ac sp en wg op aB aT se9 dn9 aG aO aN aD bv aY rn kd nu tv), (zaI aS cS 901 fS), (zaI aB cB 6 fB9), (zaI aT cT 64 fT9), (zaI aG cG 9 fG9)]) (va_A [(zo14irriiiiiirriirrrrlriiii m0 th aS aI im ac sp en wg op aB aT se dn aG aO aN aD bv aY rn kd nu tv), (zaI aS cS 901 fS), (zaI aB cB 6 fB), (zaI aT cT 64 fT), (zaI aG cG 9 fG)] sz)) 0 0 (va_A [(zo14irriiiiiirriirrrrlriiii m0 th aS aI im ac sp en wg op aB aT se dn aG aO aN aD bv aY rn kd nu tv), (zaI aS cS 901 fS), (zaI aB cB 6 fB), (zaI aT cT 64 fT), (zaI aG cG 9 fG)] sz) := by
  refine met_ofQ (cc := cX12_stepsOf) (maxL := 3) (ret := (some .int)) (by decide) rfl ?_
  intro p e s m args below meth c s₁ Q B hml hv hQ
  obtain ⟨rfl, hsz, hP, hK, hD0⟩ := hv
  have hx := B.exec
  have hb := B.bytes
  have hr := B.returns
  have hts := atoms_spec (ws := wsX12_stepsOf) B.pre
  have hown : s.vm.findClass RX12 = some m.cls := findClass_of_methodNamed B.named
  have hlocks := B.notSynchronized
  subst hsz
  have hD := hD0.self (sz := s.heap.size)
  generalize hAe : va_A [(zo14irriiiiiirriirrrrlriiii m0 th aS aI im ac sp en wg op aB aT se dn aG aO aN aD bv aY rn kd nu tv), (zaI aS cS 901 fS), (zaI aB cB 6 fB), (zaI aT cT 64 fT), (zaI aG cG 9 fG)] s.heap.size = A at hD hQ ⊢
  have hA : ∀ q : Nat, s.heap.size ≤ q → A q := fun q h => by rw [← hAe]; exact Or.inr h
  have hS : va_S A s.heap s.heap [] := va_S.rf
  have hl := lv_entry [.ref m0, .int x, .int y] (n := 3) (Nat.le_of_ble_eq_true rfl)
  rw [lg_entry_eq]
  generalize (lg_sl [.ref m0, .int x, .int y] ++ List.replicate (3 - (lg_sl [.ref m0, .int x, .int y]).length) Slot.unset).toArray = ls at hl ⊢
  generalize hag : ([.ref m0, .int x, .int y] : List Value).toArray = args at hts hQ ⊢
  have hl : lv_has ls 3 [(0, .ref m0), (1, .int x), (2, .int y)] := hl
  obtain ⟨H, hH⟩ : ∃ H : Heap, H = s.heap := ⟨_, rfl⟩
  rw [← hH] at hP
  rw [← hH]
  have hS : va_S A s.heap H [] := by rw [hH]; exact hS
  obtain ⟨locs, hlo⟩ : ∃ L : List Loc, L = [] := ⟨_, rfl⟩
  rw [← hlo] at hS
  rw [← hlo]
  clear hH hlo
  refine lv_aload_n hx hb dX12_stepsOf_0 rfl (lv_at hl 0 rfl) ?_
  have hPc := hP.sub (ws' := [(zo14irriiiiiirriirrrrlriiii m0 th aS aI im ac sp en wg op aB aT se dn aG aO aN aD bv aY rn kd nu tv), (zaI aS cS 901 fS), (zaI aB cB 6 fB), (zaI aT cT 64 fT), (zaI aG cG 9 fG)]) [0, 1, 2, 3, 4] rfl
  have hDc := hD.sub (ws' := [(zo14irriiiiiirriirrrrlriiii m0 th aS aI im ac sp en wg op aB aT se dn aG aO aN aD bv aY rn kd nu tv), (zaI aS cS 901 fS), (zaI aB cB 6 fB), (zaI aT cT 64 fT), (zaI aG cG 9 fG)]) [0, 1, 2, 3, 4] (by decide) rfl
  have hKc := hK.sub (tys' := [(cS, .int), (cB, .int), (cT, .boolean), (cG, .int)]) [0, 1, 2, 3] rfl
  have hFc := va_free (wc := [(zo14irriiiiiirriirrrrlriiii m0 th aS aI im ac sp en wg op aB aT se dn aG aO aN aD bv aY rn kd nu tv), (zaI aS cS 901 fS), (zaI aB cB 6 fB), (zaI aT cT 64 fT), (zaI aG cG 9 fG)]) hD hS hA [0, 1, 2, 3, 4] rfl
  refine va_callv (va_runV (As := []) (rest := []) ⟨hx, hb, hml, hown, hts⟩ (c_goings l dC dI m0 aS aI aB aT aG aO aN aD aY th im ac sp en wg op se dn rn kd nu tv bv cS cB cT cG fS fB fT fG n cz H.size (zn) (hn) (zh)) (cwV 0 hts gX12_stepsOf_X12_looksForGoings rfl rfl rfl hd_yX12_looksForGoings ⟨Nat.le_of_ble_eq_true rfl, Nat.le_of_ble_eq_true rfl⟩) ⟨fun a U g mk q => by obtain ⟨q0, q1, qP, qK, qD⟩ := q; exact ⟨q0, mvz g mk a q1, mvP g mk a qP, mvK g mk a qK, qD⟩, va_recv hK hP (ci := 14) (q := (RX12, TX12, 23)) (q0 := 0) rfl rfl, fun U hU hW => ⟨rfl, by rw [hU], by rw [hU]; exact hPc, va_K.moved hW.alike hKc, hDc.weaken (fun _ _ _ _ => trivial)⟩⟩ rfl rfl hl.1 rfl (lv_room (Nat.le_of_ble_eq_true rfl)) dX12_stepsOf_1 ⟨Nat.le_of_ble_eq_true rfl, Nat.le_of_ble_eq_true rfl⟩) hS (fun q _ h => hFc q h) hFc (fun u tC H1 locs htC hvm hw_2 hB hz1 hk1 hS => ?_)
  obtain ⟨fB9_3, fT9_4, se9_5, dn9_6, fG9_7⟩ := u
  try dsimp only at hw_2 hB
  obtain ⟨hP1, hK1, hD1⟩ := hB
  rw [htC] at hP1
  have hK1 := va_K.moved hvm.symm hK1
  obtain ⟨hP, hD⟩ := va_join (wr := []) (w1 := [(zo14irriiiiiirriirrrrlriiii m0 th aS aI im ac sp en wg op aB aT se9_5 dn9_6 aG aO aN aD bv aY rn kd nu tv), (zaI aS cS 901 fS), (zaI aB cB 6 fB9_3), (zaI aT cT 64 fT9_4), (zaI aG cG 9 fG9_7)]) hP hD [0, 1, 2, 3, 4] [] rfl rfl (by decide) (by decide) hk1 hFc hP1 hD1
  have hK := (hK.sub (tys' := []) [] rfl).app hK1
  generalize H1 = H at hP hS ⊢
  have hP : va_P (dC, dI) vwCl [(zo14irriiiiiirriirrrrlriiii m0 th aS aI im ac sp en wg op aB aT se9_5 dn9_6 aG aO aN aD bv aY rn kd nu tv), (zaI aS cS 901 fS), (zaI aB cB 6 fB9_3), (zaI aT cT 64 fT9_4), (zaI aG cG 9 fG9_7)] H := hP
  have hD : va_D A [(zo14irriiiiiirriirrrrlriiii m0 th aS aI im ac sp en wg op aB aT se9_5 dn9_6 aG aO aN aD bv aY rn kd nu tv), (zaI aS cS 901 fS), (zaI aB cB 6 fB9_3), (zaI aT cT 64 fT9_4), (zaI aG cG 9 fG9_7)] := hD
  have hK : va_K (dC, dI) vwCl [(cS, .int), (cB, .int), (cT, .boolean), (cG, .int)] s := hK
  refine lv_aload_n hx hb dX12_stepsOf_4 rfl (lv_at hl 0 rfl) ?_
  refine lv_iload_n hx hb dX12_stepsOf_5 rfl (lv_at hl 1 rfl) ?_
  refine lv_iload_n hx hb dX12_stepsOf_6 rfl (lv_at hl 2 rfl) ?_
  refine lv_iconst (v := 0) hx hb dX12_stepsOf_7 (by decide) ?_
  have hPc := hP.sub (ws' := [(zo14irriiiiiirriirrrrlriiii m0 th aS aI im ac sp en wg op aB aT se9_5 dn9_6 aG aO aN aD bv aY rn kd nu tv), (zaI aS cS 901 fS), (zaI aG cG 9 fG9_7)]) [0, 1, 4] rfl
  have hKc := hK.sub (tys' := [(cS, .int), (cG, .int)]) [0, 3] rfl
  refine vp_callSi (va_runV (As := [.int x, .int y, .int 0]) (rest := []) ⟨hx, hb, hml, hown, hts⟩ (c_stepsBut l dC dI m0 aS aI aB aT aG aO aN aD aY th im ac sp en wg op se9_5 dn9_6 rn kd nu tv bv cS cG fS fG9_7 n x y 0 (zn) (hn)) (cwV 3 hts gX12_stepsOf_X12_stepsBut rfl rfl rfl hd_yX12_stepsBut ⟨Nat.le_of_ble_eq_true rfl, Nat.le_of_ble_eq_true rfl⟩) ⟨fun a U g mk q => by obtain ⟨q0, qP, qK⟩ := q; exact ⟨q0, mvP g mk a qP, mvK g mk a qK⟩, va_recv hK hP (ci := 14) (q := (RX12, TX12, 23)) (q0 := 0) rfl rfl, fun U hU hW => ⟨rfl, by rw [hU]; exact hPc, va_K.moved hW.alike hKc⟩⟩ rfl rfl hl.1 rfl (lv_room (Nat.le_of_ble_eq_true rfl)) dX12_stepsOf_8 ⟨Nat.le_of_ble_eq_true rfl, Nat.le_of_ble_eq_true rfl⟩).run (fun r_8 hw_9 => ?_)
  obtain rfl := hw_9
  rw [hQ]
  have hP9 := hP.sub (ws' := [(zo14irriiiiiirriirrrrlriiii m0 th aS aI im ac sp en wg op aB aT se9_5 dn9_6 aG aO aN aD bv aY rn kd nu tv), (zaI aS cS 901 fS), (zaI aB cB 6 fB9_3), (zaI aT cT 64 fT9_4), (zaI aG cG 9 fG9_7)]) [0, 1, 2, 3, 4] rfl
  have hD9 := hD.sub (ws' := [(zo14irriiiiiirriirrrrlriiii m0 th aS aI im ac sp en wg op aB aT se9_5 dn9_6 aG aO aN aD bv aY rn kd nu tv), (zaI aS cS 901 fS), (zaI aB cB 6 fB9_3), (zaI aT cT 64 fT9_4), (zaI aG cG 9 fG9_7)]) [0, 1, 2, 3, 4] (by decide) rfl
  have hK9 := hK.sub (tys' := [(cS, .int), (cB, .int), (cT, .boolean), (cG, .int)]) [0, 1, 2, 3] rfl
  exact W.iret (v := fsR fG9_7 n x y 0) hx hb hr (fun tQ htQ hWQ => ⟨⟨(fsR fG9_7 n x y 0), (fB9_3, fT9_4, se9_5, dn9_6, fG9_7), rfl, ⟨hw_2, rfl⟩, by rw [htQ]; exact hP9, va_K.moved hWQ.alike hK9, hD9⟩, hS.F htQ⟩) hS.2.2 dX12_stepsOf_11

set_option maxHeartbeats 4000000 in
set_option maxRecDepth 100000 in
theorem c_mSteps (l : Launch) (dC : Nat → ClassId) (dI : Nat → Nat → Nat) (m0 aS aI aB aT aG aO aN aD aY : Nat) (th im ac sp en wg op se dn rn kd nu tv : Int32) (bv : Int64) (cS cB cT cG : ClassId) (fS : Nat → Int32) (fB : Nat → Int32) (fT : Nat → Int32) (fG : Nat → Int32) (n : Nat) (yk yv yc : Nat → Int32) (mi sn : Int32) (x y : Int32) (cz : List pCla) (sz : Nat) (zn : fS 0 = nI n) (hn : n ≤ 8) (zh : hol fS cz) (zkd : ∀ k, k < n → fS (10 + k) = yk k) (zvv : ∀ k, k < n → fS (19 + k) = yv k) (zc : ∀ k, k < n → fS (28 + k) = yc k) (zmi : fS 6 = mi) (zsn : fS 7 = sn) : Met l yX12_steps wsX12_steps ({ frames := 6, cells := 0, slots := 0, locals := 147 } : Room) (va_Pc [.ref m0, .int x, .int y] (fun U => U.heap.size = sz ∧ va_P (dC, dI) vwCl [(zo14irriiiiiirriirrrrlriiii m0 th aS aI im ac sp en wg op aB aT se dn aG aO aN aD bv aY rn kd nu tv), (zaI aS cS 901 fS), (zaI aB cB 6 fB), (zaI aT cT 64 fT), (zaI aG cG 9 fG)] U.heap ∧ va_K (dC, dI) vwCl [(cS, .int), (cB, .int), (cT, .boolean), (cG, .int)] U ∧ va_D (fun _ => True) [(zo14irriiiiiirriirrrrlriiii m0 th aS aI im ac sp en wg op aB aT se dn aG aO aN aD bv aY rn kd nu tv), (zaI aS cS 901 fS), (zaI aB cB 6 fB), (zaI aT cT 64 fT), (zaI aG cG 9 fG)])) (va_Qi (fun (r : Int32) (u : (Nat → Int32) × (Nat → Int32) × (Int32) × (Int32) × (Nat → Int32)) => match u with | (fB9, fT9, se9, dn9, fG9) => r = stR_ n yk yv yc cz mi sn x y) (fun (u : (Nat → Int32) × (Nat → Int32) × (Int32) × (Int32) × (Nat → Int32)) (t : State) => match u with | (fB9, fT9, se9, dn9, fG9) => va_P (dC, dI) vwCl [(zo14irriiiiiirriirrrrlriiii m0 th aS aI im ac sp en wg op aB aT se9 dn9 aG aO aN aD bv aY rn kd nu tv), (zaI aS cS 901 fS), (zaI aB cB 6 fB9), (zaI aT cT 64 fT9), (zaI aG cG 9 fG9)] t.heap ∧ va_K (dC, dI) vwCl [(cS, .int), (cB, .int), (cT, .boolean), (cG, .int)] t ∧ va_D (va_A [(zo14irriiiiiirriirrrrlriiii m0 th aS aI im ac sp en wg op aB aT se dn aG aO aN aD bv aY rn kd nu tv), (zaI aS cS 901 fS), (zaI aB cB 6 fB), (zaI aT cT 64 fT), (zaI aG cG 9 fG)] sz) [(zo14irriiiiiirriirrrrlriiii m0 th aS aI im ac sp en wg op aB aT se9 dn9 aG aO aN aD bv aY rn kd nu tv), (zaI aS cS 901 fS), (zaI aB cB 6 fB9), (zaI aT cT 64 fT9), (zaI aG cG 9 fG9)]) (va_A [(zo14irriiiiiirriirrrrlriiii m0 th aS aI im ac sp en wg op aB aT se dn aG aO aN aD bv aY rn kd nu tv), (zaI aS cS 901 fS), (zaI aB cB 6 fB), (zaI aT cT 64 fT), (zaI aG cG 9 fG)] sz)) 0 0 (va_A [(zo14irriiiiiirriirrrrlriiii m0 th aS aI im ac sp en wg op aB aT se dn aG aO aN aD bv aY rn kd nu tv), (zaI aS cS 901 fS), (zaI aB cB 6 fB), (zaI aT cT 64 fT), (zaI aG cG 9 fG)] sz) := by
  refine met_ofQ (cc := cX12_steps) (maxL := 3) (ret := (some .int)) (by decide) rfl ?_
  intro p e s m args below meth c s₁ Q B hml hv hQ
  obtain ⟨rfl, hsz, hP, hK, hD0⟩ := hv
  have hx := B.exec
  have hb := B.bytes
  have hr := B.returns
  have hts := atoms_spec (ws := wsX12_steps) B.pre
  have hown : s.vm.findClass RX12 = some m.cls := findClass_of_methodNamed B.named
  have hlocks := B.notSynchronized
  subst hsz
  have hD := hD0.self (sz := s.heap.size)
  generalize hAe : va_A [(zo14irriiiiiirriirrrrlriiii m0 th aS aI im ac sp en wg op aB aT se dn aG aO aN aD bv aY rn kd nu tv), (zaI aS cS 901 fS), (zaI aB cB 6 fB), (zaI aT cT 64 fT), (zaI aG cG 9 fG)] s.heap.size = A at hD hQ ⊢
  have hA : ∀ q : Nat, s.heap.size ≤ q → A q := fun q h => by rw [← hAe]; exact Or.inr h
  have hS : va_S A s.heap s.heap [] := va_S.rf
  have hl := lv_entry [.ref m0, .int x, .int y] (n := 3) (Nat.le_of_ble_eq_true rfl)
  rw [lg_entry_eq]
  generalize (lg_sl [.ref m0, .int x, .int y] ++ List.replicate (3 - (lg_sl [.ref m0, .int x, .int y]).length) Slot.unset).toArray = ls at hl ⊢
  generalize hag : ([.ref m0, .int x, .int y] : List Value).toArray = args at hts hQ ⊢
  have hl : lv_has ls 3 [(0, .ref m0), (1, .int x), (2, .int y)] := hl
  obtain ⟨H, hH⟩ : ∃ H : Heap, H = s.heap := ⟨_, rfl⟩
  rw [← hH] at hP
  rw [← hH]
  have hS : va_S A s.heap H [] := by rw [hH]; exact hS
  obtain ⟨locs, hlo⟩ : ∃ L : List Loc, L = [] := ⟨_, rfl⟩
  rw [← hlo] at hS
  rw [← hlo]
  clear hH hlo
  refine lv_aload_n hx hb dX12_steps_0 rfl (lv_at hl 0 rfl) ?_
  refine lv_iload_n hx hb dX12_steps_1 rfl (lv_at hl 1 rfl) ?_
  have hPc := hP.sub (ws' := [(zo14irriiiiiirriirrrrlriiii m0 th aS aI im ac sp en wg op aB aT se dn aG aO aN aD bv aY rn kd nu tv), (zaI aS cS 901 fS)]) [0, 1] rfl
  have hKc := hK.sub (tys' := [(cS, .int)]) [0] rfl
  refine vp_callSi (va_runV (As := [.int x]) (rest := []) ⟨hx, hb, hml, hown, hts⟩ (c_isHeap l dC dI m0 aS aI aB aT aG aO aN aD aY th im ac sp en wg op se dn rn kd nu tv bv cS fS n x (zn) (hn)) (cwV 1 hts gX12_steps_X12_isHeap rfl rfl rfl hd_yX12_isHeap ⟨Nat.le_of_ble_eq_true rfl, Nat.le_of_ble_eq_true rfl⟩) ⟨fun a U g mk q => by obtain ⟨q0, qP, qK⟩ := q; exact ⟨q0, mvP g mk a qP, mvK g mk a qK⟩, va_recv hK hP (ci := 14) (q := (RX12, TX12, 23)) (q0 := 0) rfl rfl, fun U hU hW => ⟨rfl, by rw [hU]; exact hPc, va_K.moved hW.alike hKc⟩⟩ rfl rfl hl.1 rfl (lv_room (Nat.le_of_ble_eq_true rfl)) dX12_steps_2 ⟨Nat.le_of_ble_eq_true rfl, Nat.le_of_ble_eq_true rfl⟩).run (fun r_1 hw_2 => ?_)
  rcases hw_2 with ⟨rfl, j_3, hj_4, rfl⟩ | ⟨rfl, h_5⟩
  · skip
    refine lv_if_eq (tgt := 25) hx hb dX12_steps_5 (by decide) (fun c_6 => absurd c_6 (by decide)) (fun _ => ?_)
    refine lv_aload_n hx hb dX12_steps_8 rfl (lv_at hl 0 rfl) ?_
    refine lv_iload_n hx hb dX12_steps_9 rfl (lv_at hl 2 rfl) ?_
    have hPc := hP.sub (ws' := [(zo14irriiiiiirriirrrrlriiii m0 th aS aI im ac sp en wg op aB aT se dn aG aO aN aD bv aY rn kd nu tv), (zaI aS cS 901 fS)]) [0, 1] rfl
    have hKc := hK.sub (tys' := [(cS, .int)]) [0] rfl
    refine vp_callSi (va_runV (As := [.int y]) (rest := []) ⟨hx, hb, hml, hown, hts⟩ (c_isHeap l dC dI m0 aS aI aB aT aG aO aN aD aY th im ac sp en wg op se dn rn kd nu tv bv cS fS n y (zn) (hn)) (cwV 1 hts gX12_steps_X12_isHeap rfl rfl rfl hd_yX12_isHeap ⟨Nat.le_of_ble_eq_true rfl, Nat.le_of_ble_eq_true rfl⟩) ⟨fun a U g mk q => by obtain ⟨q0, qP, qK⟩ := q; exact ⟨q0, mvP g mk a qP, mvK g mk a qK⟩, va_recv hK hP (ci := 14) (q := (RX12, TX12, 23)) (q0 := 0) rfl rfl, fun U hU hW => ⟨rfl, by rw [hU]; exact hPc, va_K.moved hW.alike hKc⟩⟩ rfl rfl hl.1 rfl (lv_room (Nat.le_of_ble_eq_true rfl)) dX12_steps_10 ⟨Nat.le_of_ble_eq_true rfl, Nat.le_of_ble_eq_true rfl⟩).run (fun r_7 hw_8 => ?_)
    rcases hw_8 with ⟨rfl, j_9, hj_10, rfl⟩ | ⟨rfl, h_11⟩
    · skip
      refine lv_if_eq (tgt := 25) hx hb dX12_steps_13 (by decide) (fun c_12 => absurd c_12 (by decide)) (fun _ => ?_)
      refine lv_aload_n hx hb dX12_steps_16 rfl (lv_at hl 0 rfl) ?_
      refine lv_iload_n hx hb dX12_steps_17 rfl (lv_at hl 1 rfl) ?_
      refine lv_iload_n hx hb dX12_steps_18 rfl (lv_at hl 2 rfl) ?_
      have hPc := hP.sub (ws' := [(zo14irriiiiiirriirrrrlriiii m0 th aS aI im ac sp en wg op aB aT se dn aG aO aN aD bv aY rn kd nu tv), (zaI aS cS 901 fS), (zaI aB cB 6 fB), (zaI aT cT 64 fT), (zaI aG cG 9 fG)]) [0, 1, 2, 3, 4] rfl
      have hDc := hD.sub (ws' := [(zo14irriiiiiirriirrrrlriiii m0 th aS aI im ac sp en wg op aB aT se dn aG aO aN aD bv aY rn kd nu tv), (zaI aS cS 901 fS), (zaI aB cB 6 fB), (zaI aT cT 64 fT), (zaI aG cG 9 fG)]) [0, 1, 2, 3, 4] (by decide) rfl
      have hKc := hK.sub (tys' := [(cS, .int), (cB, .int), (cT, .boolean), (cG, .int)]) [0, 1, 2, 3] rfl
      have hFc := va_free (wc := [(zo14irriiiiiirriirrrrlriiii m0 th aS aI im ac sp en wg op aB aT se dn aG aO aN aD bv aY rn kd nu tv), (zaI aS cS 901 fS), (zaI aB cB 6 fB), (zaI aT cT 64 fT), (zaI aG cG 9 fG)]) hD hS hA [0, 1, 2, 3, 4] rfl
      refine va_calli (va_runV (As := [.int (nI j_3), .int (nI j_9)]) (rest := []) ⟨hx, hb, hml, hown, hts⟩ (c_stepsOf l dC dI m0 aS aI aB aT aG aO aN aD aY th im ac sp en wg op se dn rn kd nu tv bv cS cB cT cG fS fB fT fG n (nI j_3) (nI j_9) cz H.size (zn) (hn) (zh)) (cwV 2 hts gX12_steps_X12_stepsOf rfl rfl rfl hd_yX12_stepsOf ⟨Nat.le_of_ble_eq_true rfl, Nat.le_of_ble_eq_true rfl⟩) ⟨fun a U g mk q => by obtain ⟨q0, q1, qP, qK, qD⟩ := q; exact ⟨q0, mvz g mk a q1, mvP g mk a qP, mvK g mk a qK, qD⟩, va_recv hK hP (ci := 14) (q := (RX12, TX12, 23)) (q0 := 0) rfl rfl, fun U hU hW => ⟨rfl, by rw [hU], by rw [hU]; exact hPc, va_K.moved hW.alike hKc, hDc.weaken (fun _ _ _ _ => trivial)⟩⟩ rfl rfl hl.1 rfl (lv_room (Nat.le_of_ble_eq_true rfl)) dX12_steps_19 ⟨Nat.le_of_ble_eq_true rfl, Nat.le_of_ble_eq_true rfl⟩) hS (fun q _ h => hFc q h) hFc (fun r_13 u tC H1 locs htC hvm hw_14 hB hz1 hk1 hS => ?_)
      obtain ⟨fB9_15, fT9_16, se9_17, dn9_18, fG9_19⟩ := u
      try dsimp only at hw_14 hB
      obtain ⟨hP1, hK1, hD1⟩ := hB
      rw [htC] at hP1
      have hK1 := va_K.moved hvm.symm hK1
      obtain ⟨hP, hD⟩ := va_join (wr := []) (w1 := [(zo14irriiiiiirriirrrrlriiii m0 th aS aI im ac sp en wg op aB aT se9_17 dn9_18 aG aO aN aD bv aY rn kd nu tv), (zaI aS cS 901 fS), (zaI aB cB 6 fB9_15), (zaI aT cT 64 fT9_16), (zaI aG cG 9 fG9_19)]) hP hD [0, 1, 2, 3, 4] [] rfl rfl (by decide) (by decide) hk1 hFc hP1 hD1
      have hK := (hK.sub (tys' := []) [] rfl).app hK1
      generalize H1 = H at hP hS ⊢
      have hP : va_P (dC, dI) vwCl [(zo14irriiiiiirriirrrrlriiii m0 th aS aI im ac sp en wg op aB aT se9_17 dn9_18 aG aO aN aD bv aY rn kd nu tv), (zaI aS cS 901 fS), (zaI aB cB 6 fB9_15), (zaI aT cT 64 fT9_16), (zaI aG cG 9 fG9_19)] H := hP
      have hD : va_D A [(zo14irriiiiiirriirrrrlriiii m0 th aS aI im ac sp en wg op aB aT se9_17 dn9_18 aG aO aN aD bv aY rn kd nu tv), (zaI aS cS 901 fS), (zaI aB cB 6 fB9_15), (zaI aT cT 64 fT9_16), (zaI aG cG 9 fG9_19)] := hD
      have hK : va_K (dC, dI) vwCl [(cS, .int), (cB, .int), (cT, .boolean), (cG, .int)] s := hK
      obtain ⟨hs1, rfl⟩ := hw_14
      refine lv_goto (tgt := 26) hx hb dX12_steps_22 (by decide) ?_
      rw [hQ]
      have hP9 := hP.sub (ws' := [(zo14irriiiiiirriirrrrlriiii m0 th aS aI im ac sp en wg op aB aT se9_17 dn9_18 aG aO aN aD bv aY rn kd nu tv), (zaI aS cS 901 fS), (zaI aB cB 6 fB9_15), (zaI aT cT 64 fT9_16), (zaI aG cG 9 fG9_19)]) [0, 1, 2, 3, 4] rfl
      have hD9 := hD.sub (ws' := [(zo14irriiiiiirriirrrrlriiii m0 th aS aI im ac sp en wg op aB aT se9_17 dn9_18 aG aO aN aD bv aY rn kd nu tv), (zaI aS cS 901 fS), (zaI aB cB 6 fB9_15), (zaI aT cT 64 fT9_16), (zaI aG cG 9 fG9_19)]) [0, 1, 2, 3, 4] (by decide) rfl
      have hK9 := hK.sub (tys' := [(cS, .int), (cB, .int), (cT, .boolean), (cG, .int)]) [0, 1, 2, 3] rfl
      exact W.iret (v := fsR fG9_19 n (nI j_3) (nI j_9) 0) hx hb hr (fun tQ htQ hWQ => ⟨⟨(fsR fG9_19 n (nI j_3) (nI j_9) 0), (fB9_15, fT9_16, se9_17, dn9_18, fG9_19), rfl, st_m hn (by omega) (by omega) (row_m hs1 zkd zvv zc zmi zsn), by rw [htQ]; exact hP9, va_K.moved hWQ.alike hK9, hD9⟩, hS.F htQ⟩) hS.2.2 dX12_steps_26
    · skip
      refine lv_if_eq (tgt := 25) hx hb dX12_steps_13 (by decide) (fun _ => ?_) (fun c_20 => absurd c_20 (by decide))
      refine lv_iconst (v := (-1)) hx hb dX12_steps_25 (by decide) ?_
      rw [hQ]
      have hP9 := hP.sub (ws' := [(zo14irriiiiiirriirrrrlriiii m0 th aS aI im ac sp en wg op aB aT se dn aG aO aN aD bv aY rn kd nu tv), (zaI aS cS 901 fS), (zaI aB cB 6 fB), (zaI aT cT 64 fT), (zaI aG cG 9 fG)]) [0, 1, 2, 3, 4] rfl
      have hD9 := hD.sub (ws' := [(zo14irriiiiiirriirrrrlriiii m0 th aS aI im ac sp en wg op aB aT se dn aG aO aN aD bv aY rn kd nu tv), (zaI aS cS 901 fS), (zaI aB cB 6 fB), (zaI aT cT 64 fT), (zaI aG cG 9 fG)]) [0, 1, 2, 3, 4] (by decide) rfl
      have hK9 := hK.sub (tys' := [(cS, .int), (cB, .int), (cT, .boolean), (cG, .int)]) [0, 1, 2, 3] rfl
      exact W.iret (v := (-1)) hx hb hr (fun tQ htQ hWQ => ⟨⟨(-1), (fB, fT, se, dn, fG), rfl, by first | exact two_no1 (by assumption) | exact two_no2 (by assumption), by rw [htQ]; exact hP9, va_K.moved hWQ.alike hK9, hD9⟩, hS.F htQ⟩) hS.2.2 dX12_steps_26
  · skip
    refine lv_if_eq (tgt := 25) hx hb dX12_steps_5 (by decide) (fun _ => ?_) (fun c_21 => absurd c_21 (by decide))
    refine lv_iconst (v := (-1)) hx hb dX12_steps_25 (by decide) ?_
    rw [hQ]
    have hP9 := hP.sub (ws' := [(zo14irriiiiiirriirrrrlriiii m0 th aS aI im ac sp en wg op aB aT se dn aG aO aN aD bv aY rn kd nu tv), (zaI aS cS 901 fS), (zaI aB cB 6 fB), (zaI aT cT 64 fT), (zaI aG cG 9 fG)]) [0, 1, 2, 3, 4] rfl
    have hD9 := hD.sub (ws' := [(zo14irriiiiiirriirrrrlriiii m0 th aS aI im ac sp en wg op aB aT se dn aG aO aN aD bv aY rn kd nu tv), (zaI aS cS 901 fS), (zaI aB cB 6 fB), (zaI aT cT 64 fT), (zaI aG cG 9 fG)]) [0, 1, 2, 3, 4] (by decide) rfl
    have hK9 := hK.sub (tys' := [(cS, .int), (cB, .int), (cT, .boolean), (cG, .int)]) [0, 1, 2, 3] rfl
    exact W.iret (v := (-1)) hx hb hr (fun tQ htQ hWQ => ⟨⟨(-1), (fB, fT, se, dn, fG), rfl, by first | exact two_no1 (by assumption) | exact two_no2 (by assumption), by rw [htQ]; exact hP9, va_K.moved hWQ.alike hK9, hD9⟩, hS.F htQ⟩) hS.2.2 dX12_steps_26

theorem kc_mVia_0 : ∀ w ∈ wsX120, w ∈ wsX12_via := fun w h => List.mem_cons_of_mem _ (gin_wsX120 w h)
theorem kc_mVia_1 : (.fieldLink RX12 9 "MistHeapsModel" "s" "[I" : Cond) ∈ wsX12_via := kc_of 1141 rfl rfl rfl
theorem kc_mVia_2 : (.fieldLink RX12 25 "MistHeapsModel" "goes" "[I" : Cond) ∈ wsX12_via := kc_of 1153 rfl rfl rfl
set_option maxHeartbeats 4000000 in
set_option maxRecDepth 100000 in
theorem c_mVia (l : Launch) (dC : Nat → ClassId) (dI : Nat → Nat → Nat) (m0 aS aI aB aT aG aO aN aD aY : Nat) (th im ac sp en wg op se dn rn kd nu tv : Int32) (bv : Int64) (cS cB cT cG : ClassId) (fS : Nat → Int32) (fB : Nat → Int32) (fT : Nat → Int32) (fG : Nat → Int32) (n : Nat) (yk yv yc : Nat → Int32) (mi sn : Int32) (x y : Int32) (cz : List pCla) (sz : Nat) (zn : fS 0 = nI n) (hn : n ≤ 8) (zh : hol fS cz) (zkd : ∀ k, k < n → fS (10 + k) = yk k) (zvv : ∀ k, k < n → fS (19 + k) = yv k) (zc : ∀ k, k < n → fS (28 + k) = yc k) (zmi : fS 6 = mi) (zsn : fS 7 = sn) : Met l yX12_via wsX12_via ({ frames := 6, cells := 0, slots := 0, locals := 147 } : Room) (va_Pc [.ref m0, .int x, .int y] (fun U => U.heap.size = sz ∧ va_P (dC, dI) vwCl [(zo14irriiiiiirriirrrrlriiii m0 th aS aI im ac sp en wg op aB aT se dn aG aO aN aD bv aY rn kd nu tv), (zaI aS cS 901 fS), (zaI aB cB 6 fB), (zaI aT cT 64 fT), (zaI aG cG 9 fG)] U.heap ∧ va_K (dC, dI) vwCl [(cS, .int), (cB, .int), (cT, .boolean), (cG, .int)] U ∧ va_D (fun _ => True) [(zo14irriiiiiirriirrrrlriiii m0 th aS aI im ac sp en wg op aB aT se dn aG aO aN aD bv aY rn kd nu tv), (zaI aS cS 901 fS), (zaI aB cB 6 fB), (zaI aT cT 64 fT), (zaI aG cG 9 fG)])) (va_Qi (fun (r : Int32) (u : (Nat → Int32) × (Nat → Int32) × (Int32) × (Int32) × (Nat → Int32)) => match u with | (fB9, fT9, se9, dn9, fG9) => r = viR_ n yk yv yc cz mi sn x y) (fun (u : (Nat → Int32) × (Nat → Int32) × (Int32) × (Int32) × (Nat → Int32)) (t : State) => match u with | (fB9, fT9, se9, dn9, fG9) => va_P (dC, dI) vwCl [(zo14irriiiiiirriirrrrlriiii m0 th aS aI im ac sp en wg op aB aT se9 dn9 aG aO aN aD bv aY rn kd nu tv), (zaI aS cS 901 fS), (zaI aB cB 6 fB9), (zaI aT cT 64 fT9), (zaI aG cG 9 fG9)] t.heap ∧ va_K (dC, dI) vwCl [(cS, .int), (cB, .int), (cT, .boolean), (cG, .int)] t ∧ va_D (va_A [(zo14irriiiiiirriirrrrlriiii m0 th aS aI im ac sp en wg op aB aT se dn aG aO aN aD bv aY rn kd nu tv), (zaI aS cS 901 fS), (zaI aB cB 6 fB), (zaI aT cT 64 fT), (zaI aG cG 9 fG)] sz) [(zo14irriiiiiirriirrrrlriiii m0 th aS aI im ac sp en wg op aB aT se9 dn9 aG aO aN aD bv aY rn kd nu tv), (zaI aS cS 901 fS), (zaI aB cB 6 fB9), (zaI aT cT 64 fT9), (zaI aG cG 9 fG9)]) (va_A [(zo14irriiiiiirriirrrrlriiii m0 th aS aI im ac sp en wg op aB aT se dn aG aO aN aD bv aY rn kd nu tv), (zaI aS cS 901 fS), (zaI aB cB 6 fB), (zaI aT cT 64 fT), (zaI aG cG 9 fG)] sz)) 0 0 (va_A [(zo14irriiiiiirriirrrrlriiii m0 th aS aI im ac sp en wg op aB aT se dn aG aO aN aD bv aY rn kd nu tv), (zaI aS cS 901 fS), (zaI aB cB 6 fB), (zaI aT cT 64 fT), (zaI aG cG 9 fG)] sz) := by
  refine met_ofQ (cc := cX12_via) (maxL := 5) (ret := (some .int)) (by decide) rfl ?_
  intro p e s m args below meth c s₁ Q B hml hv hQ
  obtain ⟨rfl, hsz, hP, hK, hD0⟩ := hv
  have hx := B.exec
  have hb := B.bytes
  have hr := B.returns
  have hts := atoms_spec (ws := wsX12_via) B.pre
  have hown : s.vm.findClass RX12 = some m.cls := findClass_of_methodNamed B.named
  have hlocks := B.notSynchronized
  subst hsz
  have hD := hD0.self (sz := s.heap.size)
  generalize hAe : va_A [(zo14irriiiiiirriirrrrlriiii m0 th aS aI im ac sp en wg op aB aT se dn aG aO aN aD bv aY rn kd nu tv), (zaI aS cS 901 fS), (zaI aB cB 6 fB), (zaI aT cT 64 fT), (zaI aG cG 9 fG)] s.heap.size = A at hD hQ ⊢
  have hA : ∀ q : Nat, s.heap.size ≤ q → A q := fun q h => by rw [← hAe]; exact Or.inr h
  have hS : va_S A s.heap s.heap [] := va_S.rf
  have hl := lv_entry [.ref m0, .int x, .int y] (n := 5) (Nat.le_of_ble_eq_true rfl)
  rw [lg_entry_eq]
  generalize (lg_sl [.ref m0, .int x, .int y] ++ List.replicate (5 - (lg_sl [.ref m0, .int x, .int y]).length) Slot.unset).toArray = ls at hl ⊢
  generalize hag : ([.ref m0, .int x, .int y] : List Value).toArray = args at hts hQ ⊢
  have hl : lv_has ls 5 [(0, .ref m0), (1, .int x), (2, .int y)] := hl
  obtain ⟨H, hH⟩ : ∃ H : Heap, H = s.heap := ⟨_, rfl⟩
  rw [← hH] at hP
  rw [← hH]
  have hS : va_S A s.heap H [] := by rw [hH]; exact hS
  obtain ⟨locs, hlo⟩ : ∃ L : List Loc, L = [] := ⟨_, rfl⟩
  rw [← hlo] at hS
  rw [← hlo]
  clear hH hlo
  refine lv_aload_n hx hb dX12_via_0 rfl (lv_at hl 0 rfl) ?_
  refine lv_iload_n hx hb dX12_via_1 rfl (lv_at hl 1 rfl) ?_
  have hPc := hP.sub (ws' := [(zo14irriiiiiirriirrrrlriiii m0 th aS aI im ac sp en wg op aB aT se dn aG aO aN aD bv aY rn kd nu tv), (zaI aS cS 901 fS)]) [0, 1] rfl
  have hKc := hK.sub (tys' := [(cS, .int)]) [0] rfl
  refine vp_callSi (va_runV (As := [.int x]) (rest := []) ⟨hx, hb, hml, hown, hts⟩ (c_isHeap l dC dI m0 aS aI aB aT aG aO aN aD aY th im ac sp en wg op se dn rn kd nu tv bv cS fS n x (zn) (hn)) (cwV 1 hts gX12_via_X12_isHeap rfl rfl rfl hd_yX12_isHeap ⟨Nat.le_of_ble_eq_true rfl, Nat.le_of_ble_eq_true rfl⟩) ⟨fun a U g mk q => by obtain ⟨q0, qP, qK⟩ := q; exact ⟨q0, mvP g mk a qP, mvK g mk a qK⟩, va_recv hK hP (ci := 14) (q := (RX12, TX12, 23)) (q0 := 0) rfl rfl, fun U hU hW => ⟨rfl, by rw [hU]; exact hPc, va_K.moved hW.alike hKc⟩⟩ rfl rfl hl.1 rfl (lv_room (Nat.le_of_ble_eq_true rfl)) dX12_via_2 ⟨Nat.le_of_ble_eq_true rfl, Nat.le_of_ble_eq_true rfl⟩).run (fun r_1 hw_2 => ?_)
  rcases hw_2 with ⟨rfl, j_3, hj_4, rfl⟩ | ⟨rfl, h_5⟩
  · skip
    refine lv_if_eq (tgt := 16) hx hb dX12_via_5 (by decide) (fun c_6 => absurd c_6 (by decide)) (fun _ => ?_)
    refine lv_aload_n hx hb dX12_via_8 rfl (lv_at hl 0 rfl) ?_
    refine lv_iload_n hx hb dX12_via_9 rfl (lv_at hl 2 rfl) ?_
    have hPc := hP.sub (ws' := [(zo14irriiiiiirriirrrrlriiii m0 th aS aI im ac sp en wg op aB aT se dn aG aO aN aD bv aY rn kd nu tv), (zaI aS cS 901 fS)]) [0, 1] rfl
    have hKc := hK.sub (tys' := [(cS, .int)]) [0] rfl
    refine vp_callSi (va_runV (As := [.int y]) (rest := []) ⟨hx, hb, hml, hown, hts⟩ (c_isHeap l dC dI m0 aS aI aB aT aG aO aN aD aY th im ac sp en wg op se dn rn kd nu tv bv cS fS n y (zn) (hn)) (cwV 1 hts gX12_via_X12_isHeap rfl rfl rfl hd_yX12_isHeap ⟨Nat.le_of_ble_eq_true rfl, Nat.le_of_ble_eq_true rfl⟩) ⟨fun a U g mk q => by obtain ⟨q0, qP, qK⟩ := q; exact ⟨q0, mvP g mk a qP, mvK g mk a qK⟩, va_recv hK hP (ci := 14) (q := (RX12, TX12, 23)) (q0 := 0) rfl rfl, fun U hU hW => ⟨rfl, by rw [hU]; exact hPc, va_K.moved hW.alike hKc⟩⟩ rfl rfl hl.1 rfl (lv_room (Nat.le_of_ble_eq_true rfl)) dX12_via_10 ⟨Nat.le_of_ble_eq_true rfl, Nat.le_of_ble_eq_true rfl⟩).run (fun r_7 hw_8 => ?_)
    rcases hw_8 with ⟨rfl, j_9, hj_10, rfl⟩ | ⟨rfl, h_11⟩
    · skip
      refine lv_if_ne (tgt := 18) hx hb dX12_via_13 (by decide) (fun _ => ?_) (fun c_12 => absurd c_12 (by decide))
      refine lv_aload_n hx hb dX12_via_18 rfl (lv_at hl 0 rfl) ?_
      refine lv_iload_n hx hb dX12_via_19 rfl (lv_at hl 1 rfl) ?_
      refine lv_iload_n hx hb dX12_via_20 rfl (lv_at hl 2 rfl) ?_
      have hPc := hP.sub (ws' := [(zo14irriiiiiirriirrrrlriiii m0 th aS aI im ac sp en wg op aB aT se dn aG aO aN aD bv aY rn kd nu tv), (zaI aS cS 901 fS), (zaI aB cB 6 fB), (zaI aT cT 64 fT), (zaI aG cG 9 fG)]) [0, 1, 2, 3, 4] rfl
      have hDc := hD.sub (ws' := [(zo14irriiiiiirriirrrrlriiii m0 th aS aI im ac sp en wg op aB aT se dn aG aO aN aD bv aY rn kd nu tv), (zaI aS cS 901 fS), (zaI aB cB 6 fB), (zaI aT cT 64 fT), (zaI aG cG 9 fG)]) [0, 1, 2, 3, 4] (by decide) rfl
      have hKc := hK.sub (tys' := [(cS, .int), (cB, .int), (cT, .boolean), (cG, .int)]) [0, 1, 2, 3] rfl
      have hFc := va_free (wc := [(zo14irriiiiiirriirrrrlriiii m0 th aS aI im ac sp en wg op aB aT se dn aG aO aN aD bv aY rn kd nu tv), (zaI aS cS 901 fS), (zaI aB cB 6 fB), (zaI aT cT 64 fT), (zaI aG cG 9 fG)]) hD hS hA [0, 1, 2, 3, 4] rfl
      refine va_calli (va_runV (As := [.int (nI j_3), .int (nI j_9)]) (rest := []) ⟨hx, hb, hml, hown, hts⟩ (c_stepsOf l dC dI m0 aS aI aB aT aG aO aN aD aY th im ac sp en wg op se dn rn kd nu tv bv cS cB cT cG fS fB fT fG n (nI j_3) (nI j_9) cz H.size (zn) (hn) (zh)) (cwV 2 hts gX12_via_X12_stepsOf rfl rfl rfl hd_yX12_stepsOf ⟨Nat.le_of_ble_eq_true rfl, Nat.le_of_ble_eq_true rfl⟩) ⟨fun a U g mk q => by obtain ⟨q0, q1, qP, qK, qD⟩ := q; exact ⟨q0, mvz g mk a q1, mvP g mk a qP, mvK g mk a qK, qD⟩, va_recv hK hP (ci := 14) (q := (RX12, TX12, 23)) (q0 := 0) rfl rfl, fun U hU hW => ⟨rfl, by rw [hU], by rw [hU]; exact hPc, va_K.moved hW.alike hKc, hDc.weaken (fun _ _ _ _ => trivial)⟩⟩ rfl rfl hl.1 rfl (lv_room (Nat.le_of_ble_eq_true rfl)) dX12_via_21 ⟨Nat.le_of_ble_eq_true rfl, Nat.le_of_ble_eq_true rfl⟩) hS (fun q _ h => hFc q h) hFc (fun r_13 u tC H1 locs htC hvm hw_14 hB hz1 hk1 hS => ?_)
      obtain ⟨fB9_15, fT9_16, se9_17, dn9_18, fG9_19⟩ := u
      try dsimp only at hw_14 hB
      obtain ⟨hP1, hK1, hD1⟩ := hB
      rw [htC] at hP1
      have hK1 := va_K.moved hvm.symm hK1
      obtain ⟨hP, hD⟩ := va_join (wr := []) (w1 := [(zo14irriiiiiirriirrrrlriiii m0 th aS aI im ac sp en wg op aB aT se9_17 dn9_18 aG aO aN aD bv aY rn kd nu tv), (zaI aS cS 901 fS), (zaI aB cB 6 fB9_15), (zaI aT cT 64 fT9_16), (zaI aG cG 9 fG9_19)]) hP hD [0, 1, 2, 3, 4] [] rfl rfl (by decide) (by decide) hk1 hFc hP1 hD1
      have hK := (hK.sub (tys' := []) [] rfl).app hK1
      generalize H1 = H at hP hS ⊢
      have hP : va_P (dC, dI) vwCl [(zo14irriiiiiirriirrrrlriiii m0 th aS aI im ac sp en wg op aB aT se9_17 dn9_18 aG aO aN aD bv aY rn kd nu tv), (zaI aS cS 901 fS), (zaI aB cB 6 fB9_15), (zaI aT cT 64 fT9_16), (zaI aG cG 9 fG9_19)] H := hP
      have hD : va_D A [(zo14irriiiiiirriirrrrlriiii m0 th aS aI im ac sp en wg op aB aT se9_17 dn9_18 aG aO aN aD bv aY rn kd nu tv), (zaI aS cS 901 fS), (zaI aB cB 6 fB9_15), (zaI aT cT 64 fT9_16), (zaI aG cG 9 fG9_19)] := hD
      have hK : va_K (dC, dI) vwCl [(cS, .int), (cB, .int), (cT, .boolean), (cG, .int)] s := hK
      obtain ⟨hs1, rfl⟩ := hw_14
      obtain ⟨V9, hV9⟩ : ∃ V : Nat → Prop, V = viP fG9_19 n j_3 (nI j_9) := ⟨_, rfl⟩
      obtain ⟨A9, hA9⟩ : ∃ A : Int32, A = fiF V9 n 0 := ⟨_, rfl⟩
      refine lv_istore_n (lv' := [(3, .int (fsR fG9_19 n (nI j_3) (nI j_9) 0)), (0, .ref m0), (1, .int (nI j_3)), (2, .int (nI j_9))]) hx hb dX12_via_24 rfl hl (by decide) rfl (fun ls hl => ?_)
      refine lv_iconst (v := 0) hx hb dX12_via_25 (by decide) ?_
      refine lv_istore (lv' := [(4, .int 0), (3, .int (fsR fG9_19 n (nI j_3) (nI j_9) 0)), (0, .ref m0), (1, .int (nI j_3)), (2, .int (nI j_9))]) hx hb dX12_via_26 hl (by decide) rfl (fun ls hl => ?_)
      have L28 : ∀ (nF : Nat) (i : Nat), n - i < nF → (i ≤ n) → (A9 = fiF V9 (n - i) i) → ∀ (H : Heap) (locs : List Loc), va_K (dC, dI) vwCl [(cS, .int), (cB, .int), (cT, .boolean), (cG, .int)] s → va_P (dC, dI) vwCl [(zo14irriiiiiirriirrrrlriiii m0 th aS aI im ac sp en wg op aB aT se9_17 dn9_18 aG aO aN aD bv aY rn kd nu tv), (zaI aS cS 901 fS), (zaI aB cB 6 fB9_15), (zaI aT cT 64 fT9_16), (zaI aG cG 9 fG9_19)] H → va_D A [(zo14irriiiiiirriirrrrlriiii m0 th aS aI im ac sp en wg op aB aT se9_17 dn9_18 aG aO aN aD bv aY rn kd nu tv), (zaI aS cS 901 fS), (zaI aB cB 6 fB9_15), (zaI aT cT 64 fT9_16), (zaI aG cG 9 fG9_19)] → va_S A s.heap H locs → ∀ (ls : Array Slot), lv_has ls 5 [(0, .ref m0), (1, .int (nI j_3)), (2, .int (nI j_9)), (3, .int (fsR fG9_19 n (nI j_3) (nI j_9) 0)), (4, .int (nI i))] → W p l e ({ frames := 6, cells := 0, slots := 0, locals := 147 } : Room) s m args below meth c H locs 0 0 Q (F0 m 28 ls []) := by
        intro nF
        induction nF with
        | zero => intro i hm; exact absurd hm (Nat.not_lt_zero _)
        | succ nF ih28 =>
          intro i hm hi hq9 H locs hK hP hD hS ls hl
          refine lv_iload hx hb dX12_via_28 (lv_at hl 4 rfl) ?_
          refine lv_aload_n hx hb dX12_via_30 rfl (lv_at hl 0 rfl) ?_
          refine va_get (D := (dC, dI)) (ci := 14) (v := .ref aS) (C := RX12) (T := TX12) (N := 23) hx hb hts kc_mVia_0 hown hK hP 0 rfl rfl 1 (by decide) (hts (.fieldLink RX12 9 "MistHeapsModel" "s" "[I") kc_mVia_1) (fun _ h9 => h9) rfl dX12_via_31 ?_
          refine lv_iconst (v := 0) hx hb dX12_via_34 (by decide) ?_
          refine va_iald hx hb hK hP 1 0 rfl rfl (vp_in_nI (n := 0) (N := 901) (by omega) (by omega)) dX12_via_35 ?_
          refine qi_as (y := nI n) ((show fS (0 : Int32).toNatClampNeg = fS 0 from rfl).trans (zn)) ?_
          refine lv_icmp_ge (tgt := 81) hx hb dX12_via_36 (by decide) (fun c_20 => ?_) (fun c_20 => ?_)
          · skip
            have c_20 : n ≤ i := (nI_leI (a := n) (b := i) (by omega) (by omega)).mp c_20
            refine lv_bipush (v := (-5)) hx hb dX12_via_81 (by decide) ?_
            rw [hQ]
            have hP9 := hP.sub (ws' := [(zo14irriiiiiirriirrrrlriiii m0 th aS aI im ac sp en wg op aB aT se9_17 dn9_18 aG aO aN aD bv aY rn kd nu tv), (zaI aS cS 901 fS), (zaI aB cB 6 fB9_15), (zaI aT cT 64 fT9_16), (zaI aG cG 9 fG9_19)]) [0, 1, 2, 3, 4] rfl
            have hD9 := hD.sub (ws' := [(zo14irriiiiiirriirrrrlriiii m0 th aS aI im ac sp en wg op aB aT se9_17 dn9_18 aG aO aN aD bv aY rn kd nu tv), (zaI aS cS 901 fS), (zaI aB cB 6 fB9_15), (zaI aT cT 64 fT9_16), (zaI aG cG 9 fG9_19)]) [0, 1, 2, 3, 4] (by decide) rfl
            have hK9 := hK.sub (tys' := [(cS, .int), (cB, .int), (cT, .boolean), (cG, .int)]) [0, 1, 2, 3] rfl
            exact W.iret (v := (-5)) hx hb hr (fun tQ htQ hWQ => ⟨⟨(-5), (fB9_15, fT9_16, se9_17, dn9_18, fG9_19), rfl, vi_m hn (by omega) (by omega) (row_m hs1 zkd zvv zc zmi zsn) (vi_5 hV9 hA9 (fi_end hq9 (by assumption))), by rw [htQ]; exact hP9, va_K.moved hWQ.alike hK9, hD9⟩, hS.F htQ⟩) hS.2.2 dX12_via_83
          · skip
            have c_20 : ¬ n ≤ i := fun q => c_20 ((nI_leI (a := n) (b := i) (by omega) (by omega)).mpr q)
            refine lv_iload_n hx hb dX12_via_39 rfl (lv_at hl 3 rfl) ?_
            refine lv_if_le (tgt := 81) hx hb dX12_via_40 (by decide) (fun c_21 => ?_) (fun c_21 => ?_)
            · skip
              refine lv_bipush (v := (-5)) hx hb dX12_via_81 (by decide) ?_
              rw [hQ]
              have hP9 := hP.sub (ws' := [(zo14irriiiiiirriirrrrlriiii m0 th aS aI im ac sp en wg op aB aT se9_17 dn9_18 aG aO aN aD bv aY rn kd nu tv), (zaI aS cS 901 fS), (zaI aB cB 6 fB9_15), (zaI aT cT 64 fT9_16), (zaI aG cG 9 fG9_19)]) [0, 1, 2, 3, 4] rfl
              have hD9 := hD.sub (ws' := [(zo14irriiiiiirriirrrrlriiii m0 th aS aI im ac sp en wg op aB aT se9_17 dn9_18 aG aO aN aD bv aY rn kd nu tv), (zaI aS cS 901 fS), (zaI aB cB 6 fB9_15), (zaI aT cT 64 fT9_16), (zaI aG cG 9 fG9_19)]) [0, 1, 2, 3, 4] (by decide) rfl
              have hK9 := hK.sub (tys' := [(cS, .int), (cB, .int), (cT, .boolean), (cG, .int)]) [0, 1, 2, 3] rfl
              exact W.iret (v := (-5)) hx hb hr (fun tQ htQ hWQ => ⟨⟨(-5), (fB9_15, fT9_16, se9_17, dn9_18, fG9_19), rfl, vi_m hn (by omega) (by omega) (row_m hs1 zkd zvv zc zmi zsn) (vi_0 c_21), by rw [htQ]; exact hP9, va_K.moved hWQ.alike hK9, hD9⟩, hS.F htQ⟩) hS.2.2 dX12_via_83
            · skip
              refine lv_aload_n hx hb dX12_via_43 rfl (lv_at hl 0 rfl) ?_
              refine va_get (D := (dC, dI)) (ci := 14) (v := .ref aG) (C := RX12) (T := TX12) (N := 23) hx hb hts kc_mVia_0 hown hK hP 0 rfl rfl 13 (by decide) (hts (.fieldLink RX12 25 "MistHeapsModel" "goes" "[I") kc_mVia_2) (fun _ h9 => h9) rfl dX12_via_44 ?_
              refine lv_iload_n hx hb dX12_via_47 rfl (lv_at hl 1 rfl) ?_
              refine va_iald hx hb hK hP 4 3 rfl rfl (vp_in_nI (n := j_3) (N := 9) (by omega) (by omega)) dX12_via_48 ?_
              refine qi_as (y := fG9_19 j_3) (by rw [nI_clamp (by omega)]) ?_
              refine lv_iload hx hb dX12_via_49 (lv_at hl 4 rfl) ?_
              refine lv_ishr hx hb dX12_via_51 ?_
              refine lv_iconst (v := 1) hx hb dX12_via_52 (by decide) ?_
              refine lv_iand hx hb dX12_via_53 ?_
              refine lv_iconst (v := 1) hx hb dX12_via_54 (by decide) ?_
              refine lv_icmp_ne (tgt := 75) hx hb dX12_via_55 (by decide) (fun c_22 => ?_) (fun c_22 => ?_)
              · skip
                refine lv_iinc (v := nI (i + 1)) (lv' := [(4, .int (nI (i + 1))), (0, .ref m0), (1, .int (nI j_3)), (2, .int (nI j_9)), (3, .int (fsR fG9_19 n (nI j_3) (nI j_9) 0))]) hx hb dX12_via_75 hl (k := 4) rfl (nI_add i 1) (by decide) rfl (fun ls hl => ?_)
                refine lv_goto (tgt := 28) hx hb dX12_via_78 (by decide) ?_
                exact ih28 (i + 1) (by omega) (by omega) (fi_next hq9 (by assumption) (by rw [hV9]; exact fun z9 => c_22 z9.1)) _ _ (hK.sub [0, 1, 2, 3] rfl) (hP.sub [0, 1, 2, 3, 4] rfl) (hD.sub [0, 1, 2, 3, 4] (by decide) rfl) hS ls (lv_sub hl [1, 2, 3, 4, 0] rfl)
              · skip
                refine lv_aload_n hx hb dX12_via_58 rfl (lv_at hl 0 rfl) ?_
                refine lv_iload hx hb dX12_via_59 (lv_at hl 4 rfl) ?_
                refine lv_iload_n hx hb dX12_via_61 rfl (lv_at hl 2 rfl) ?_
                refine lv_iconst (v := 0) hx hb dX12_via_62 (by decide) ?_
                have hPc := hP.sub (ws' := [(zo14irriiiiiirriirrrrlriiii m0 th aS aI im ac sp en wg op aB aT se9_17 dn9_18 aG aO aN aD bv aY rn kd nu tv), (zaI aS cS 901 fS), (zaI aG cG 9 fG9_19)]) [0, 1, 4] rfl
                have hKc := hK.sub (tys' := [(cS, .int), (cG, .int)]) [0, 3] rfl
                refine vp_callSi (va_runV (As := [.int (nI i), .int (nI j_9), .int 0]) (rest := []) ⟨hx, hb, hml, hown, hts⟩ (c_stepsBut l dC dI m0 aS aI aB aT aG aO aN aD aY th im ac sp en wg op se9_17 dn9_18 rn kd nu tv bv cS cG fS fG9_19 n (nI i) (nI j_9) 0 (zn) (hn)) (cwV 3 hts gX12_via_X12_stepsBut rfl rfl rfl hd_yX12_stepsBut ⟨Nat.le_of_ble_eq_true rfl, Nat.le_of_ble_eq_true rfl⟩) ⟨fun a U g mk q => by obtain ⟨q0, qP, qK⟩ := q; exact ⟨q0, mvP g mk a qP, mvK g mk a qK⟩, va_recv hK hP (ci := 14) (q := (RX12, TX12, 23)) (q0 := 0) rfl rfl, fun U hU hW => ⟨rfl, by rw [hU]; exact hPc, va_K.moved hW.alike hKc⟩⟩ rfl rfl hl.1 rfl (lv_room (Nat.le_of_ble_eq_true rfl)) dX12_via_63 ⟨Nat.le_of_ble_eq_true rfl, Nat.le_of_ble_eq_true rfl⟩).run (fun r_23 hw_24 => ?_)
                obtain rfl := hw_24
                refine lv_iload_n hx hb dX12_via_66 rfl (lv_at hl 3 rfl) ?_
                refine lv_iconst (v := 1) hx hb dX12_via_67 (by decide) ?_
                refine lv_isub hx hb dX12_via_68 ?_
                refine lv_icmp_ne (tgt := 75) hx hb dX12_via_69 (by decide) (fun c_25 => ?_) (fun c_25 => ?_)
                · skip
                  refine lv_iinc (v := nI (i + 1)) (lv' := [(4, .int (nI (i + 1))), (0, .ref m0), (1, .int (nI j_3)), (2, .int (nI j_9)), (3, .int (fsR fG9_19 n (nI j_3) (nI j_9) 0))]) hx hb dX12_via_75 hl (k := 4) rfl (nI_add i 1) (by decide) rfl (fun ls hl => ?_)
                  refine lv_goto (tgt := 28) hx hb dX12_via_78 (by decide) ?_
                  exact ih28 (i + 1) (by omega) (by omega) (fi_next hq9 (by assumption) (by rw [hV9]; exact fun z9 => c_25 z9.2)) _ _ (hK.sub [0, 1, 2, 3] rfl) (hP.sub [0, 1, 2, 3, 4] rfl) (hD.sub [0, 1, 2, 3, 4] (by decide) rfl) hS ls (lv_sub hl [1, 2, 3, 4, 0] rfl)
                · skip
                  refine lv_iload hx hb dX12_via_72 (lv_at hl 4 rfl) ?_
                  rw [hQ]
                  have hP9 := hP.sub (ws' := [(zo14irriiiiiirriirrrrlriiii m0 th aS aI im ac sp en wg op aB aT se9_17 dn9_18 aG aO aN aD bv aY rn kd nu tv), (zaI aS cS 901 fS), (zaI aB cB 6 fB9_15), (zaI aT cT 64 fT9_16), (zaI aG cG 9 fG9_19)]) [0, 1, 2, 3, 4] rfl
                  have hD9 := hD.sub (ws' := [(zo14irriiiiiirriirrrrlriiii m0 th aS aI im ac sp en wg op aB aT se9_17 dn9_18 aG aO aN aD bv aY rn kd nu tv), (zaI aS cS 901 fS), (zaI aB cB 6 fB9_15), (zaI aT cT 64 fT9_16), (zaI aG cG 9 fG9_19)]) [0, 1, 2, 3, 4] (by decide) rfl
                  have hK9 := hK.sub (tys' := [(cS, .int), (cB, .int), (cT, .boolean), (cG, .int)]) [0, 1, 2, 3] rfl
                  exact W.iret (v := nI i) hx hb hr (fun tQ htQ hWQ => ⟨⟨(nI i), (fB9_15, fT9_16, se9_17, dn9_18, fG9_19), rfl, vi_m hn (by omega) (by omega) (row_m hs1 zkd zvv zc zmi zsn) (vi_h hV9 hA9 c_21 (fi_hit hq9 (by assumption) (by rw [hV9]; exact ⟨c_22, c_25⟩))), by rw [htQ]; exact hP9, va_K.moved hWQ.alike hK9, hD9⟩, hS.F htQ⟩) hS.2.2 dX12_via_74
      exact L28 _ (0) (Nat.lt_succ_self _) (by omega) (hA9) _ _ (hK.sub [0, 1, 2, 3] rfl) (hP.sub [0, 1, 2, 3, 4] rfl) (hD.sub [0, 1, 2, 3, 4] (by decide) rfl) hS ls (lv_sub hl [2, 3, 4, 1, 0] rfl)
    · skip
      refine lv_if_ne (tgt := 18) hx hb dX12_via_13 (by decide) (fun c_26 => absurd c_26 (by decide)) (fun _ => ?_)
      refine lv_iconst (v := (-1)) hx hb dX12_via_16 (by decide) ?_
      rw [hQ]
      have hP9 := hP.sub (ws' := [(zo14irriiiiiirriirrrrlriiii m0 th aS aI im ac sp en wg op aB aT se dn aG aO aN aD bv aY rn kd nu tv), (zaI aS cS 901 fS), (zaI aB cB 6 fB), (zaI aT cT 64 fT), (zaI aG cG 9 fG)]) [0, 1, 2, 3, 4] rfl
      have hD9 := hD.sub (ws' := [(zo14irriiiiiirriirrrrlriiii m0 th aS aI im ac sp en wg op aB aT se dn aG aO aN aD bv aY rn kd nu tv), (zaI aS cS 901 fS), (zaI aB cB 6 fB), (zaI aT cT 64 fT), (zaI aG cG 9 fG)]) [0, 1, 2, 3, 4] (by decide) rfl
      have hK9 := hK.sub (tys' := [(cS, .int), (cB, .int), (cT, .boolean), (cG, .int)]) [0, 1, 2, 3] rfl
      exact W.iret (v := (-1)) hx hb hr (fun tQ htQ hWQ => ⟨⟨(-1), (fB, fT, se, dn, fG), rfl, by first | exact two_no1 (by assumption) | exact two_no2 (by assumption), by rw [htQ]; exact hP9, va_K.moved hWQ.alike hK9, hD9⟩, hS.F htQ⟩) hS.2.2 dX12_via_17
  · skip
    refine lv_if_eq (tgt := 16) hx hb dX12_via_5 (by decide) (fun _ => ?_) (fun c_27 => absurd c_27 (by decide))
    refine lv_iconst (v := (-1)) hx hb dX12_via_16 (by decide) ?_
    rw [hQ]
    have hP9 := hP.sub (ws' := [(zo14irriiiiiirriirrrrlriiii m0 th aS aI im ac sp en wg op aB aT se dn aG aO aN aD bv aY rn kd nu tv), (zaI aS cS 901 fS), (zaI aB cB 6 fB), (zaI aT cT 64 fT), (zaI aG cG 9 fG)]) [0, 1, 2, 3, 4] rfl
    have hD9 := hD.sub (ws' := [(zo14irriiiiiirriirrrrlriiii m0 th aS aI im ac sp en wg op aB aT se dn aG aO aN aD bv aY rn kd nu tv), (zaI aS cS 901 fS), (zaI aB cB 6 fB), (zaI aT cT 64 fT), (zaI aG cG 9 fG)]) [0, 1, 2, 3, 4] (by decide) rfl
    have hK9 := hK.sub (tys' := [(cS, .int), (cB, .int), (cT, .boolean), (cG, .int)]) [0, 1, 2, 3] rfl
    exact W.iret (v := (-1)) hx hb hr (fun tQ htQ hWQ => ⟨⟨(-1), (fB, fT, se, dn, fG), rfl, by first | exact two_no1 (by assumption) | exact two_no2 (by assumption), by rw [htQ]; exact hP9, va_K.moved hWQ.alike hK9, hD9⟩, hS.F htQ⟩) hS.2.2 dX12_via_17

theorem kc_mCuts_0 : ∀ w ∈ wsX120, w ∈ wsX12_cuts := fun w h => List.mem_cons_of_mem _ (gin_wsX120 w h)
theorem kc_mCuts_1 : (.fieldLink RX12 9 "MistHeapsModel" "s" "[I" : Cond) ∈ wsX12_cuts := kc_of 1141 rfl rfl rfl
set_option maxHeartbeats 4000000 in
set_option maxRecDepth 100000 in
theorem c_mCuts (l : Launch) (dC : Nat → ClassId) (dI : Nat → Nat → Nat) (m0 aS aI aB aT aG aO aN aD aY : Nat) (th im ac sp en wg op se dn rn kd nu tv : Int32) (bv : Int64) (cS cB cT cG : ClassId) (fS : Nat → Int32) (fB : Nat → Int32) (fT : Nat → Int32) (fG : Nat → Int32) (n : Nat) (yk yv yc : Nat → Int32) (mi sn : Int32) (x y : Int32) (cz : List pCla) (sz : Nat) (zn : fS 0 = nI n) (hn : n ≤ 8) (zh : hol fS cz) (zkd : ∀ k, k < n → fS (10 + k) = yk k) (zvv : ∀ k, k < n → fS (19 + k) = yv k) (zc : ∀ k, k < n → fS (28 + k) = yc k) (zmi : fS 6 = mi) (zsn : fS 7 = sn) : Met l yX12_cuts wsX12_cuts ({ frames := 6, cells := 0, slots := 0, locals := 147 } : Room) (va_Pc [.ref m0, .int x, .int y] (fun U => U.heap.size = sz ∧ va_P (dC, dI) vwCl [(zo14irriiiiiirriirrrrlriiii m0 th aS aI im ac sp en wg op aB aT se dn aG aO aN aD bv aY rn kd nu tv), (zaI aS cS 901 fS), (zaI aB cB 6 fB), (zaI aT cT 64 fT), (zaI aG cG 9 fG)] U.heap ∧ va_K (dC, dI) vwCl [(cS, .int), (cB, .int), (cT, .boolean), (cG, .int)] U ∧ va_D (fun _ => True) [(zo14irriiiiiirriirrrrlriiii m0 th aS aI im ac sp en wg op aB aT se dn aG aO aN aD bv aY rn kd nu tv), (zaI aS cS 901 fS), (zaI aB cB 6 fB), (zaI aT cT 64 fT), (zaI aG cG 9 fG)])) (va_Qi (fun (r : Int32) (u : (Nat → Int32) × (Nat → Int32) × (Int32) × (Int32) × (Nat → Int32)) => match u with | (fB9, fT9, se9, dn9, fG9) => r = cuR_ n yk yv yc cz mi sn x y) (fun (u : (Nat → Int32) × (Nat → Int32) × (Int32) × (Int32) × (Nat → Int32)) (t : State) => match u with | (fB9, fT9, se9, dn9, fG9) => va_P (dC, dI) vwCl [(zo14irriiiiiirriirrrrlriiii m0 th aS aI im ac sp en wg op aB aT se9 dn9 aG aO aN aD bv aY rn kd nu tv), (zaI aS cS 901 fS), (zaI aB cB 6 fB9), (zaI aT cT 64 fT9), (zaI aG cG 9 fG9)] t.heap ∧ va_K (dC, dI) vwCl [(cS, .int), (cB, .int), (cT, .boolean), (cG, .int)] t ∧ va_D (va_A [(zo14irriiiiiirriirrrrlriiii m0 th aS aI im ac sp en wg op aB aT se dn aG aO aN aD bv aY rn kd nu tv), (zaI aS cS 901 fS), (zaI aB cB 6 fB), (zaI aT cT 64 fT), (zaI aG cG 9 fG)] sz) [(zo14irriiiiiirriirrrrlriiii m0 th aS aI im ac sp en wg op aB aT se9 dn9 aG aO aN aD bv aY rn kd nu tv), (zaI aS cS 901 fS), (zaI aB cB 6 fB9), (zaI aT cT 64 fT9), (zaI aG cG 9 fG9)]) (va_A [(zo14irriiiiiirriirrrrlriiii m0 th aS aI im ac sp en wg op aB aT se dn aG aO aN aD bv aY rn kd nu tv), (zaI aS cS 901 fS), (zaI aB cB 6 fB), (zaI aT cT 64 fT), (zaI aG cG 9 fG)] sz)) 0 0 (va_A [(zo14irriiiiiirriirrrrlriiii m0 th aS aI im ac sp en wg op aB aT se dn aG aO aN aD bv aY rn kd nu tv), (zaI aS cS 901 fS), (zaI aB cB 6 fB), (zaI aT cT 64 fT), (zaI aG cG 9 fG)] sz) := by
  refine met_ofQ (cc := cX12_cuts) (maxL := 5) (ret := (some .int)) (by decide) rfl ?_
  intro p e s m args below meth c s₁ Q B hml hv hQ
  obtain ⟨rfl, hsz, hP, hK, hD0⟩ := hv
  have hx := B.exec
  have hb := B.bytes
  have hr := B.returns
  have hts := atoms_spec (ws := wsX12_cuts) B.pre
  have hown : s.vm.findClass RX12 = some m.cls := findClass_of_methodNamed B.named
  have hlocks := B.notSynchronized
  subst hsz
  have hD := hD0.self (sz := s.heap.size)
  generalize hAe : va_A [(zo14irriiiiiirriirrrrlriiii m0 th aS aI im ac sp en wg op aB aT se dn aG aO aN aD bv aY rn kd nu tv), (zaI aS cS 901 fS), (zaI aB cB 6 fB), (zaI aT cT 64 fT), (zaI aG cG 9 fG)] s.heap.size = A at hD hQ ⊢
  have hA : ∀ q : Nat, s.heap.size ≤ q → A q := fun q h => by rw [← hAe]; exact Or.inr h
  have hS : va_S A s.heap s.heap [] := va_S.rf
  have hl := lv_entry [.ref m0, .int x, .int y] (n := 5) (Nat.le_of_ble_eq_true rfl)
  rw [lg_entry_eq]
  generalize (lg_sl [.ref m0, .int x, .int y] ++ List.replicate (5 - (lg_sl [.ref m0, .int x, .int y]).length) Slot.unset).toArray = ls at hl ⊢
  generalize hag : ([.ref m0, .int x, .int y] : List Value).toArray = args at hts hQ ⊢
  have hl : lv_has ls 5 [(0, .ref m0), (1, .int x), (2, .int y)] := hl
  obtain ⟨H, hH⟩ : ∃ H : Heap, H = s.heap := ⟨_, rfl⟩
  rw [← hH] at hP
  rw [← hH]
  have hS : va_S A s.heap H [] := by rw [hH]; exact hS
  obtain ⟨locs, hlo⟩ : ∃ L : List Loc, L = [] := ⟨_, rfl⟩
  rw [← hlo] at hS
  rw [← hlo]
  clear hH hlo
  refine lv_aload_n hx hb dX12_cuts_0 rfl (lv_at hl 0 rfl) ?_
  refine lv_iload_n hx hb dX12_cuts_1 rfl (lv_at hl 1 rfl) ?_
  have hPc := hP.sub (ws' := [(zo14irriiiiiirriirrrrlriiii m0 th aS aI im ac sp en wg op aB aT se dn aG aO aN aD bv aY rn kd nu tv), (zaI aS cS 901 fS)]) [0, 1] rfl
  have hKc := hK.sub (tys' := [(cS, .int)]) [0] rfl
  refine vp_callSi (va_runV (As := [.int x]) (rest := []) ⟨hx, hb, hml, hown, hts⟩ (c_isHeap l dC dI m0 aS aI aB aT aG aO aN aD aY th im ac sp en wg op se dn rn kd nu tv bv cS fS n x (zn) (hn)) (cwV 1 hts gX12_cuts_X12_isHeap rfl rfl rfl hd_yX12_isHeap ⟨Nat.le_of_ble_eq_true rfl, Nat.le_of_ble_eq_true rfl⟩) ⟨fun a U g mk q => by obtain ⟨q0, qP, qK⟩ := q; exact ⟨q0, mvP g mk a qP, mvK g mk a qK⟩, va_recv hK hP (ci := 14) (q := (RX12, TX12, 23)) (q0 := 0) rfl rfl, fun U hU hW => ⟨rfl, by rw [hU]; exact hPc, va_K.moved hW.alike hKc⟩⟩ rfl rfl hl.1 rfl (lv_room (Nat.le_of_ble_eq_true rfl)) dX12_cuts_2 ⟨Nat.le_of_ble_eq_true rfl, Nat.le_of_ble_eq_true rfl⟩).run (fun r_1 hw_2 => ?_)
  rcases hw_2 with ⟨rfl, j_3, hj_4, rfl⟩ | ⟨rfl, h_5⟩
  · skip
    refine lv_if_eq (tgt := 16) hx hb dX12_cuts_5 (by decide) (fun c_6 => absurd c_6 (by decide)) (fun _ => ?_)
    refine lv_aload_n hx hb dX12_cuts_8 rfl (lv_at hl 0 rfl) ?_
    refine lv_iload_n hx hb dX12_cuts_9 rfl (lv_at hl 2 rfl) ?_
    have hPc := hP.sub (ws' := [(zo14irriiiiiirriirrrrlriiii m0 th aS aI im ac sp en wg op aB aT se dn aG aO aN aD bv aY rn kd nu tv), (zaI aS cS 901 fS)]) [0, 1] rfl
    have hKc := hK.sub (tys' := [(cS, .int)]) [0] rfl
    refine vp_callSi (va_runV (As := [.int y]) (rest := []) ⟨hx, hb, hml, hown, hts⟩ (c_isHeap l dC dI m0 aS aI aB aT aG aO aN aD aY th im ac sp en wg op se dn rn kd nu tv bv cS fS n y (zn) (hn)) (cwV 1 hts gX12_cuts_X12_isHeap rfl rfl rfl hd_yX12_isHeap ⟨Nat.le_of_ble_eq_true rfl, Nat.le_of_ble_eq_true rfl⟩) ⟨fun a U g mk q => by obtain ⟨q0, qP, qK⟩ := q; exact ⟨q0, mvP g mk a qP, mvK g mk a qK⟩, va_recv hK hP (ci := 14) (q := (RX12, TX12, 23)) (q0 := 0) rfl rfl, fun U hU hW => ⟨rfl, by rw [hU]; exact hPc, va_K.moved hW.alike hKc⟩⟩ rfl rfl hl.1 rfl (lv_room (Nat.le_of_ble_eq_true rfl)) dX12_cuts_10 ⟨Nat.le_of_ble_eq_true rfl, Nat.le_of_ble_eq_true rfl⟩).run (fun r_7 hw_8 => ?_)
    rcases hw_8 with ⟨rfl, j_9, hj_10, rfl⟩ | ⟨rfl, h_11⟩
    · skip
      refine lv_if_ne (tgt := 18) hx hb dX12_cuts_13 (by decide) (fun _ => ?_) (fun c_12 => absurd c_12 (by decide))
      refine lv_iconst (v := 0) hx hb dX12_cuts_18 (by decide) ?_
      refine lv_istore_n (lv' := [(3, .int 0), (0, .ref m0), (1, .int (nI j_3)), (2, .int (nI j_9))]) hx hb dX12_cuts_19 rfl hl (by decide) rfl (fun ls hl => ?_)
      refine lv_aload_n hx hb dX12_cuts_20 rfl (lv_at hl 1 rfl) ?_
      refine lv_iload_n hx hb dX12_cuts_21 rfl (lv_at hl 2 rfl) ?_
      refine lv_iload_n hx hb dX12_cuts_22 rfl (lv_at hl 3 rfl) ?_
      have hPc := hP.sub (ws' := [(zo14irriiiiiirriirrrrlriiii m0 th aS aI im ac sp en wg op aB aT se dn aG aO aN aD bv aY rn kd nu tv), (zaI aS cS 901 fS), (zaI aB cB 6 fB), (zaI aT cT 64 fT), (zaI aG cG 9 fG)]) [0, 1, 2, 3, 4] rfl
      have hDc := hD.sub (ws' := [(zo14irriiiiiirriirrrrlriiii m0 th aS aI im ac sp en wg op aB aT se dn aG aO aN aD bv aY rn kd nu tv), (zaI aS cS 901 fS), (zaI aB cB 6 fB), (zaI aT cT 64 fT), (zaI aG cG 9 fG)]) [0, 1, 2, 3, 4] (by decide) rfl
      have hKc := hK.sub (tys' := [(cS, .int), (cB, .int), (cT, .boolean), (cG, .int)]) [0, 1, 2, 3] rfl
      have hFc := va_free (wc := [(zo14irriiiiiirriirrrrlriiii m0 th aS aI im ac sp en wg op aB aT se dn aG aO aN aD bv aY rn kd nu tv), (zaI aS cS 901 fS), (zaI aB cB 6 fB), (zaI aT cT 64 fT), (zaI aG cG 9 fG)]) hD hS hA [0, 1, 2, 3, 4] rfl
      refine va_calli (va_runV (As := [.int (nI j_3), .int (nI j_9)]) (rest := []) ⟨hx, hb, hml, hown, hts⟩ (c_stepsOf l dC dI m0 aS aI aB aT aG aO aN aD aY th im ac sp en wg op se dn rn kd nu tv bv cS cB cT cG fS fB fT fG n (nI j_3) (nI j_9) cz H.size (zn) (hn) (zh)) (cwV 2 hts gX12_cuts_X12_stepsOf rfl rfl rfl hd_yX12_stepsOf ⟨Nat.le_of_ble_eq_true rfl, Nat.le_of_ble_eq_true rfl⟩) ⟨fun a U g mk q => by obtain ⟨q0, q1, qP, qK, qD⟩ := q; exact ⟨q0, mvz g mk a q1, mvP g mk a qP, mvK g mk a qK, qD⟩, va_recv hK hP (ci := 14) (q := (RX12, TX12, 23)) (q0 := 0) rfl rfl, fun U hU hW => ⟨rfl, by rw [hU], by rw [hU]; exact hPc, va_K.moved hW.alike hKc, hDc.weaken (fun _ _ _ _ => trivial)⟩⟩ rfl rfl hl.1 rfl (lv_room (Nat.le_of_ble_eq_true rfl)) dX12_cuts_23 ⟨Nat.le_of_ble_eq_true rfl, Nat.le_of_ble_eq_true rfl⟩) hS (fun q _ h => hFc q h) hFc (fun r_13 u tC H1 locs htC hvm hw_14 hB hz1 hk1 hS => ?_)
      obtain ⟨fB9_15, fT9_16, se9_17, dn9_18, fG9_19⟩ := u
      try dsimp only at hw_14 hB
      obtain ⟨hP1, hK1, hD1⟩ := hB
      rw [htC] at hP1
      have hK1 := va_K.moved hvm.symm hK1
      obtain ⟨hP, hD⟩ := va_join (wr := []) (w1 := [(zo14irriiiiiirriirrrrlriiii m0 th aS aI im ac sp en wg op aB aT se9_17 dn9_18 aG aO aN aD bv aY rn kd nu tv), (zaI aS cS 901 fS), (zaI aB cB 6 fB9_15), (zaI aT cT 64 fT9_16), (zaI aG cG 9 fG9_19)]) hP hD [0, 1, 2, 3, 4] [] rfl rfl (by decide) (by decide) hk1 hFc hP1 hD1
      have hK := (hK.sub (tys' := []) [] rfl).app hK1
      generalize H1 = H at hP hS ⊢
      have hP : va_P (dC, dI) vwCl [(zo14irriiiiiirriirrrrlriiii m0 th aS aI im ac sp en wg op aB aT se9_17 dn9_18 aG aO aN aD bv aY rn kd nu tv), (zaI aS cS 901 fS), (zaI aB cB 6 fB9_15), (zaI aT cT 64 fT9_16), (zaI aG cG 9 fG9_19)] H := hP
      have hD : va_D A [(zo14irriiiiiirriirrrrlriiii m0 th aS aI im ac sp en wg op aB aT se9_17 dn9_18 aG aO aN aD bv aY rn kd nu tv), (zaI aS cS 901 fS), (zaI aB cB 6 fB9_15), (zaI aT cT 64 fT9_16), (zaI aG cG 9 fG9_19)] := hD
      have hK : va_K (dC, dI) vwCl [(cS, .int), (cB, .int), (cT, .boolean), (cG, .int)] s := hK
      obtain ⟨hs1, rfl⟩ := hw_14
      refine lv_bipush (v := (-5)) hx hb dX12_cuts_26 (by decide) ?_
      refine lv_icmp_ne (tgt := 33) hx hb dX12_cuts_28 (by decide) (fun c_20 => ?_) (fun c_20 => ?_)
      · skip
        obtain ⟨B9, hB9⟩ : ∃ B : Nat → Int32, B = gbI (cuP fG9_19 n j_3 j_9) := ⟨_, rfl⟩
        refine lv_iconst (v := 0) hx hb dX12_cuts_33 (by decide) ?_
        refine lv_istore (lv' := [(4, .int 0), (3, .int 0), (0, .ref m0), (1, .int (nI j_3)), (2, .int (nI j_9))]) hx hb dX12_cuts_34 hl (by decide) rfl (fun ls hl => ?_)
        have L36 : ∀ (nF : Nat) (i : Nat) (q : Int32), n - i < nF → (i ≤ n) → (q = B9 i) → ∀ (H : Heap) (locs : List Loc), va_K (dC, dI) vwCl [(cS, .int), (cB, .int), (cT, .boolean), (cG, .int)] s → va_P (dC, dI) vwCl [(zo14irriiiiiirriirrrrlriiii m0 th aS aI im ac sp en wg op aB aT se9_17 dn9_18 aG aO aN aD bv aY rn kd nu tv), (zaI aS cS 901 fS), (zaI aB cB 6 fB9_15), (zaI aT cT 64 fT9_16), (zaI aG cG 9 fG9_19)] H → va_D A [(zo14irriiiiiirriirrrrlriiii m0 th aS aI im ac sp en wg op aB aT se9_17 dn9_18 aG aO aN aD bv aY rn kd nu tv), (zaI aS cS 901 fS), (zaI aB cB 6 fB9_15), (zaI aT cT 64 fT9_16), (zaI aG cG 9 fG9_19)] → va_S A s.heap H locs → ∀ (ls : Array Slot), lv_has ls 5 [(0, .ref m0), (1, .int (nI j_3)), (2, .int (nI j_9)), (3, .int q), (4, .int (nI i))] → W p l e ({ frames := 6, cells := 0, slots := 0, locals := 147 } : Room) s m args below meth c H locs 0 0 Q (F0 m 36 ls []) := by
          intro nF
          induction nF with
          | zero => intro i q hm; exact absurd hm (Nat.not_lt_zero _)
          | succ nF ih36 =>
            intro i q hm hi hq9 H locs hK hP hD hS ls hl
            refine lv_iload hx hb dX12_cuts_36 (lv_at hl 4 rfl) ?_
            refine lv_aload_n hx hb dX12_cuts_38 rfl (lv_at hl 0 rfl) ?_
            refine va_get (D := (dC, dI)) (ci := 14) (v := .ref aS) (C := RX12) (T := TX12) (N := 23) hx hb hts kc_mCuts_0 hown hK hP 0 rfl rfl 1 (by decide) (hts (.fieldLink RX12 9 "MistHeapsModel" "s" "[I") kc_mCuts_1) (fun _ h9 => h9) rfl dX12_cuts_39 ?_
            refine lv_iconst (v := 0) hx hb dX12_cuts_42 (by decide) ?_
            refine va_iald hx hb hK hP 1 0 rfl rfl (vp_in_nI (n := 0) (N := 901) (by omega) (by omega)) dX12_cuts_43 ?_
            refine qi_as (y := nI n) ((show fS (0 : Int32).toNatClampNeg = fS 0 from rfl).trans (zn)) ?_
            refine lv_icmp_ge (tgt := 91) hx hb dX12_cuts_44 (by decide) (fun c_21 => ?_) (fun c_21 => ?_)
            · skip
              have c_21 : n ≤ i := (nI_leI (a := n) (b := i) (by omega) (by omega)).mp c_21
              refine lv_iload_n hx hb dX12_cuts_91 rfl (lv_at hl 3 rfl) ?_
              rw [hQ]
              have hP9 := hP.sub (ws' := [(zo14irriiiiiirriirrrrlriiii m0 th aS aI im ac sp en wg op aB aT se9_17 dn9_18 aG aO aN aD bv aY rn kd nu tv), (zaI aS cS 901 fS), (zaI aB cB 6 fB9_15), (zaI aT cT 64 fT9_16), (zaI aG cG 9 fG9_19)]) [0, 1, 2, 3, 4] rfl
              have hD9 := hD.sub (ws' := [(zo14irriiiiiirriirrrrlriiii m0 th aS aI im ac sp en wg op aB aT se9_17 dn9_18 aG aO aN aD bv aY rn kd nu tv), (zaI aS cS 901 fS), (zaI aB cB 6 fB9_15), (zaI aT cT 64 fT9_16), (zaI aG cG 9 fG9_19)]) [0, 1, 2, 3, 4] (by decide) rfl
              have hK9 := hK.sub (tys' := [(cS, .int), (cB, .int), (cT, .boolean), (cG, .int)]) [0, 1, 2, 3] rfl
              exact W.iret (v := q) hx hb hr (fun tQ htQ hWQ => ⟨⟨q, (fB9_15, fT9_16, se9_17, dn9_18, fG9_19), rfl, cu_m hn (by omega) (by omega) (row_m hs1 zkd zvv zc zmi zsn) (cu_n c_20 hB9 hq9 (by omega)), by rw [htQ]; exact hP9, va_K.moved hWQ.alike hK9, hD9⟩, hS.F htQ⟩) hS.2.2 dX12_cuts_92
            · skip
              have c_21 : ¬ n ≤ i := fun q => c_21 ((nI_leI (a := n) (b := i) (by omega) (by omega)).mpr q)
              refine lv_iload_n hx hb dX12_cuts_47 rfl (lv_at hl 3 rfl) ?_
              refine lv_iload hx hb dX12_cuts_48 (lv_at hl 4 rfl) ?_
              refine lv_iload_n hx hb dX12_cuts_50 rfl (lv_at hl 1 rfl) ?_
              refine lv_icmp_eq (tgt := 82) hx hb dX12_cuts_51 (by decide) (fun c_22 => ?_) (fun c_22 => ?_)
              · skip
                have c_22 : i = j_3 := (nI_eq (a := i) (b := j_3) (by omega) (by omega)).mp c_22
                refine lv_iconst (v := 0) hx hb dX12_cuts_82 (by decide) ?_
                refine lv_ior hx hb dX12_cuts_83 ?_
                refine lv_istore_n (lv' := [(3, .int (q ||| 0)), (0, .ref m0), (1, .int (nI j_3)), (2, .int (nI j_9)), (4, .int (nI i))]) hx hb dX12_cuts_84 rfl hl (by decide) rfl (fun ls hl => ?_)
                refine lv_iinc (v := nI (i + 1)) (lv' := [(4, .int (nI (i + 1))), (3, .int (q ||| 0)), (0, .ref m0), (1, .int (nI j_3)), (2, .int (nI j_9))]) hx hb dX12_cuts_85 hl (k := 4) rfl (nI_add i 1) (by decide) rfl (fun ls hl => ?_)
                refine lv_goto (tgt := 36) hx hb dX12_cuts_88 (by decide) ?_
                exact ih36 (i + 1) (q ||| 0) (by omega) (by omega) (cu_f hB9 hq9 (fun z9 => z9.1 (by omega))) _ _ (hK.sub [0, 1, 2, 3] rfl) (hP.sub [0, 1, 2, 3, 4] rfl) (hD.sub [0, 1, 2, 3, 4] (by decide) rfl) hS ls (lv_sub hl [2, 3, 4, 1, 0] rfl)
              · skip
                have c_22 : ¬ i = j_3 := fun q => c_22 ((nI_eq (a := i) (b := j_3) (by omega) (by omega)).mpr q)
                refine lv_iload hx hb dX12_cuts_54 (lv_at hl 4 rfl) ?_
                refine lv_iload_n hx hb dX12_cuts_56 rfl (lv_at hl 2 rfl) ?_
                refine lv_icmp_eq (tgt := 82) hx hb dX12_cuts_57 (by decide) (fun c_23 => ?_) (fun c_23 => ?_)
                · skip
                  have c_23 : i = j_9 := (nI_eq (a := i) (b := j_9) (by omega) (by omega)).mp c_23
                  refine lv_iconst (v := 0) hx hb dX12_cuts_82 (by decide) ?_
                  refine lv_ior hx hb dX12_cuts_83 ?_
                  refine lv_istore_n (lv' := [(3, .int (q ||| 0)), (0, .ref m0), (1, .int (nI j_3)), (2, .int (nI j_9)), (4, .int (nI i))]) hx hb dX12_cuts_84 rfl hl (by decide) rfl (fun ls hl => ?_)
                  refine lv_iinc (v := nI (i + 1)) (lv' := [(4, .int (nI (i + 1))), (3, .int (q ||| 0)), (0, .ref m0), (1, .int (nI j_3)), (2, .int (nI j_9))]) hx hb dX12_cuts_85 hl (k := 4) rfl (nI_add i 1) (by decide) rfl (fun ls hl => ?_)
                  refine lv_goto (tgt := 36) hx hb dX12_cuts_88 (by decide) ?_
                  exact ih36 (i + 1) (q ||| 0) (by omega) (by omega) (cu_f hB9 hq9 (fun z9 => z9.2.1 (by omega))) _ _ (hK.sub [0, 1, 2, 3] rfl) (hP.sub [0, 1, 2, 3, 4] rfl) (hD.sub [0, 1, 2, 3, 4] (by decide) rfl) hS ls (lv_sub hl [2, 3, 4, 1, 0] rfl)
                · skip
                  have c_23 : ¬ i = j_9 := fun q => c_23 ((nI_eq (a := i) (b := j_9) (by omega) (by omega)).mpr q)
                  refine lv_aload_n hx hb dX12_cuts_60 rfl (lv_at hl 0 rfl) ?_
                  refine lv_iload_n hx hb dX12_cuts_61 rfl (lv_at hl 1 rfl) ?_
                  refine lv_iload_n hx hb dX12_cuts_62 rfl (lv_at hl 2 rfl) ?_
                  refine lv_iconst (v := 1) hx hb dX12_cuts_63 (by decide) ?_
                  refine lv_iload hx hb dX12_cuts_64 (lv_at hl 4 rfl) ?_
                  refine lv_ishl hx hb dX12_cuts_66 ?_
                  have hPc := hP.sub (ws' := [(zo14irriiiiiirriirrrrlriiii m0 th aS aI im ac sp en wg op aB aT se9_17 dn9_18 aG aO aN aD bv aY rn kd nu tv), (zaI aS cS 901 fS), (zaI aG cG 9 fG9_19)]) [0, 1, 4] rfl
                  have hKc := hK.sub (tys' := [(cS, .int), (cG, .int)]) [0, 3] rfl
                  refine vp_callSi (va_runV (As := [.int (nI j_3), .int (nI j_9), .int (1 <<< ((nI i) &&& 31))]) (rest := [.int q]) ⟨hx, hb, hml, hown, hts⟩ (c_stepsBut l dC dI m0 aS aI aB aT aG aO aN aD aY th im ac sp en wg op se9_17 dn9_18 rn kd nu tv bv cS cG fS fG9_19 n (nI j_3) (nI j_9) (1 <<< ((nI i) &&& 31)) (zn) (hn)) (cwV 3 hts gX12_cuts_X12_stepsBut rfl rfl rfl hd_yX12_stepsBut ⟨Nat.le_of_ble_eq_true rfl, Nat.le_of_ble_eq_true rfl⟩) ⟨fun a U g mk q => by obtain ⟨q0, qP, qK⟩ := q; exact ⟨q0, mvP g mk a qP, mvK g mk a qK⟩, va_recv hK hP (ci := 14) (q := (RX12, TX12, 23)) (q0 := 0) rfl rfl, fun U hU hW => ⟨rfl, by rw [hU]; exact hPc, va_K.moved hW.alike hKc⟩⟩ rfl rfl hl.1 rfl (lv_room (Nat.le_of_ble_eq_true rfl)) dX12_cuts_67 ⟨Nat.le_of_ble_eq_true rfl, Nat.le_of_ble_eq_true rfl⟩).run (fun r_24 hw_25 => ?_)
                  obtain rfl := hw_25
                  refine lv_bipush (v := (-5)) hx hb dX12_cuts_70 (by decide) ?_
                  refine lv_icmp_ne (tgt := 82) hx hb dX12_cuts_72 (by decide) (fun c_26 => ?_) (fun c_26 => ?_)
                  · skip
                    refine lv_iconst (v := 0) hx hb dX12_cuts_82 (by decide) ?_
                    refine lv_ior hx hb dX12_cuts_83 ?_
                    refine lv_istore_n (lv' := [(3, .int (q ||| 0)), (0, .ref m0), (1, .int (nI j_3)), (2, .int (nI j_9)), (4, .int (nI i))]) hx hb dX12_cuts_84 rfl hl (by decide) rfl (fun ls hl => ?_)
                    refine lv_iinc (v := nI (i + 1)) (lv' := [(4, .int (nI (i + 1))), (3, .int (q ||| 0)), (0, .ref m0), (1, .int (nI j_3)), (2, .int (nI j_9))]) hx hb dX12_cuts_85 hl (k := 4) rfl (nI_add i 1) (by decide) rfl (fun ls hl => ?_)
                    refine lv_goto (tgt := 36) hx hb dX12_cuts_88 (by decide) ?_
                    exact ih36 (i + 1) (q ||| 0) (by omega) (by omega) (cu_f hB9 hq9 (fun z9 => c_26 z9.2.2)) _ _ (hK.sub [0, 1, 2, 3] rfl) (hP.sub [0, 1, 2, 3, 4] rfl) (hD.sub [0, 1, 2, 3, 4] (by decide) rfl) hS ls (lv_sub hl [2, 3, 4, 1, 0] rfl)
                  · skip
                    refine lv_iconst (v := 1) hx hb dX12_cuts_75 (by decide) ?_
                    refine lv_iload hx hb dX12_cuts_76 (lv_at hl 4 rfl) ?_
                    refine lv_ishl hx hb dX12_cuts_78 ?_
                    refine lv_goto (tgt := 83) hx hb dX12_cuts_79 (by decide) ?_
                    refine lv_ior hx hb dX12_cuts_83 ?_
                    refine lv_istore_n (lv' := [(3, .int (q ||| (1 <<< ((nI i) &&& 31)))), (0, .ref m0), (1, .int (nI j_3)), (2, .int (nI j_9)), (4, .int (nI i))]) hx hb dX12_cuts_84 rfl hl (by decide) rfl (fun ls hl => ?_)
                    refine lv_iinc (v := nI (i + 1)) (lv' := [(4, .int (nI (i + 1))), (3, .int (q ||| (1 <<< ((nI i) &&& 31)))), (0, .ref m0), (1, .int (nI j_3)), (2, .int (nI j_9))]) hx hb dX12_cuts_85 hl (k := 4) rfl (nI_add i 1) (by decide) rfl (fun ls hl => ?_)
                    refine lv_goto (tgt := 36) hx hb dX12_cuts_88 (by decide) ?_
                    exact ih36 (i + 1) (q ||| (1 <<< ((nI i) &&& 31))) (by omega) (by omega) (cu_t hB9 hq9 ⟨by omega, by omega, c_26⟩) _ _ (hK.sub [0, 1, 2, 3] rfl) (hP.sub [0, 1, 2, 3, 4] rfl) (hD.sub [0, 1, 2, 3, 4] (by decide) rfl) hS ls (lv_sub hl [2, 3, 4, 1, 0] rfl)
        exact L36 _ (0) (0) (Nat.lt_succ_self _) (by omega) (by rw [hB9]; rfl) _ _ (hK.sub [0, 1, 2, 3] rfl) (hP.sub [0, 1, 2, 3, 4] rfl) (hD.sub [0, 1, 2, 3, 4] (by decide) rfl) hS ls (lv_sub hl [2, 3, 4, 1, 0] rfl)
      · skip
        refine lv_iconst (v := 0) hx hb dX12_cuts_31 (by decide) ?_
        rw [hQ]
        have hP9 := hP.sub (ws' := [(zo14irriiiiiirriirrrrlriiii m0 th aS aI im ac sp en wg op aB aT se9_17 dn9_18 aG aO aN aD bv aY rn kd nu tv), (zaI aS cS 901 fS), (zaI aB cB 6 fB9_15), (zaI aT cT 64 fT9_16), (zaI aG cG 9 fG9_19)]) [0, 1, 2, 3, 4] rfl
        have hD9 := hD.sub (ws' := [(zo14irriiiiiirriirrrrlriiii m0 th aS aI im ac sp en wg op aB aT se9_17 dn9_18 aG aO aN aD bv aY rn kd nu tv), (zaI aS cS 901 fS), (zaI aB cB 6 fB9_15), (zaI aT cT 64 fT9_16), (zaI aG cG 9 fG9_19)]) [0, 1, 2, 3, 4] (by decide) rfl
        have hK9 := hK.sub (tys' := [(cS, .int), (cB, .int), (cT, .boolean), (cG, .int)]) [0, 1, 2, 3] rfl
        exact W.iret (v := 0) hx hb hr (fun tQ htQ hWQ => ⟨⟨0, (fB9_15, fT9_16, se9_17, dn9_18, fG9_19), rfl, cu_m hn (by omega) (by omega) (row_m hs1 zkd zvv zc zmi zsn) (cu_0 c_20), by rw [htQ]; exact hP9, va_K.moved hWQ.alike hK9, hD9⟩, hS.F htQ⟩) hS.2.2 dX12_cuts_32
    · skip
      refine lv_if_ne (tgt := 18) hx hb dX12_cuts_13 (by decide) (fun c_27 => absurd c_27 (by decide)) (fun _ => ?_)
      refine lv_iconst (v := (-1)) hx hb dX12_cuts_16 (by decide) ?_
      rw [hQ]
      have hP9 := hP.sub (ws' := [(zo14irriiiiiirriirrrrlriiii m0 th aS aI im ac sp en wg op aB aT se dn aG aO aN aD bv aY rn kd nu tv), (zaI aS cS 901 fS), (zaI aB cB 6 fB), (zaI aT cT 64 fT), (zaI aG cG 9 fG)]) [0, 1, 2, 3, 4] rfl
      have hD9 := hD.sub (ws' := [(zo14irriiiiiirriirrrrlriiii m0 th aS aI im ac sp en wg op aB aT se dn aG aO aN aD bv aY rn kd nu tv), (zaI aS cS 901 fS), (zaI aB cB 6 fB), (zaI aT cT 64 fT), (zaI aG cG 9 fG)]) [0, 1, 2, 3, 4] (by decide) rfl
      have hK9 := hK.sub (tys' := [(cS, .int), (cB, .int), (cT, .boolean), (cG, .int)]) [0, 1, 2, 3] rfl
      exact W.iret (v := (-1)) hx hb hr (fun tQ htQ hWQ => ⟨⟨(-1), (fB, fT, se, dn, fG), rfl, by first | exact two_no1 (by assumption) | exact two_no2 (by assumption), by rw [htQ]; exact hP9, va_K.moved hWQ.alike hK9, hD9⟩, hS.F htQ⟩) hS.2.2 dX12_cuts_17
  · skip
    refine lv_if_eq (tgt := 16) hx hb dX12_cuts_5 (by decide) (fun _ => ?_) (fun c_28 => absurd c_28 (by decide))
    refine lv_iconst (v := (-1)) hx hb dX12_cuts_16 (by decide) ?_
    rw [hQ]
    have hP9 := hP.sub (ws' := [(zo14irriiiiiirriirrrrlriiii m0 th aS aI im ac sp en wg op aB aT se dn aG aO aN aD bv aY rn kd nu tv), (zaI aS cS 901 fS), (zaI aB cB 6 fB), (zaI aT cT 64 fT), (zaI aG cG 9 fG)]) [0, 1, 2, 3, 4] rfl
    have hD9 := hD.sub (ws' := [(zo14irriiiiiirriirrrrlriiii m0 th aS aI im ac sp en wg op aB aT se dn aG aO aN aD bv aY rn kd nu tv), (zaI aS cS 901 fS), (zaI aB cB 6 fB), (zaI aT cT 64 fT), (zaI aG cG 9 fG)]) [0, 1, 2, 3, 4] (by decide) rfl
    have hK9 := hK.sub (tys' := [(cS, .int), (cB, .int), (cT, .boolean), (cG, .int)]) [0, 1, 2, 3] rfl
    exact W.iret (v := (-1)) hx hb hr (fun tQ htQ hWQ => ⟨⟨(-1), (fB, fT, se, dn, fG), rfl, by first | exact two_no1 (by assumption) | exact two_no2 (by assumption), by rw [htQ]; exact hP9, va_K.moved hWQ.alike hK9, hD9⟩, hS.F htQ⟩) hS.2.2 dX12_cuts_17
end mg05
