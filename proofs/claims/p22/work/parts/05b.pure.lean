
/-- a code of the reference, by its token: tests below 1800, 1801 not, 1802 and, 1803 or, from 2000 on the end of a clause -/
noncomputable def rcd (k : Nat) : Int32 := if k < 1800 then nI (k / 300 + 8 * (k / 100 % 3) + 32 * (k % 100)) else if k < 2000 then nI 1800 - nI k else nI 0 - nI ([10, 200, 0, 400].getD ((k - 2000) / 100) 0) - nI ((k - 2000) % 100)
/-! a hill's text, read: the signs as numbers (0: none, or behind the end) -/
noncomputable abbrev pR := Option (List Nat) × Nat
noncomputable abbrev isD (c : Nat) : Prop := 48 ≤ c ∧ c ≤ 57
noncomputable def pNum (s : Nat → Nat) (p : Nat) : Option Nat × Nat := if isD (s p) then (if 48 < s p ∧ isD (s (p + 1)) then (some ((s p - 48) * 10 + (s (p + 1) - 48)), p + 2) else (some (s p - 48), p + 1)) else (none, p)
noncomputable def ix6 (c : Nat) : Option Nat := if c = 104 then some 0 else if c = 107 then some 1 else if c = 114 then some 2 else if c = 99 then some 3 else if c = 109 then some 4 else if c = 115 then some 5 else none
noncomputable def ix3 (c : Nat) : Option Nat := if c = 60 then some 0 else if c = 61 then some 1 else if c = 62 then some 2 else none
noncomputable def pTest (s : Nat → Nat) (p : Nat) : pR := match ix6 (s p) with
  | none => (none, p)
  | some a => match ix3 (s (p + 1)) with
    | none => (none, p + 1)
    | some b => match pNum s (p + 2) with
      | (none, q) => (none, q)
      | (some v, q) => (some [a * 300 + b * 100 + v], q)
noncomputable def pSep (s : Nat → Nat) (sep op : Nat) (F : Nat → pR) : Nat → pR → pR
  | 0, r => r
  | _ + 1, (none, p) => (none, p)
  | m + 1, (some L, p) => if s p = sep then (match F (p + 1) with
    | (none, q) => (none, q)
    | (some M, q) => pSep s sep op F m (some (L ++ (M ++ [op])), q)) else (some L, p)
noncomputable def pEv (s : Nat → Nat) (F : Nat → pR) (p : Nat) : pR := pSep s 38 1802 F 101 (F p)
noncomputable def pSm (s : Nat → Nat) (F : Nat → pR) (p : Nat) : pR := pSep s 124 1803 (pEv s F) 101 (pEv s F p)
noncomputable def pFac (s : Nat → Nat) : Nat → Nat → pR
  | 0, p => if s p = 33 then (none, p) else if s p = 40 then (none, p) else pTest s p
  | l + 1, p => if s p = 33 then (match pFac s l (p + 1) with
    | (none, q) => (none, q)
    | (some L, q) => (some (L ++ [1801]), q)) else if s p = 40 then (match pSm s (pFac s l) (p + 1) with
    | (none, q) => (none, q)
    | (some L, q) => if s q = 41 then (some L, q + 1) else (none, q)) else pTest s p
section
variable {s : Nat → Nat} {p q : Nat}
theorem pn_no (h : ¬ isD (s p)) : pNum s p = (none, p) := if_neg h
theorem pn_1 (h : isD (s p)) (h2 : ¬ (48 < s p ∧ isD (s (p + 1)))) : pNum s p = (some (s p - 48), p + 1) := by rw [pNum, if_pos h, if_neg h2]
theorem pn_2 (h : isD (s p)) (h2 : 48 < s p ∧ isD (s (p + 1))) : pNum s p = (some ((s p - 48) * 10 + (s (p + 1) - 48)), p + 2) := by rw [pNum, if_pos h, if_pos h2]
theorem pt_1 (h : ix6 (s p) = none) : pTest s p = (none, p) := by simp only [pTest, h]
theorem pt_2 {a : Nat} (h : ix6 (s p) = some a) (h2 : ix3 (s (p + 1)) = none) : pTest s p = (none, p + 1) := by simp only [pTest, h, h2]
theorem pt_3 {a b : Nat} (h : ix6 (s p) = some a) (h2 : ix3 (s (p + 1)) = some b) (h3 : pNum s (p + 2) = (none, q)) : pTest s p = (none, q) := by simp only [pTest, h, h2, h3]
theorem pt_4 {a b v : Nat} (h : ix6 (s p) = some a) (h2 : ix3 (s (p + 1)) = some b) (h3 : pNum s (p + 2) = (some v, q)) : pTest s p = (some [a * 300 + b * 100 + v], q) := by simp only [pTest, h, h2, h3]
variable {sep op m : Nat} {F : Nat → pR} {L M : List Nat}
theorem ps_end (h : ¬ s p = sep) : pSep s sep op F m (some L, p) = (some L, p) := by
  cases m with
  | zero => rfl
  | succ m => simp only [pSep, if_neg h]
theorem ps_none : pSep s sep op F m (none, p) = (none, p) := by
  cases m with
  | zero => rfl
  | succ m => rfl
theorem ps_bad (h : s p = sep) (h2 : F (p + 1) = (none, q)) : pSep s sep op F (m + 1) (some L, p) = (none, q) := by simp only [pSep, if_pos h, h2]
theorem ps_go (h : s p = sep) (h2 : F (p + 1) = (some M, q)) : pSep s sep op F (m + 1) (some L, p) = pSep s sep op F m (some (L ++ (M ++ [op])), q) := by simp only [pSep, if_pos h, h2]
variable {l : Nat}
theorem pf_t (h1 : ¬ s p = 33) (h2 : ¬ s p = 40) : pFac s l p = pTest s p := by
  cases l with
  | zero => simp only [pFac, if_neg h1, if_neg h2]
  | succ l => simp only [pFac, if_neg h1, if_neg h2]
theorem pf_0 (h : s p = 33 ∨ s p = 40) : pFac s 0 p = (none, p) := by
  by_cases h1 : s p = 33
  · simp only [pFac, if_pos h1]
  · have h2 : s p = 40 := h.resolve_left h1
    simp only [pFac, if_neg h1, if_pos h2]
theorem pf_n0 (h : s p = 33) (h2 : pFac s l (p + 1) = (none, q)) : pFac s (l + 1) p = (none, q) := by simp only [pFac, if_pos h, h2]
theorem pf_n1 (h : s p = 33) (h2 : pFac s l (p + 1) = (some L, q)) : pFac s (l + 1) p = (some (L ++ [1801]), q) := by simp only [pFac, if_pos h, h2]
theorem pf_b0 (h : s p = 40) (h2 : pSm s (pFac s l) (p + 1) = (none, q)) : pFac s (l + 1) p = (none, q) := by
  have h1 : ¬ s p = 33 := by omega
  simp only [pFac, if_neg h1, if_pos h, h2]
theorem pf_b1 (h : s p = 40) (h2 : pSm s (pFac s l) (p + 1) = (some L, q)) (h3 : ¬ s q = 41) : pFac s (l + 1) p = (none, q) := by
  have h1 : ¬ s p = 33 := by omega
  simp only [pFac, if_neg h1, if_pos h, h2, if_neg h3]
theorem pf_b2 (h : s p = 40) (h2 : pSm s (pFac s l) (p + 1) = (some L, q)) (h3 : s q = 41) : pFac s (l + 1) p = (some L, q + 1) := by
  have h1 : ¬ s p = 33 := by omega
  simp only [pFac, if_neg h1, if_pos h, h2, if_pos h3]
end
/-! words, clauses, hills -/
noncomputable def mlen (s : Nat → Nat) : Nat → List Nat → Nat
  | _, [] => 0
  | p, c :: cs => if s p = c then mlen s (p + 1) cs + 1 else 0
noncomputable abbrev pCla := Nat × Nat × List Nat
noncomputable abbrev pC := Option pCla × Nat
noncomputable def pMch (s : Nat → Nat) (cs : List Nat) (n w p : Nat) : pC := if mlen s p cs = n then (match pNum s (p + n) with
  | (none, q) => (none, q)
  | (some v, q) => if s q = 32 then (match pSm s (pFac s 5) (q + 1) with
    | (none, r) => (none, r)
    | (some L, r) => (some (w, v, L), r)) else (none, q)) else (none, p + mlen s p cs)
noncomputable def pSgt (s : Nat → Nat) (p : Nat) : pC := if mlen s p [105, 103, 104, 116, 32] = 5 then (match pNum s (p + 5) with
  | (none, q) => (none, q)
  | (some v, q) => (some (2, v, []), q)) else (none, p + mlen s p [105, 103, 104, 116, 32])
noncomputable def pCl (s : Nat → Nat) (p : Nat) : pC := if s p = 115 then (if s (p + 1) = 101 then pMch s [101, 101, 32] 3 0 (p + 1) else pSgt s (p + 1)) else if s p = 104 then pMch s [104, 105, 100, 101, 32] 5 1 p else if s p = 100 then pMch s [100, 114, 105, 102, 116, 32] 6 3 p else (none, p)
/-- behind a clause: m more at most -/
noncomputable def pAf (s : Nat → Nat) (E : Nat) : Nat → List pCla → Nat → Option (List pCla) × Nat
  | 0, C, q => if q = E then (some C, q) else (none, q)
  | m + 1, C, q => if q = E then (some C, q) else if s q = 59 then (match pCl s (q + 1) with
    | (none, r) => (none, r)
    | (some c, r) => pAf s E m (C ++ [c]) r) else (none, q)
noncomputable def pBf (s : Nat → Nat) (E m : Nat) (C : List pCla) (p : Nat) : Option (List pCla) × Nat := match pCl s p with
  | (none, q) => (none, q)
  | (some c, q) => pAf s E m (C ++ [c]) q
noncomputable def pHl (s : Nat → Nat) (E : Nat) : Option (List pCla) × Nat := pBf s E 9 [] 0
/-- behind the word w -/
noncomputable def pRs (s : Nat → Nat) (w q : Nat) : pC := match pNum s q with
  | (none, r) => (none, r)
  | (some v, r) => if w = 2 then (some (2, v, []), r) else if s r = 32 then (match pSm s (pFac s 5) (r + 1) with
    | (none, t) => (none, t)
    | (some L, t) => (some (w, v, L), t)) else (none, r)
section
variable {s : Nat → Nat} {cs : List Nat} {n w p q r v : Nat} {L : List Nat}
theorem pm_1 (h : ¬ mlen s p cs = n) : pMch s cs n w p = (none, p + mlen s p cs) := if_neg h
theorem pm_2 (h : mlen s p cs = n) (h2 : pNum s (p + n) = (none, q)) : pMch s cs n w p = (none, q) := by simp only [pMch, if_pos h, h2]
theorem pm_3 (h : mlen s p cs = n) (h2 : pNum s (p + n) = (some v, q)) (h3 : ¬ s q = 32) : pMch s cs n w p = (none, q) := by simp only [pMch, if_pos h, h2, if_neg h3]
theorem pm_4 (h : mlen s p cs = n) (h2 : pNum s (p + n) = (some v, q)) (h3 : s q = 32) (h4 : pSm s (pFac s 5) (q + 1) = (none, r)) : pMch s cs n w p = (none, r) := by simp only [pMch, if_pos h, h2, if_pos h3, h4]
theorem pm_5 (h : mlen s p cs = n) (h2 : pNum s (p + n) = (some v, q)) (h3 : s q = 32) (h4 : pSm s (pFac s 5) (q + 1) = (some L, r)) : pMch s cs n w p = (some (w, v, L), r) := by simp only [pMch, if_pos h, h2, if_pos h3, h4]
theorem sg_1 (h : ¬ mlen s p [105, 103, 104, 116, 32] = 5) : pSgt s p = (none, p + mlen s p [105, 103, 104, 116, 32]) := if_neg h
theorem sg_2 (h : mlen s p [105, 103, 104, 116, 32] = 5) (h2 : pNum s (p + 5) = (none, q)) : pSgt s p = (none, q) := by simp only [pSgt, if_pos h, h2]
theorem sg_3 (h : mlen s p [105, 103, 104, 116, 32] = 5) (h2 : pNum s (p + 5) = (some v, q)) : pSgt s p = (some (2, v, []), q) := by simp only [pSgt, if_pos h, h2]
theorem cl_s1 (h : s p = 115) (h2 : s (p + 1) = 101) : pCl s p = pMch s [101, 101, 32] 3 0 (p + 1) := by rw [pCl, if_pos h, if_pos h2]
theorem cl_s2 (h : s p = 115) (h2 : ¬ s (p + 1) = 101) : pCl s p = pSgt s (p + 1) := by rw [pCl, if_pos h, if_neg h2]
theorem cl_h (h : s p = 104) : pCl s p = pMch s [104, 105, 100, 101, 32] 5 1 p := by rw [pCl, if_neg (show ¬ s p = 115 by omega), if_pos h]
theorem cl_d (h : s p = 100) : pCl s p = pMch s [100, 114, 105, 102, 116, 32] 6 3 p := by rw [pCl, if_neg (show ¬ s p = 115 by omega), if_neg (show ¬ s p = 104 by omega), if_pos h]
theorem cl_n (h1 : ¬ s p = 115) (h2 : ¬ s p = 104) (h3 : ¬ s p = 100) : pCl s p = (none, p) := by rw [pCl, if_neg h1, if_neg h2, if_neg h3]
variable {E m : Nat} {C : List pCla} {c : pCla}
theorem af_e (h : q = E) : pAf s E m C q = (some C, q) := by
  cases m with
  | zero => simp only [pAf, if_pos h]
  | succ m => simp only [pAf, if_pos h]
theorem af_0 (h : ¬ q = E) : pAf s E 0 C q = (none, q) := by simp only [pAf, if_neg h]
theorem af_n (h : ¬ q = E) (h2 : ¬ s q = 59) : pAf s E m C q = (none, q) := by
  cases m with
  | zero => simp only [pAf, if_neg h]
  | succ m => simp only [pAf, if_neg h, if_neg h2]
theorem af_b (h : ¬ q = E) (h2 : s q = 59) (h3 : pCl s (q + 1) = (none, r)) : pAf s E (m + 1) C q = (none, r) := by simp only [pAf, if_neg h, if_pos h2, h3]
theorem af_g (h : ¬ q = E) (h2 : s q = 59) (h3 : pCl s (q + 1) = (some c, r)) : pAf s E (m + 1) C q = pAf s E m (C ++ [c]) r := by simp only [pAf, if_neg h, if_pos h2, h3]
theorem bf_n (h : pCl s p = (none, q)) : pBf s E m C p = (none, q) := by simp only [pBf, h]
theorem bf_s (h : pCl s p = (some c, q)) : pBf s E m C p = pAf s E m (C ++ [c]) q := by simp only [pBf, h]
theorem hl_n (h : pCl s 0 = (none, q)) : pHl s E = (none, q) := bf_n h
theorem hl_s (h : pCl s 0 = (some c, q)) : pHl s E = pAf s E 9 [c] q := bf_s h
theorem af_go (h : ¬ q = E) (h2 : s q = 59) : pAf s E (m + 1) C q = pBf s E m C (q + 1) := by
  rcases hc : pCl s (q + 1) with ⟨_ | c, r⟩
  · rw [af_b h h2 hc, bf_n hc]
  · rw [af_g h h2 hc, bf_s hc]
theorem rs_1 (h : pNum s q = (none, r)) : pRs s w q = (none, r) := by simp only [pRs, h]
theorem rs_2 (h : pNum s q = (some v, r)) (hw : w = 2) : pRs s w q = (some (2, v, []), r) := by simp only [pRs, h, if_pos hw]
theorem rs_3 (h : pNum s q = (some v, r)) (hw : ¬ w = 2) (h3 : ¬ s r = 32) : pRs s w q = (none, r) := by simp only [pRs, h, if_neg hw, if_neg h3]
theorem rs_4 {t : Nat} (h : pNum s q = (some v, r)) (hw : ¬ w = 2) (h3 : s r = 32) (h4 : pSm s (pFac s 5) (r + 1) = (none, t)) : pRs s w q = (none, t) := by simp only [pRs, h, if_neg hw, if_pos h3, h4]
theorem rs_5 {t : Nat} (h : pNum s q = (some v, r)) (hw : ¬ w = 2) (h3 : s r = 32) (h4 : pSm s (pFac s 5) (r + 1) = (some L, t)) : pRs s w q = (some (w, v, L), t) := by simp only [pRs, h, if_neg hw, if_pos h3, h4]
theorem pm_rs (h : mlen s p cs = n) (hw : ¬ w = 2) : pMch s cs n w p = pRs s w (p + n) := by
  rcases hN : pNum s (p + n) with ⟨_ | v, r⟩
  · rw [pm_2 h hN, rs_1 hN]
  · by_cases h3 : s r = 32
    · rcases hS : pSm s (pFac s 5) (r + 1) with ⟨_ | L, t⟩
      · rw [pm_4 h hN h3 hS, rs_4 hN hw h3 hS]
      · rw [pm_5 h hN h3 hS, rs_5 hN hw h3 hS]
    · rw [pm_3 h hN h3, rs_3 hN hw h3]
theorem sg_rs (h : mlen s p [105, 103, 104, 116, 32] = 5) : pSgt s p = pRs s 2 (p + 5) := by
  rcases hN : pNum s (p + 5) with ⟨_ | v, r⟩
  · rw [sg_2 h hN, rs_1 hN]
  · rw [sg_3 h hN, rs_2 hN rfl]
theorem ml_c0 {c : Nat} (h : ¬ s p = c) : mlen s p (c :: cs) = 0 := by rw [mlen, if_neg h]
theorem ml_c1 {c : Nat} (h : s p = c) : mlen s p (c :: cs) = mlen s (p + 1) cs + 1 := by rw [mlen, if_pos h]
end
/-- the reference's row of tokens of clauses; how far one sees -/
noncomputable def fl1 (c : pCla) : List Nat := if c.1 = 2 then [] else c.2.2 ++ [2000 + 100 * c.1 + c.2.1]
noncomputable def flC : List pCla → List Nat
  | [] => []
  | c :: C => fl1 c ++ flC C
noncomputable def sgC (C : List pCla) : Nat := C.foldl (fun a c => if c.1 = 2 then c.2.1 else a) 3
theorem flC_add {C : List pCla} {c : pCla} : flC (C ++ [c]) = flC C ++ fl1 c := by
  induction C with
  | nil => simp [flC]
  | cons d C ih => simp only [List.cons_append, flC, ih, List.append_assoc]
theorem sgC_add {C : List pCla} {c : pCla} : sgC (C ++ [c]) = if c.1 = 2 then c.2.1 else sgC C := by
  simp only [sgC, List.foldl_append, List.foldl_cons, List.foldl_nil]
/-- the codes and the sight of a hill that is set -/
noncomputable def CDh (f : Nat → Int32) (a : Nat) (C : List pCla) : Prop := f (196 + a) = nI (flC C).length ∧ (∀ i, i < (flC C).length → f (201 + 140 * a + i) = rcd ((flC C).getD i 0)) ∧ (flC C).length ≤ 100 ∧ f (191 + a) = nI (sgC C)
theorem CDh_of {f g : Nat → Int32} {a : Nat} {C : List pCla} (h : CDh f a C) (he : ∀ i, (i = 191 + a ∨ i = 196 + a ∨ (201 + 140 * a ≤ i ∧ i < 201 + 140 * a + 140)) → g i = f i) : CDh g a C := ⟨(he _ (by omega)).trans h.1, fun i hi => (he _ (by have := h.2.2.1; omega)).trans (h.2.1 i hi), h.2.2.1, (he _ (by omega)).trans h.2.2.2⟩
/-! what a row of tokens says: a pile of truths; the class's pile of bits -/
noncomputable abbrev pM := Nat × (Nat → Bool)
noncomputable def tvU (tv : Nat → Bool) (k : Nat) (b : Bool) : Nat → Bool := fun j => if j = k then b else tv j
/-- is a test so? the fact's number, the relation, with what -/
noncomputable def tsB (fc : Nat → Int32) (k : Nat) : Bool := if k / 100 % 3 = 0 then decide (fc (k / 300) < nI (k % 100)) else if k / 100 % 3 = 1 then decide (fc (k / 300) = nI (k % 100)) else decide (nI (k % 100) < fc (k / 300))
noncomputable def mst (fc : Nat → Int32) (m : pM) (k : Nat) : pM := if k < 1800 then (m.1 + 1, tvU m.2 m.1 (tsB fc k)) else if k = 1801 then (m.1, tvU m.2 (m.1 - 1) (!m.2 (m.1 - 1))) else if k = 1802 then (m.1 - 1, tvU m.2 (m.1 - 2) (m.2 (m.1 - 2) && m.2 (m.1 - 1))) else (m.1 - 1, tvU m.2 (m.1 - 2) (m.2 (m.1 - 2) || m.2 (m.1 - 1)))
noncomputable def mrn (fc : Nat → Int32) (m : pM) (L : List Nat) : pM := L.foldl (mst fc) m
theorem mrn_add {fc : Nat → Int32} {m : pM} {L M : List Nat} : mrn fc m (L ++ M) = mrn fc (mrn fc m L) M := List.foldl_append
theorem tv_s {tv : Nat → Bool} {k : Nat} {b : Bool} : tvU tv k b k = b := if_pos rfl
theorem tv_n {tv : Nat → Bool} {k j : Nat} {b : Bool} (h : ¬ j = k) : tvU tv k b j = tv j := if_neg h
noncomputable def pst (fc : Nat → Int32) (q : Int32) (k : Nat) : Int32 := if k < 1800 then q <<< (1 &&& 31) ||| (if tsB fc k = true then 1 else 0) else if k = 1801 then q ^^^ 1 else if k = 1802 then q >>> (1 &&& 31) &&& (q ||| (-2)) else q >>> (1 &&& 31) ||| (q &&& 1)
noncomputable def prn (fc : Nat → Int32) (q : Int32) (L : List Nat) : Int32 := L.foldl (pst fc) q
theorem prn_add {fc : Nat → Int32} {q : Int32} {L M : List Nat} : prn fc q (L ++ M) = prn fc (prn fc q L) M := List.foldl_append
noncomputable def PB (q : Int32) (m : pM) : Prop := ∀ t, t < m.1 → bt q t = m.2 (m.1 - 1 - t)
theorem b1_0 : ∀ i, i < 32 → bt 1 i = decide (i = 0) := by decide +kernel
theorem bm2 : ∀ i, i < 32 → bt (-2) i = !decide (i = 0) := by decide +kernel
theorem b_l1 (x : Int32) {i : Nat} (hi : i < 32) : bt (x <<< ((1 : Int32) &&& 31)) i = (decide (1 ≤ i) && bt x (i - 1)) := b_shl 1 (by omega) x hi
theorem b_r1 (x : Int32) {i : Nat} (hi : i + 1 < 32) : bt (x >>> ((1 : Int32) &&& 31)) i = bt x (i + 1) := by
  have h := b_sshr 1 (by omega) x (i := i) (by omega)
  rw [if_pos (show 1 + i < 32 by omega), Nat.add_comm 1 i] at h
  exact h
section
variable {fc : Nat → Int32} {q : Int32} {m : pM} {k : Nat}
theorem pb_t (h : PB q m) (hk : k < 1800) (hm : m.1 < 32) : PB (pst fc q k) (mst fc m k) := by
  rw [pst, if_pos hk, mst, if_pos hk]
  intro t ht
  have ht : t < m.1 + 1 := ht
  show bt (q <<< (1 &&& 31) ||| (if tsB fc k = true then 1 else 0)) t = tvU m.2 m.1 (tsB fc k) (m.1 + 1 - 1 - t)
  rw [b_or, b_l1 _ (by omega)]
  by_cases e : t = 0
  · subst e
    rw [show m.1 + 1 - 1 - 0 = m.1 by omega, tv_s]
    rcases hb0 : tsB fc k with _ | _
    · rw [if_neg (by decide), b_0]; rfl
    · rw [if_pos rfl, b1_0 0 (by decide)]; rfl
  · have z : bt (if tsB fc k = true then (1 : Int32) else 0) t = false := by
      split
      · rw [b1_0 t (by omega)]; exact decide_eq_false e
      · exact b_0 t
    rw [tv_n (by omega), z, Bool.or_false, decide_eq_true (show 1 ≤ t by omega), Bool.true_and, h (t - 1) (by omega), show m.1 - 1 - (t - 1) = m.1 + 1 - 1 - t by omega]
theorem pb_n (h : PB q m) (h1 : 1 ≤ m.1) (hm : m.1 ≤ 32) : PB (pst fc q 1801) (mst fc m 1801) := by
  rw [pst, if_neg (by decide), if_pos rfl, mst, if_neg (by decide), if_pos rfl]
  intro t ht
  have ht : t < m.1 := ht
  show bt (q ^^^ 1) t = tvU m.2 (m.1 - 1) (!m.2 (m.1 - 1)) (m.1 - 1 - t)
  rw [b_xor, b1_0 t (by omega), h t ht]
  by_cases e : t = 0
  · subst e
    rw [Nat.sub_zero, tv_s]
    cases m.2 (m.1 - 1) <;> rfl
  · rw [tv_n (by omega), decide_eq_false e, Bool.xor_false]
theorem pb_a (h : PB q m) (h2 : 2 ≤ m.1) (hm : m.1 ≤ 31) : PB (pst fc q 1802) (mst fc m 1802) := by
  rw [pst, if_neg (by decide), if_neg (by decide), if_pos rfl, mst, if_neg (by decide), if_neg (by decide), if_pos rfl]
  intro t ht
  have ht : t < m.1 - 1 := ht
  show bt (q >>> (1 &&& 31) &&& (q ||| (-2))) t = tvU m.2 (m.1 - 2) (m.2 (m.1 - 2) && m.2 (m.1 - 1)) (m.1 - 1 - 1 - t)
  rw [b_and, b_or, b_r1 _ (by omega), bm2 t (by omega), h (t + 1) (by omega), h t (by omega)]
  by_cases e : t = 0
  · subst e
    rw [show m.1 - 1 - 1 - 0 = m.1 - 2 by omega, show m.1 - 1 - (0 + 1) = m.1 - 2 by omega, Nat.sub_zero, tv_s]
    cases m.2 (m.1 - 2) <;> cases m.2 (m.1 - 1) <;> rfl
  · rw [tv_n (by omega), decide_eq_false e, show m.1 - 1 - 1 - t = m.1 - 1 - (t + 1) by omega]
    cases m.2 (m.1 - 1 - (t + 1)) <;> cases m.2 (m.1 - 1 - t) <;> rfl
theorem pb_o (h : PB q m) (h2 : 2 ≤ m.1) (hm : m.1 ≤ 31) : PB (pst fc q 1803) (mst fc m 1803) := by
  rw [pst, if_neg (by decide), if_neg (by decide), if_neg (by decide), mst, if_neg (by decide), if_neg (by decide), if_neg (by decide)]
  intro t ht
  have ht : t < m.1 - 1 := ht
  show bt (q >>> (1 &&& 31) ||| (q &&& 1)) t = tvU m.2 (m.1 - 2) (m.2 (m.1 - 2) || m.2 (m.1 - 1)) (m.1 - 1 - 1 - t)
  rw [b_or, b_and, b_r1 _ (by omega), b1_0 t (by omega), h (t + 1) (by omega), h t (by omega)]
  by_cases e : t = 0
  · subst e
    rw [show m.1 - 1 - 1 - 0 = m.1 - 2 by omega, show m.1 - 1 - (0 + 1) = m.1 - 2 by omega, Nat.sub_zero, tv_s]
    cases m.2 (m.1 - 2) <;> cases m.2 (m.1 - 1) <;> rfl
  · rw [tv_n (by omega), decide_eq_false e, show m.1 - 1 - 1 - t = m.1 - 1 - (t + 1) by omega]
    cases m.2 (m.1 - 1 - (t + 1)) <;> cases m.2 (m.1 - 1 - t) <;> rfl
end
/-- what a token of a row of truths may be -/
noncomputable def tOk (k : Nat) : Prop := k < 1800 ∨ k = 1801 ∨ k = 1802 ∨ k = 1803
theorem tOk_lt {k : Nat} (h : tOk k) : k < 2000 := by
  unfold tOk at h
  omega
/-- a row that puts one truth, b, on the pile, never more than n above it -/
noncomputable def Gd (fc : Nat → Int32) (L : List Nat) (n : Nat) (b : Bool) : Prop := (∀ k, k ∈ L → tOk k) ∧ ∀ m : pM, ((mrn fc m L).1 = m.1 + 1 ∧ (mrn fc m L).2 m.1 = b ∧ ∀ j, j < m.1 → (mrn fc m L).2 j = m.2 j) ∧ ∀ q, PB q m → m.1 + n ≤ 31 → PB (prn fc q L) (mrn fc m L)
theorem Gd_mono {fc : Nat → Int32} {L : List Nat} {n w : Nat} {b : Bool} (h : Gd fc L n b) (hn : n ≤ w) : Gd fc L w b := ⟨h.1, fun m => ⟨(h.2 m).1, fun q hq hm => (h.2 m).2 q hq (by omega)⟩⟩
theorem Gd_t {fc : Nat → Int32} {k : Nat} (h : k < 1800) : Gd fc [k] 1 (tsB fc k) := by
  refine ⟨fun j hj => ?_, fun m => ?_⟩
  · rw [List.mem_singleton.mp hj]; exact Or.inl h
  · have e : mrn fc m [k] = (m.1 + 1, tvU m.2 m.1 (tsB fc k)) := by
      show mst fc m k = _
      rw [mst, if_pos h]
    refine ⟨?_, fun q hq hm => ?_⟩
    · rw [e]
      exact ⟨rfl, tv_s, fun j hj => tv_n (by omega)⟩
    · show PB (pst fc q k) (mst fc m k)
      exact pb_t hq h (by omega)
theorem Gd_n {fc : Nat → Int32} {L : List Nat} {n : Nat} {b : Bool} (h : Gd fc L n b) (hn : 1 ≤ n) : Gd fc (L ++ [1801]) n (!b) := by
  refine ⟨fun j hj => ?_, fun m => ?_⟩
  · rcases List.mem_append.mp hj with q | q
    · exact h.1 j q
    · rw [List.mem_singleton.mp q]; exact Or.inr (Or.inl rfl)
  · obtain ⟨⟨a1, a2, a3⟩, a4⟩ := h.2 m
    have e : mrn fc m (L ++ [1801]) = (m.1 + 1, tvU (mrn fc m L).2 m.1 (!b)) := by
      rw [mrn_add]
      show mst fc (mrn fc m L) 1801 = _
      rw [mst, if_neg (by decide), if_pos rfl, a1, Nat.add_sub_cancel, a2]
    refine ⟨?_, fun q hq hm => ?_⟩
    · rw [e]
      exact ⟨rfl, tv_s, fun j hj => (tv_n (by omega)).trans (a3 j hj)⟩
    · rw [prn_add, mrn_add]
      show PB (pst fc (prn fc q L) 1801) (mst fc (mrn fc m L) 1801)
      exact pb_n (a4 q hq hm) (by rw [a1]; omega) (by rw [a1]; omega)
theorem Gd_b {fc : Nat → Int32} {L M : List Nat} {n k o w : Nat} {b c : Bool} (h : Gd fc L n b) (h2 : Gd fc M k c) (ho : o = 1802 ∨ o = 1803) (hn : n ≤ w) (hk : k + 1 ≤ w) (hk1 : 1 ≤ k) : Gd fc (L ++ (M ++ [o])) w (if o = 1802 then b && c else b || c) := by
  refine ⟨fun j hj => ?_, fun m => ?_⟩
  · rcases List.mem_append.mp hj with q | q
    · exact h.1 j q
    · rcases List.mem_append.mp q with q | q
      · exact h2.1 j q
      · rw [List.mem_singleton.mp q]
        rcases ho with rfl | rfl
        · exact Or.inr (Or.inr (Or.inl rfl))
        · exact Or.inr (Or.inr (Or.inr rfl))
  · obtain ⟨⟨a1, a2, a3⟩, a4⟩ := h.2 m
    obtain ⟨⟨b1, b2, b3⟩, b4⟩ := h2.2 (mrn fc m L)
    have h3 : (mrn fc (mrn fc m L) M).1 = m.1 + 2 := by rw [b1, a1]
    have h4 : (mrn fc (mrn fc m L) M).2 m.1 = b := (b3 m.1 (by omega)).trans a2
    have h5 : (mrn fc (mrn fc m L) M).2 (m.1 + 1) = c := by rw [← a1]; exact b2
    have e : mrn fc m (L ++ (M ++ [o])) = (m.1 + 1, tvU (mrn fc (mrn fc m L) M).2 m.1 (if o = 1802 then b && c else b || c)) := by
      rw [mrn_add, mrn_add]
      show mst fc (mrn fc (mrn fc m L) M) o = _
      rcases ho with rfl | rfl
      · rw [mst, if_neg (by decide), if_neg (by decide), if_pos rfl, h3, show m.1 + 2 - 1 = m.1 + 1 by omega, show m.1 + 2 - 2 = m.1 by omega, h4, h5, if_pos rfl]
      · rw [mst, if_neg (by decide), if_neg (by decide), if_neg (by decide), h3, show m.1 + 2 - 1 = m.1 + 1 by omega, show m.1 + 2 - 2 = m.1 by omega, h4, h5, if_neg (by decide)]
    refine ⟨?_, fun q hq hm => ?_⟩
    · rw [e]
      exact ⟨rfl, tv_s, fun j hj => (tv_n (by omega)).trans ((b3 j (by omega)).trans (a3 j hj))⟩
    · rw [prn_add, prn_add, mrn_add, mrn_add]
      have h6 := b4 _ (a4 q hq (by omega)) (by rw [a1]; omega)
      rcases ho with rfl | rfl
      · show PB (pst fc (prn fc (prn fc q L) M) 1802) (mst fc (mrn fc (mrn fc m L) M) 1802)
        exact pb_a h6 (by rw [h3]; omega) (by rw [h3]; omega)
      · show PB (pst fc (prn fc (prn fc q L) M) 1803) (mst fc (mrn fc (mrn fc m L) M) 1803)
        exact pb_o h6 (by rw [h3]; omega) (by rw [h3]; omega)
/-- what a reader puts together is such a row -/
noncomputable def GdR (fc : Nat → Int32) (w : Nat) (r : pR) : Prop := ∀ L q, r = (some L, q) → ∃ b, Gd fc L w b
theorem GdR_0 {fc : Nat → Int32} {w q : Nat} : GdR fc w (none, q) := fun L t h => by cases h
theorem GdR_u {fc : Nat → Int32} {w v : Nat} {r : pR} (h : GdR fc w r) (hw : w ≤ v) : GdR fc v r := fun L q e => by
  obtain ⟨b, g⟩ := h L q e
  exact ⟨b, Gd_mono g hw⟩
theorem pn_le {s : Nat → Nat} {p v q : Nat} (h : pNum s p = (some v, q)) : v ≤ 99 := by
  by_cases h1 : isD (s p)
  · have h3 : 48 ≤ s p ∧ s p ≤ 57 := h1
    by_cases h2 : 48 < s p ∧ isD (s (p + 1))
    · have h4 : 48 ≤ s (p + 1) ∧ s (p + 1) ≤ 57 := h2.2
      rw [pn_2 h1 h2] at h
      cases h
      omega
    · rw [pn_1 h1 h2] at h
      cases h
      omega
  · rw [pn_no h1] at h
    cases h
theorem ix6_lt {c a : Nat} (h : ix6 c = some a) : a < 6 := by
  unfold ix6 at h
  repeat' split at h
  all_goals first | (cases h; decide) | cases h
theorem ix3_lt {c a : Nat} (h : ix3 c = some a) : a < 3 := by
  unfold ix3 at h
  repeat' split at h
  all_goals first | (cases h; decide) | cases h
theorem GdR_t {fc : Nat → Int32} {s : Nat → Nat} {p : Nat} : GdR fc 1 (pTest s p) := by
  rcases h1 : ix6 (s p) with _ | a
  · rw [pt_1 h1]; exact GdR_0
  · rcases h2 : ix3 (s (p + 1)) with _ | c
    · rw [pt_2 h1 h2]; exact GdR_0
    · rcases h3 : pNum s (p + 2) with ⟨_ | v, r⟩
      · rw [pt_3 h1 h2 h3]; exact GdR_0
      · rw [pt_4 h1 h2 h3]
        intro L q h
        cases h
        have h4 := pn_le h3
        have h5 := ix6_lt h1
        have h6 := ix3_lt h2
        exact ⟨_, Gd_t (by omega)⟩
theorem GdR_s {fc : Nat → Int32} {s : Nat → Nat} {sep o w : Nat} {F : Nat → pR} (ho : o = 1802 ∨ o = 1803) (hw : 1 ≤ w) (hF : ∀ p, GdR fc w (F p)) : ∀ m r, GdR fc (w + 1) r → GdR fc (w + 1) (pSep s sep o F m r)
  | 0, _, h => h
  | m + 1, (none, q), h => by rw [ps_none]; exact h
  | m + 1, (some L, q), h => by
    by_cases h1 : s q = sep
    · rcases h2 : F (q + 1) with ⟨_ | M, t⟩
      · rw [ps_bad h1 h2]; exact GdR_0
      · rw [ps_go h1 h2]
        refine GdR_s ho hw hF m _ ?_
        intro L2 q2 h3
        cases h3
        obtain ⟨b, a4⟩ := h L q rfl
        obtain ⟨c, b4⟩ := hF (q + 1) M t h2
        exact ⟨_, Gd_b a4 b4 ho (Nat.le_refl _) (Nat.le_refl _) hw⟩
    · rw [ps_end h1]; exact h
theorem GdR_e {fc : Nat → Int32} {s : Nat → Nat} {w : Nat} {F : Nat → pR} (hw : 1 ≤ w) (hF : ∀ p, GdR fc w (F p)) (p : Nat) : GdR fc (w + 1) (pEv s F p) := GdR_s (Or.inl rfl) hw hF 101 _ (GdR_u (hF p) (by omega))
theorem GdR_m {fc : Nat → Int32} {s : Nat → Nat} {w : Nat} {F : Nat → pR} (hw : 1 ≤ w) (hF : ∀ p, GdR fc w (F p)) (p : Nat) : GdR fc (w + 2) (pSm s F p) := GdR_s (Or.inr rfl) (by omega) (GdR_e hw hF) 101 _ (GdR_u (GdR_e hw hF p) (by omega))
theorem GdR_f {fc : Nat → Int32} {s : Nat → Nat} : ∀ l p, GdR fc (2 * l + 1) (pFac s l p)
  | 0, p => by
    by_cases h1 : s p = 33
    · rw [pf_0 (Or.inl h1)]; exact GdR_0
    · by_cases h2 : s p = 40
      · rw [pf_0 (Or.inr h2)]; exact GdR_0
      · rw [pf_t h1 h2]; exact GdR_t
  | l + 1, p => by
    by_cases h1 : s p = 33
    · rcases h3 : pFac s l (p + 1) with ⟨_ | L, q⟩
      · rw [pf_n0 h1 h3]; exact GdR_0
      · rw [pf_n1 h1 h3]
        intro L2 q2 h4
        cases h4
        obtain ⟨b, g⟩ := GdR_f l (p + 1) L q h3
        exact ⟨_, Gd_mono (Gd_n g (by omega)) (by omega)⟩
    · by_cases h2 : s p = 40
      · have hs := GdR_m (fc := fc) (s := s) (w := 2 * l + 1) (F := pFac s l) (by omega) (GdR_f l) (p + 1)
        rcases h3 : pSm s (pFac s l) (p + 1) with ⟨_ | L, q⟩
        · rw [pf_b0 h2 h3]; exact GdR_0
        · by_cases h4 : s q = 41
          · rw [pf_b2 h2 h3 h4]
            intro L2 q2 h5
            cases h5
            obtain ⟨b, g⟩ := hs L q h3
            exact ⟨b, Gd_mono g (by omega)⟩
          · rw [pf_b1 h2 h3 h4]; exact GdR_0
      · rw [pf_t h1 h2]; exact GdR_u GdR_t (by omega)
/-! clauses that are good; what they come to -/
noncomputable def Wf1 (c : pCla) : Prop := c.1 < 4 ∧ c.2.1 ≤ 99 ∧ (¬ c.1 = 2 → ∀ fc : Nat → Int32, ∃ b, Gd fc c.2.2 13 b)
noncomputable def WfC (C : List pCla) : Prop := ∀ c, c ∈ C → Wf1 c
theorem wf_add {C : List pCla} {c : pCla} (h : WfC C) (h2 : Wf1 c) : WfC (C ++ [c]) := fun d hd => by
  rcases List.mem_append.mp hd with q | q
  · exact h d q
  · rw [List.mem_singleton.mp q]; exact h2
theorem wf_nil : WfC [] := fun c hc => by cases hc
theorem wf_mch {s : Nat → Nat} {cs : List Nat} {n w p q : Nat} {c : pCla} (hw : w < 4) (h : pMch s cs n w p = (some c, q)) : Wf1 c := by
  by_cases h1 : mlen s p cs = n
  · rcases h2 : pNum s (p + n) with ⟨_ | v, r⟩
    · rw [pm_2 h1 h2] at h; cases h
    · by_cases h3 : s r = 32
      · rcases h4 : pSm s (pFac s 5) (r + 1) with ⟨_ | L, t⟩
        · rw [pm_4 h1 h2 h3 h4] at h; cases h
        · rw [pm_5 h1 h2 h3 h4] at h
          cases h
          exact ⟨hw, pn_le h2, fun _ fc => GdR_m (w := 11) (by omega) (GdR_f 5) (r + 1) L _ h4⟩
      · rw [pm_3 h1 h2 h3] at h; cases h
  · rw [pm_1 h1] at h; cases h
theorem wf_sgt {s : Nat → Nat} {p q : Nat} {c : pCla} (h : pSgt s p = (some c, q)) : Wf1 c := by
  by_cases h1 : mlen s p [105, 103, 104, 116, 32] = 5
  · rcases h2 : pNum s (p + 5) with ⟨_ | v, r⟩
    · rw [sg_2 h1 h2] at h; cases h
    · rw [sg_3 h1 h2] at h
      cases h
      exact ⟨show 2 < 4 by omega, pn_le h2, fun z => absurd rfl z⟩
  · rw [sg_1 h1] at h; cases h
theorem wf_cl {s : Nat → Nat} {p q : Nat} {c : pCla} (h : pCl s p = (some c, q)) : Wf1 c := by
  by_cases h1 : s p = 115
  · by_cases h2 : s (p + 1) = 101
    · rw [cl_s1 h1 h2] at h; exact wf_mch (by omega) h
    · rw [cl_s2 h1 h2] at h; exact wf_sgt h
  · by_cases h2 : s p = 104
    · rw [cl_h h2] at h; exact wf_mch (by omega) h
    · by_cases h3 : s p = 100
      · rw [cl_d h3] at h; exact wf_mch (by omega) h
      · rw [cl_n h1 h2 h3] at h; cases h
theorem wf_af {s : Nat → Nat} {E : Nat} : ∀ (m : Nat) (C : List pCla) (q : Nat) (D : List pCla) (r : Nat), WfC C → pAf s E m C q = (some D, r) → WfC D
  | 0, C, q, D, r, hw, h => by
    by_cases e : q = E
    · rw [af_e e] at h; cases h; exact hw
    · rw [af_0 e] at h; cases h
  | m + 1, C, q, D, r, hw, h => by
    by_cases e : q = E
    · rw [af_e e] at h; cases h; exact hw
    · by_cases h2 : s q = 59
      · rcases h3 : pCl s (q + 1) with ⟨_ | c, t⟩
        · rw [af_b e h2 h3] at h; cases h
        · rw [af_g e h2 h3] at h
          exact wf_af m _ _ _ _ (wf_add hw (wf_cl h3)) h
      · rw [af_n e h2] at h; cases h
theorem wf_hl {s : Nat → Nat} {E q : Nat} {C : List pCla} (h : pHl s E = (some C, q)) : WfC C := by
  rcases h1 : pCl s 0 with ⟨_ | c, r⟩
  · rw [hl_n h1] at h; cases h
  · rw [hl_s h1] at h
    exact wf_af 9 _ _ _ _ (wf_add (C := []) wf_nil (wf_cl h1)) h
noncomputable def hld (fc : Nat → Int32) (L : List Nat) : Bool := (mrn fc (0, fun _ => false) L).2 0
theorem hld_of {fc : Nat → Int32} {L : List Nat} {n : Nat} {b : Bool} (h : Gd fc L n b) : hld fc L = b := (h.2 (0, fun _ => false)).1.2.1
theorem hld_bt {fc : Nat → Int32} {L : List Nat} {n : Nat} {b : Bool} (h : Gd fc L n b) (hn : n ≤ 31) : bt (prn fc 0 L) 0 = hld fc L := by
  have h1 := h.2 (0, fun _ => false)
  have h2 := h1.2 0 (fun t ht => absurd ht (Nat.not_lt_zero t)) (show 0 + n ≤ 31 by omega)
  have h3 := h2 0 (by rw [h1.1.1]; exact Nat.succ_pos _)
  rw [h1.1.1] at h3
  exact h3
theorem a1_bt (q : Int32) : q &&& 1 = 1 ↔ bt q 0 = true := by
  constructor
  · intro h
    have e := b_and q 1 0
    rw [h, b1_0 0 (by decide)] at e
    rcases hq : bt q 0 with _ | _
    · rw [hq] at e; exact absurd e (by decide)
    · rfl
  · intro h
    apply b_ext
    intro i hi
    rw [b_and, b1_0 i hi]
    by_cases e : i = 0
    · subst e
      rw [h]; rfl
    · rw [decide_eq_false e, Bool.and_false]
/-- the numbers of the clauses of a word that hold, together -/
noncomputable def tot (fc : Nat → Int32) (w : Nat) : List pCla → Int32
  | [] => 0
  | c :: C => (if hld fc c.2.2 = true then (if c.1 = w then nI c.2.1 else 0) else 0) + tot fc w C
noncomputable def sTt (fc : Nat → Int32) : List pCla → Int32
  | [] => 0
  | c :: C => (if hld fc c.2.2 = true then (if c.1 = 0 then nI c.2.1 else if c.1 = 1 then 0 - nI c.2.1 else 0) else 0) + sTt fc C
theorem ar1 (v a b : Int32) : v + (a - b) = v + a - (0 + b) := by
  rw [Int32.zero_add, Int32.sub_eq_add_neg, Int32.sub_eq_add_neg, Int32.add_assoc]
theorem ar2 (v a b : Int32) : 0 - v + (a - b) = 0 + a - (v + b) := by
  rw [Int32.zero_add, Int32.zero_sub, Int32.sub_eq_add_neg, Int32.sub_eq_add_neg, Int32.neg_add, Int32.sub_eq_add_neg]
  ac_rfl
theorem ar3 (a b : Int32) : 0 + (a - b) = 0 + a - (0 + b) := by simp only [Int32.zero_add]
theorem sTt_eq {fc : Nat → Int32} : ∀ C : List pCla, sTt fc C = tot fc 0 C - tot fc 1 C
  | [] => show (0 : Int32) = 0 - 0 by decide
  | c :: C => by
    show (if hld fc c.2.2 = true then (if c.1 = 0 then nI c.2.1 else if c.1 = 1 then 0 - nI c.2.1 else 0) else 0) + sTt fc C = ((if hld fc c.2.2 = true then (if c.1 = 0 then nI c.2.1 else 0) else 0) + tot fc 0 C) - ((if hld fc c.2.2 = true then (if c.1 = 1 then nI c.2.1 else 0) else 0) + tot fc 1 C)
    rw [sTt_eq C]
    by_cases hb : hld fc c.2.2 = true
    · rw [if_pos hb, if_pos hb, if_pos hb]
      by_cases h0 : c.1 = 0
      · rw [if_pos h0, if_pos h0, if_neg (show ¬ c.1 = 1 by omega)]; exact ar1 _ _ _
      · rw [if_neg h0, if_neg h0]
        by_cases h1 : c.1 = 1
        · rw [if_pos h1, if_pos h1]; exact ar2 _ _ _
        · rw [if_neg h1, if_neg h1]; exact ar3 _ _
    · rw [if_neg hb, if_neg hb, if_neg hb]; exact ar3 _ _
/-! the reference's row -/
noncomputable abbrev rS := pM × Int32 × Int32
noncomputable def rst (fc : Nat → Int32) (s : rS) (k : Nat) : rS := if k < 2000 then (mst fc s.1 k, s.2) else ((0, s.1.2), s.2.1 + (if s.1.2 0 = true then (if (k - 2000) / 100 = 0 then nI ((k - 2000) % 100) else if (k - 2000) / 100 = 1 then 0 - nI ((k - 2000) % 100) else 0) else 0), s.2.2 + (if s.1.2 0 = true then (if (k - 2000) / 100 = 3 then nI ((k - 2000) % 100) else 0) else 0))
noncomputable def rrn (fc : Nat → Int32) (s : rS) (L : List Nat) : rS := L.foldl (rst fc) s
theorem rrn_add {fc : Nat → Int32} {s : rS} {L M : List Nat} : rrn fc s (L ++ M) = rrn fc (rrn fc s L) M := List.foldl_append
theorem rrn_m {fc : Nat → Int32} : ∀ (L : List Nat) (s : rS), (∀ k, k ∈ L → k < 2000) → rrn fc s L = (mrn fc s.1 L, s.2)
  | [], _, _ => rfl
  | k :: L, s, hL => by
    show rrn fc (rst fc s k) L = (mrn fc (mst fc s.1 k) L, s.2)
    rw [show rst fc s k = (mst fc s.1 k, s.2) from if_pos (hL k (by simp))]
    exact rrn_m L (mst fc s.1 k, s.2) (fun j hj => hL j (List.mem_cons_of_mem _ hj))
theorem rrn_c {fc : Nat → Int32} {c : pCla} (hw : Wf1 c) (tv : Nat → Bool) (se dn : Int32) : ∃ tw, rrn fc ((0, tv), se, dn) (fl1 c) = ((0, tw), se + (if hld fc c.2.2 = true then (if c.1 = 0 then nI c.2.1 else if c.1 = 1 then 0 - nI c.2.1 else 0) else 0), dn + (if hld fc c.2.2 = true then (if c.1 = 3 then nI c.2.1 else 0) else 0)) := by
  obtain ⟨h4, hv, hg⟩ := hw
  by_cases h2 : c.1 = 2
  · have e1 : (if hld fc c.2.2 = true then (if c.1 = 0 then nI c.2.1 else if c.1 = 1 then 0 - nI c.2.1 else 0) else 0) = 0 := by
      split
      · rw [if_neg (by omega), if_neg (by omega)]
      · rfl
    have e2 : (if hld fc c.2.2 = true then (if c.1 = 3 then nI c.2.1 else 0) else 0) = 0 := by
      split
      · rw [if_neg (by omega)]
      · rfl
    rw [fl1, if_pos h2, e1, e2, Int32.add_zero, Int32.add_zero]
    exact ⟨tv, rfl⟩
  · obtain ⟨b, g⟩ := hg h2 fc
    have g1 := (g.2 (0, tv)).1
    have et : (mrn fc (0, tv) c.2.2).2 0 = hld fc c.2.2 := g1.2.1.trans (hld_of g).symm
    have k1 : (2000 + 100 * c.1 + c.2.1 - 2000) / 100 = c.1 := by omega
    have k2 : (2000 + 100 * c.1 + c.2.1 - 2000) % 100 = c.2.1 := by omega
    rw [fl1, if_neg h2, rrn_add, rrn_m _ _ (fun k hk => tOk_lt (g.1 k hk))]
    refine ⟨(mrn fc (0, tv) c.2.2).2, ?_⟩
    show rst fc (mrn fc (0, tv) c.2.2, se, dn) (2000 + 100 * c.1 + c.2.1) = _
    rw [rst, if_neg (by omega), k1, k2]
    show ((0, (mrn fc (0, tv) c.2.2).2), se + (if (mrn fc (0, tv) c.2.2).2 0 = true then (if c.1 = 0 then nI c.2.1 else if c.1 = 1 then 0 - nI c.2.1 else 0) else 0), dn + (if (mrn fc (0, tv) c.2.2).2 0 = true then (if c.1 = 3 then nI c.2.1 else 0) else 0)) = _
    rw [et]
theorem rrn_C {fc : Nat → Int32} : ∀ (C : List pCla), WfC C → ∀ (tv : Nat → Bool) (se dn : Int32), ∃ tw, rrn fc ((0, tv), se, dn) (flC C) = ((0, tw), se + sTt fc C, dn + tot fc 3 C)
  | [], _, tv, se, dn => ⟨tv, by
    show ((0, tv), se, dn) = ((0, tv), se + 0, dn + 0)
    rw [Int32.add_zero, Int32.add_zero]⟩
  | c :: C, hw, tv, se, dn => by
    obtain ⟨t1, e1⟩ := rrn_c (fc := fc) (hw c (by simp)) tv se dn
    obtain ⟨t2, e2⟩ := rrn_C (fc := fc) C (fun d hd => hw d (List.mem_cons_of_mem _ hd)) t1 (se + (if hld fc c.2.2 = true then (if c.1 = 0 then nI c.2.1 else if c.1 = 1 then 0 - nI c.2.1 else 0) else 0)) (dn + (if hld fc c.2.2 = true then (if c.1 = 3 then nI c.2.1 else 0) else 0))
    refine ⟨t2, ?_⟩
    rw [show flC (c :: C) = fl1 c ++ flC C from rfl, rrn_add, e1, e2]
    show ((0, t2), se + (if hld fc c.2.2 = true then (if c.1 = 0 then nI c.2.1 else if c.1 = 1 then 0 - nI c.2.1 else 0) else 0) + sTt fc C, dn + (if hld fc c.2.2 = true then (if c.1 = 3 then nI c.2.1 else 0) else 0) + tot fc 3 C) = ((0, t2), se + ((if hld fc c.2.2 = true then (if c.1 = 0 then nI c.2.1 else if c.1 = 1 then 0 - nI c.2.1 else 0) else 0) + sTt fc C), dn + ((if hld fc c.2.2 = true then (if c.1 = 3 then nI c.2.1 else 0) else 0) + tot fc 3 C))
    rw [Int32.add_assoc, Int32.add_assoc]
/-! the same facts, the same truths -/
section
variable {fc fd : Nat → Int32}
theorem ts_cg (h : ∀ j, j < 6 → fc j = fd j) {k : Nat} (hk : k < 1800) : tsB fc k = tsB fd k := by
  unfold tsB
  rw [h (k / 300) (by omega)]
theorem mst_cg (h : ∀ j, j < 6 → fc j = fd j) {m : pM} {k : Nat} : mst fc m k = mst fd m k := by
  unfold mst
  by_cases hk : k < 1800
  · rw [if_pos hk, if_pos hk, ts_cg h hk]
  · rw [if_neg hk, if_neg hk]
theorem mrn_cons {fe : Nat → Int32} {m : pM} {k : Nat} {L : List Nat} : mrn fe m (k :: L) = mrn fe (mst fe m k) L := by
  unfold mrn
  rw [List.foldl_cons]
theorem mrn_nil {fe : Nat → Int32} {m : pM} : mrn fe m [] = m := by
  unfold mrn
  rw [List.foldl_nil]
theorem mrn_cg (h : ∀ j, j < 6 → fc j = fd j) (L : List Nat) (m : pM) : mrn fc m L = mrn fd m L := by
  induction L generalizing m with
  | nil => rw [mrn_nil, mrn_nil]
  | cons k L ih => rw [mrn_cons, mrn_cons, mst_cg h, ih]
theorem hld_cg (h : ∀ j, j < 6 → fc j = fd j) (L : List Nat) : hld fc L = hld fd L := by
  unfold hld
  rw [mrn_cg h]
theorem tot_cg (h : ∀ j, j < 6 → fc j = fd j) (w : Nat) : ∀ C : List pCla, tot fc w C = tot fd w C
  | [] => rfl
  | c :: C => by
    show (if hld fc c.2.2 = true then (if c.1 = w then nI c.2.1 else 0) else 0) + tot fc w C = (if hld fd c.2.2 = true then (if c.1 = w then nI c.2.1 else 0) else 0) + tot fd w C
    rw [hld_cg h, tot_cg h w C]
theorem sTt_cg (h : ∀ j, j < 6 → fc j = fd j) (C : List pCla) : sTt fc C = sTt fd C := by
  rw [sTt_eq, sTt_eq, tot_cg h, tot_cg h]
end
/-! the reference's pile of truths, as its row of numbers says them -/
noncomputable def tvOf (f : Nat → Int32) : Nat → Bool := fun j => decide (¬ f j = 0)
noncomputable def bI (b : Bool) : Int32 := if b = true then 1 else 0
theorem nar_bI (b : Bool) : decide (¬ vp_nar .boolean (bI b) = 0) = b := by cases b <;> first | rfl | decide
theorem tvOf_upd {f : Nat → Int32} {k : Nat} {b : Bool} : tvOf (upd f k (vp_nar .boolean (bI b))) = tvU (tvOf f) k b := by
  funext j
  by_cases e : j = k
  · subst e
    show decide (¬ upd f j (vp_nar .boolean (bI b)) j = 0) = tvU (tvOf f) j b j
    rw [pk_us, tv_s]
    exact nar_bI b
  · show decide (¬ upd f k (vp_nar .boolean (bI b)) j = 0) = tvU (tvOf f) k b j
    rw [pk_un e, tv_n e]
    rfl
section
variable {f : Nat → Int32} {k a b : Nat}
theorem tv_z (h : f k = 0) : ¬ tvOf f k = true := fun e => by
  have e2 : decide (¬ f k = 0) = true := e
  exact of_decide_eq_true e2 h
theorem tv_p (h : ¬ f k = 0) : tvOf f k = true := show decide (¬ f k = 0) = true from decide_eq_true h
theorem tv_f (h : f k = 0) : tvOf f k = false := show decide (¬ f k = 0) = false from decide_eq_false (fun z => z h)
theorem bn_1 (h : f k = 0) : 1 = bI (!tvOf f k) := by rw [tv_f h]; rfl
theorem bn_0 (h : ¬ f k = 0) : 0 = bI (!tvOf f k) := by rw [tv_p h]; rfl
theorem ba_x (h : f a = 0) : 0 = bI (tvOf f a && tvOf f b) := by rw [tv_f h]; rfl
theorem ba_y (h : ¬ f a = 0) (h2 : f b = 0) : 0 = bI (tvOf f a && tvOf f b) := by rw [tv_p h, tv_f h2]; rfl
theorem ba_1 (h : ¬ f a = 0) (h2 : ¬ f b = 0) : 1 = bI (tvOf f a && tvOf f b) := by rw [tv_p h, tv_p h2]; rfl
theorem bo_x (h : ¬ f a = 0) : 1 = bI (tvOf f a || tvOf f b) := by rw [tv_p h]; rfl
theorem bo_y (h : f a = 0) (h2 : ¬ f b = 0) : 1 = bI (tvOf f a || tvOf f b) := by rw [tv_f h, tv_p h2]; rfl
theorem bo_0 (h : f a = 0) (h2 : f b = 0) : 0 = bI (tvOf f a || tvOf f b) := by rw [tv_f h, tv_f h2]; rfl
end
section
variable {fc : Nat → Int32} {k : Nat}
theorem ts_a1 (h0 : k / 100 % 3 = 0) (h : ¬ nI (k % 100) ≤ fc (k / 300)) : 1 = bI (tsB fc k) := by rw [tsB, if_pos h0, decide_eq_true (Int32.not_le.mp h)]; rfl
theorem ts_a0 (h0 : k / 100 % 3 = 0) (h : nI (k % 100) ≤ fc (k / 300)) : 0 = bI (tsB fc k) := by rw [tsB, if_pos h0, decide_eq_false (Int32.not_lt.mpr h)]; rfl
theorem ts_b1 (h0 : ¬ k / 100 % 3 = 0) (h1 : k / 100 % 3 = 1) (h : fc (k / 300) = nI (k % 100)) : 1 = bI (tsB fc k) := by rw [tsB, if_neg h0, if_pos h1, decide_eq_true h]; rfl
theorem ts_b0 (h0 : ¬ k / 100 % 3 = 0) (h1 : k / 100 % 3 = 1) (h : ¬ fc (k / 300) = nI (k % 100)) : 0 = bI (tsB fc k) := by rw [tsB, if_neg h0, if_pos h1, decide_eq_false h]; rfl
theorem ts_c1 (h0 : ¬ k / 100 % 3 = 0) (h1 : ¬ k / 100 % 3 = 1) (h : ¬ fc (k / 300) ≤ nI (k % 100)) : 1 = bI (tsB fc k) := by rw [tsB, if_neg h0, if_neg h1, decide_eq_true (Int32.not_le.mp h)]; rfl
theorem ts_c0 (h0 : ¬ k / 100 % 3 = 0) (h1 : ¬ k / 100 % 3 = 1) (h : fc (k / 300) ≤ nI (k % 100)) : 0 = bI (tsB fc k) := by rw [tsB, if_neg h0, if_neg h1, decide_eq_false (Int32.not_lt.mpr h)]; rfl
end
section
variable {fc f : Nat → Int32} {tv : Nat → Bool} {d k v : Nat} {se dn : Int32}
theorem rst_t (h : k < 1800) : rst fc ((d, tvOf f), se, dn) k = ((d + 1, tvOf (upd f d (vp_nar .boolean (bI (tsB fc k))))), se, dn) := by
  rw [tvOf_upd]
  show (if k < 2000 then (mst fc (d, tvOf f) k, se, dn) else _) = _
  rw [if_pos (by omega), mst, if_pos h]
  try rfl
theorem rst_n : rst fc ((d, tvOf f), se, dn) 1801 = ((d, tvOf (upd f (d - 1) (vp_nar .boolean (bI (!tvOf f (d - 1)))))), se, dn) := by
  rw [tvOf_upd]
  show (if 1801 < 2000 then (mst fc (d, tvOf f) 1801, se, dn) else _) = _
  rw [if_pos (by decide), mst, if_neg (by decide), if_pos rfl]
  try rfl
theorem rst_a : rst fc ((d, tvOf f), se, dn) 1802 = ((d - 1, tvOf (upd f (d - 1 - 1) (vp_nar .boolean (bI (tvOf f (d - 1 - 1) && tvOf f (d - 1)))))), se, dn) := by
  rw [tvOf_upd, show d - 1 - 1 = d - 2 by omega]
  show (if 1802 < 2000 then (mst fc (d, tvOf f) 1802, se, dn) else _) = _
  rw [if_pos (by decide), mst, if_neg (by decide), if_neg (by decide), if_pos rfl]
  try rfl
theorem rst_o : rst fc ((d, tvOf f), se, dn) 1803 = ((d - 1, tvOf (upd f (d - 1 - 1) (vp_nar .boolean (bI (tvOf f (d - 1 - 1) || tvOf f (d - 1)))))), se, dn) := by
  rw [tvOf_upd, show d - 1 - 1 = d - 2 by omega]
  show (if 1803 < 2000 then (mst fc (d, tvOf f) 1803, se, dn) else _) = _
  rw [if_pos (by decide), mst, if_neg (by decide), if_neg (by decide), if_neg (by decide)]
  try rfl
theorem rst_k {w : Nat} (hv : v ≤ 99) : rst fc ((d, tv), se, dn) (2000 + 100 * w + v) = ((0, tv), se + (if tv 0 = true then (if w = 0 then nI v else if w = 1 then 0 - nI v else 0) else 0), dn + (if tv 0 = true then (if w = 3 then nI v else 0) else 0)) := by
  rw [rst, if_neg (by omega), show (2000 + 100 * w + v - 2000) / 100 = w by omega, show (2000 + 100 * w + v - 2000) % 100 = v by omega]
  try rfl
theorem rst_e0 (hv : v ≤ 99) : rst fc ((d, tv), se, dn) (2000 + 100 * 0 + v) = ((0, tv), se + (if tv 0 = true then nI v else 0), dn + 0) := by
  rw [rst_k hv, show (if tv 0 = true then (if 0 = 3 then nI v else 0) else 0) = (0 : Int32) by split <;> rfl]
  try rfl
theorem rst_e1 (hv : v ≤ 99) : rst fc ((d, tv), se, dn) (2000 + 100 * 1 + v) = ((0, tv), se + (if tv 0 = true then 0 - nI v else 0), dn + 0) := by
  rw [rst_k hv, show (if tv 0 = true then (if 1 = 3 then nI v else 0) else 0) = (0 : Int32) by split <;> rfl]
  try rfl
theorem rst_e3 (hv : v ≤ 99) : rst fc ((d, tv), se, dn) (2000 + 100 * 3 + v) = ((0, tv), se + 0, dn + (if tv 0 = true then nI v else 0)) := by
  rw [rst_k hv, show (if tv 0 = true then (if 3 = 0 then nI v else if 3 = 1 then 0 - nI v else 0) else 0) = (0 : Int32) by split <;> rfl]
  try rfl
end
theorem rce0 : ∀ v, v < 100 → rcd (2000 + 100 * 0 + v) < 0 ∧ ¬ rcd (2000 + 100 * 0 + v) = -1 ∧ rcd (2000 + 100 * 0 + v) ≤ -10 ∧ -400 < rcd (2000 + 100 * 0 + v) ∧ ¬ rcd (2000 + 100 * 0 + v) ≤ -200 ∧ -10 - rcd (2000 + 100 * 0 + v) = nI v := by decide +kernel
theorem rce1 : ∀ v, v < 100 → rcd (2000 + 100 * 1 + v) < 0 ∧ ¬ rcd (2000 + 100 * 1 + v) = -1 ∧ rcd (2000 + 100 * 1 + v) ≤ -10 ∧ -400 < rcd (2000 + 100 * 1 + v) ∧ rcd (2000 + 100 * 1 + v) ≤ -200 ∧ rcd (2000 + 100 * 1 + v) - (-200) = 0 - nI v := by decide +kernel
theorem rce3 : ∀ v, v < 100 → rcd (2000 + 100 * 3 + v) < 0 ∧ ¬ rcd (2000 + 100 * 3 + v) = -1 ∧ rcd (2000 + 100 * 3 + v) ≤ -10 ∧ ¬ -400 < rcd (2000 + 100 * 3 + v) ∧ -400 - rcd (2000 + 100 * 3 + v) = nI v := by decide +kernel
theorem rcd_g {b r v X : Nat} (hb : b < 6) (hr : r < 3) (hv : v < 100) (eX : X = b + 8 * r + 32 * v) : X % 8 = b ∧ X / 8 % 4 = r ∧ X / 32 = v ∧ X < 4000 := by
  have e8 : X / 8 = r + 4 * v := by omega
  exact ⟨by omega, by omega, by omega, by omega⟩
theorem rcd_f {k : Nat} {x : Int32} (h : k < 1800) (e : x = rcd k) : ¬ x < 0 ∧ x - x / 8 * 8 = nI (k / 300) ∧ x / 8 - x / 8 / 4 * 4 = nI (k / 100 % 3) ∧ x / 32 = nI (k % 100) := by
  obtain ⟨X, eX⟩ : ∃ q : Nat, q = k / 300 + 8 * (k / 100 % 3) + 32 * (k % 100) := ⟨_, rfl⟩
  have ex : x = nI X := by rw [e, rcd, if_pos h, eX]
  obtain ⟨q1, q2, q3, q4⟩ := rcd_g (show k / 300 < 6 by omega) (show k / 100 % 3 < 3 by omega) (show k % 100 < 100 by omega) eX
  subst ex
  have d8 : nI X / nI 8 = nI (X / 8) := pk_div (a := X) (d := 8) (by omega) (by omega) (by omega)
  have d32 : nI X / nI 32 = nI (X / 32) := pk_div (a := X) (d := 32) (by omega) (by omega) (by omega)
  have r8 : nI X - nI X / nI 8 * nI 8 = nI (X % 8) := pk_rem (a := X) (d := 8) (by omega) (by omega) (by omega)
  have r4 : nI (X / 8) - nI (X / 8) / nI 4 * nI 4 = nI (X / 8 % 4) := pk_rem (a := X / 8) (d := 4) (by omega) (by omega) (by omega)
  rw [← d8] at r4
  exact ⟨nI_pos (by omega), r8.trans (congrArg nI q1), r4.trans (congrArg nI q2), d32.trans (congrArg nI q3)⟩
/-- what a token of a hill may be -/
noncomputable def tOk2 (k : Nat) : Prop := k < 1800 ∨ k = 1801 ∨ k = 1802 ∨ k = 1803 ∨ ∃ w v : Nat, (w = 0 ∨ w = 1 ∨ w = 3) ∧ v ≤ 99 ∧ k = 2000 + 100 * w + v
theorem fl_ok : ∀ C : List pCla, WfC C → ∀ k, k ∈ flC C → tOk2 k
  | [], _, k, h => absurd (show k ∈ ([] : List Nat) from h) (by simp)
  | c :: C, hw, k, h => by
    have h : k ∈ fl1 c ++ flC C := h
    rcases List.mem_append.mp h with q | q
    · obtain ⟨h4, hv, hg⟩ := hw c (by simp)
      by_cases h2 : c.1 = 2
      · rw [fl1, if_pos h2] at q
        exact absurd q (by simp)
      · rw [fl1, if_neg h2] at q
        rcases List.mem_append.mp q with z | z
        · obtain ⟨b, g⟩ := hg h2 (fun _ => 0)
          rcases g.1 k z with a | a | a | a
          · exact Or.inl a
          · exact Or.inr (Or.inl a)
          · exact Or.inr (Or.inr (Or.inl a))
          · exact Or.inr (Or.inr (Or.inr (Or.inl a)))
        · exact Or.inr (Or.inr (Or.inr (Or.inr ⟨c.1, c.2.1, by omega, hv, List.mem_singleton.mp z⟩)))
    · exact fl_ok C (fun d hd => hw d (List.mem_cons_of_mem _ hd)) k q
theorem gd_mem {L : List Nat} {i : Nat} (h : i < L.length) : L.getD i 0 ∈ L := by
  rw [List.getD_eq_getElem?_getD, List.getElem?_eq_getElem h]
  exact List.getElem_mem h
theorem gd_take {L : List Nat} {i : Nat} (h : i < L.length) : L.take (i + 1) = L.take i ++ [L.getD i 0] := by
  rw [List.take_succ_eq_append_getElem h, List.getD_eq_getElem?_getD, List.getElem?_eq_getElem h, Option.getD_some]
theorem rr_step {fc : Nat → Int32} {s t t2 : rS} {L : List Nat} {i k : Nat} (h : rrn fc s (L.take i) = t) (hi : i < L.length) (e : k = L.getD i 0) (h2 : rst fc t k = t2) : rrn fc s (L.take (i + 1)) = t2 := by
  rw [gd_take hi, rrn_add, h, ← e]
  exact h2
/-- the hill that is set, by its clauses -/
noncomputable def hol (f : Nat → Int32) (C : List pCla) : Prop := WfC C ∧ ((f 5 = -1 ∧ C = []) ∨ ∃ h : Nat, h < 5 ∧ f 5 = nI h ∧ okP f h ∧ CDh f h C)
theorem hol_of {f g : Nat → Int32} {C : List pCla} (h : hol f C) (he : ∀ i, i < 901 → (i = 5 ∨ 191 ≤ i) → g i = f i) : hol g C := by
  obtain ⟨hw, h | ⟨k, hk, h1, ⟨n, hn, h2, h3⟩, h4⟩⟩ := h
  · exact ⟨hw, Or.inl ⟨(he 5 (by omega) (Or.inl rfl)).trans h.1, h.2⟩⟩
  · refine ⟨hw, Or.inr ⟨k, hk, (he 5 (by omega) (Or.inl rfl)).trans h1, ⟨n, hn, (he _ (by omega) (Or.inr (by omega))).trans h2, ?_⟩, CDh_of h4 (fun i hi => he i (by omega) (Or.inr (by omega)))⟩⟩
    rw [sdep_cong (f := fun i => f (201 + 140 * k + i)) (fun i hi => he _ (by omega) (Or.inr (by omega)))]; exact h3
/-- the six facts, in the order of their letters -/
noncomputable def fct (x y z m s : Int32) : Nat → Int32 := fun j => if j = 0 then x else if j = 1 then y else if j = 2 then z / 6 else if j = 3 then z - z / 6 * 6 else if j = 4 then m else s
theorem fct_of {f : Nat → Int32} {x y z m s : Int32} : ∀ j, j < 6 → upd (upd (upd (upd (upd (upd f 0 x) 1 y) 2 (z / 6)) 3 (z - z / 6 * 6)) 4 m) 5 s j = fct x y z m s j := fun j hj => by
  rcases (show j = 0 ∨ j = 1 ∨ j = 2 ∨ j = 3 ∨ j = 4 ∨ j = 5 by omega) with rfl | rfl | rfl | rfl | rfl | rfl <;> rfl
theorem lk_end {fc fd : Nat → Int32} {tv tw : Nat → Bool} {se dn : Int32} {C : List pCla} {i d : Nat} (hw : WfC C) (hR : rrn fc ((0, tv), 0, 0) ((flC C).take i) = ((d, tw), se, dn)) (hi : (flC C).length ≤ i) (hcg : ∀ j, j < 6 → fc j = fd j) : se = sTt fd C ∧ dn = tot fd 3 C := by
  rw [List.take_of_length_le hi] at hR
  obtain ⟨t2, e⟩ := rrn_C (fc := fc) C hw tv 0 0
  rw [e, Int32.zero_add, Int32.zero_add] at hR
  have e1 : sTt fc C = se := congrArg (fun z : rS => z.2.1) hR
  have e2 : tot fc 3 C = dn := congrArg (fun z : rS => z.2.2) hR
  exact ⟨by rw [← e1, sTt_cg hcg], by rw [← e2, tot_cg hcg]⟩
/-! how far: the reference's way of saying it -/
noncomputable def szR (v : Int32) : Int32 := if 0 ≤ v then v else -v
noncomputable def apR (x y : Int32) : Int32 := if szR (x / 6 - y / 6) ≤ szR (x - x / 6 * 6 - (y - y / 6 * 6)) then szR (x - x / 6 * 6 - (y - y / 6 * 6)) else szR (x / 6 - y / 6)
noncomputable def rc1 (kd v : Int32) : Int32 := if kd = 1 then v / 3 else if kd = 4 then v / 3 else if kd = 2 then -1 else if kd = 5 then -1 else 0
noncomputable def rc2 (p kd v s : Int32) : Int32 := if p < 0 then 0 else if kd = 5 then (if s ≤ v then p else 0) else p
noncomputable def rc3 (p kd : Int32) : Int32 := if kd = 6 then (if p ≤ 1 then p else 1) else p
noncomputable def RV (C : List pCla) (mi sn : Int32) (h : Nat) (kd v c : Int32) : Int32 := rc3 (rc2 (nI (sgC C) + sTt (fct (nI h) kd c mi sn) C - mi + rc1 kd v) kd v sn) kd
noncomputable def RR (f : Nat → Int32) (C : List pCla) (h : Nat) : Int32 := RV C (f 6) (f 7) h (f (10 + h)) (f (19 + h)) (f (28 + h))
/-- bits of what is seen: as far as A i, seen as far as R i -/
noncomputable def sbR (A R : Nat → Int32) : Nat → Int32
  | 0 => 0
  | i + 1 => if R i < A i then sbR A R i else sbR A R i ||| (1 <<< (nI i &&& 31))
theorem or_z32 (q : Int32) : q ||| 0 = q := by
  apply b_ext
  intro i _
  rw [b_or, b_0, Bool.or_false]
theorem sb_1 {A R : Nat → Int32} {i : Nat} {q : Int32} (h : q = sbR A R i) (h2 : ¬ R i < A i) : q ||| (1 <<< (nI i &&& 31)) = sbR A R (i + 1) := by
  rw [h]; exact (if_neg h2).symm
theorem sb_0 {A R : Nat → Int32} {i : Nat} {q : Int32} (h : q = sbR A R i) (h2 : R i < A i) : q ||| 0 = sbR A R (i + 1) := by
  rw [or_z32, h]; exact (if_pos h2).symm
theorem sb_n {A R : Nat → Int32} {i : Nat} {q : Int32} (h : q = sbR A R i) (h2 : R i < A i) : q = sbR A R (i + 1) := by
  rw [h]; exact (if_pos h2).symm
theorem sb_cg {A R B S : Nat → Int32} : ∀ n : Nat, (∀ i, i < n → A i = B i ∧ R i = S i) → sbR A R n = sbR B S n
  | 0, _ => rfl
  | n + 1, h => by
    show (if R n < A n then sbR A R n else sbR A R n ||| (1 <<< (nI n &&& 31))) = (if S n < B n then sbR B S n else sbR B S n ||| (1 <<< (nI n &&& 31)))
    rw [sb_cg n (fun i hi => h i (by omega)), (h n (by omega)).1, (h n (by omega)).2]
/-- where such bits are seen from -/
noncomputable def whB (S : Nat → Int32) (x : Int32) : Nat → Int64
  | 0 => 0
  | i + 1 => if S i = x then whB S x i ||| (1 <<< ((nI i).toInt64 &&& 63)) else whB S x i
theorem or_z64 (q : Int64) : q ||| 0 = q := Int64.toBitVec_inj.mp (by rw [Int64.toBitVec_or]; exact BitVec.or_zero)
theorem wh_1 {S : Nat → Int32} {x : Int32} {i : Nat} {q : Int64} (h : q = whB S x i) (h2 : S i = x) : q ||| (1 <<< ((nI i).toInt64 &&& 63)) = whB S x (i + 1) := by
  rw [h]; exact (if_pos h2).symm
theorem wh_0 {S : Nat → Int32} {x : Int32} {i : Nat} {q : Int64} (h : q = whB S x i) (h2 : ¬ S i = x) : q ||| 0 = whB S x (i + 1) := by
  rw [or_z64, h]; exact (if_neg h2).symm
theorem wh_n {S : Nat → Int32} {x : Int32} {i : Nat} {q : Int64} (h : q = whB S x i) (h2 : ¬ S i = x) : q = whB S x (i + 1) := by
  rw [h]; exact (if_neg h2).symm
/-- how far one drifts on a cell -/
noncomputable def DRV (C : List pCla) (mi sn x : Int32) : Int32 := if tot (fct 99 99 x mi sn) 3 C ≤ 5 then tot (fct 99 99 x mi sn) 3 C else 5
theorem dr_a {C : List pCla} {mi sn x d : Int32} (e : d = tot (fct 99 99 x mi sn) 3 C) (h : d ≤ 5) : d = DRV C mi sn x := by
  rw [DRV, ← e, if_pos h]
theorem dr_b {C : List pCla} {mi sn x d : Int32} (e : d = tot (fct 99 99 x mi sn) 3 C) (h : ¬ d ≤ 5) : 5 = DRV C mi sn x := by
  rw [DRV, ← e, if_neg h]
theorem rc_eq {C : List pCla} {mi sn kd v c rs se : Int32} {h : Nat} (h1 : rs = nI (sgC C)) (h2 : se = sTt (fct (nI h) kd c mi sn) C) : rc3 (rc2 (rs + se - mi + rc1 kd v) kd v sn) kd = RV C mi sn h kd v c := by
  rw [h1, h2, RV]
theorem sb_end {A R : Nat → Int32} {i n : Nat} {q : Int32} (h : q = sbR A R i) (e : i = n) : q = sbR A R n := e ▸ h
theorem wh_end {S : Nat → Int32} {x : Int32} {i n : Nat} {q : Int64} (h : q = whB S x i) (e : i = n) : q = whB S x n := e ▸ h
noncomputable def ccd (k : Nat) : Int32 := if k < 1800 then nI k else nI 1800 - nI k
/-- the class's row of tokens of clauses -/
noncomputable def tkC : List pCla → List Nat
  | [] => []
  | c :: C => c.2.2 ++ tkC C
theorem tkC_add {C : List pCla} {c : pCla} : tkC (C ++ [c]) = tkC C ++ c.2.2 := by
  induction C with
  | nil => simp [tkC]
  | cons d C ih => simp only [List.cons_append, tkC, ih, List.append_assoc]
noncomputable def dfC : pCla := (0, 0, [])
/-- a hill of the class holds these clauses -/
noncomputable def HC (cl : Nat) (sg : Int32) (fW fA fE fC : Nat → Int32) (C : List pCla) : Prop := C.length = cl ∧ sg = nI (sgC C) ∧ (∀ i, i < cl → fW i = nI (C.getD i dfC).1 ∧ fA i = nI (C.getD i dfC).2.1 ∧ fE i = nI (tkC (C.take (i + 1))).length) ∧ (tkC C).length ≤ 100 ∧ ∀ i, i < (tkC C).length → fC i = ccd ((tkC C).getD i 0)
theorem gC_l {L M : List pCla} {k : Nat} (h : k < L.length) : (L ++ M).getD k dfC = L.getD k dfC := by
  rw [List.getD_eq_getElem?_getD, List.getElem?_append_left h, ← List.getD_eq_getElem?_getD]
theorem gC_r {L : List pCla} {b : pCla} : (L ++ [b]).getD L.length dfC = b := by
  rw [List.getD_eq_getElem?_getD, List.getElem?_append_right (Nat.le_refl _), Nat.sub_self]; rfl
/-! the class's hills: their rows -/
theorem gC_mem {C : List pCla} {j : Nat} (h : j < C.length) : C.getD j dfC ∈ C := by
  rw [List.getD_eq_getElem?_getD, List.getElem?_eq_getElem h]
  exact List.getElem_mem h
theorem gC_take {C : List pCla} {j : Nat} (h : j < C.length) : C.take (j + 1) = C.take j ++ [C.getD j dfC] := by
  rw [List.take_succ_eq_append_getElem h, List.getD_eq_getElem?_getD, List.getElem?_eq_getElem h, Option.getD_some]
theorem gC_drop {C : List pCla} {j : Nat} (h : j < C.length) : C.drop j = C.getD j dfC :: C.drop (j + 1) := by
  rw [List.drop_eq_getElem_cons h, List.getD_eq_getElem?_getD, List.getElem?_eq_getElem h, Option.getD_some]
theorem tkC_app : ∀ C D : List pCla, tkC (C ++ D) = tkC C ++ tkC D
  | [], _ => rfl
  | c :: C, D => by
    show c.2.2 ++ tkC (C ++ D) = (c.2.2 ++ tkC C) ++ tkC D
    rw [tkC_app C D, List.append_assoc]
theorem tk_all {C : List pCla} {j : Nat} (h : j < C.length) : tkC C = tkC (C.take j) ++ ((C.getD j dfC).2.2 ++ tkC (C.drop (j + 1))) := by
  have e2 : tkC C = tkC (C.take j) ++ tkC (C.drop j) := by rw [← tkC_app, List.take_append_drop]
  have e3 : tkC (C.drop j) = (C.getD j dfC).2.2 ++ tkC (C.drop (j + 1)) := by
    rw [gC_drop h]
    try rfl
  exact e2.trans (congrArg _ e3)
theorem tk_get {C : List pCla} {j t : Nat} (h : j < C.length) (ht : t < (C.getD j dfC).2.2.length) : (tkC (C.take j)).length + t < (tkC C).length ∧ (tkC C).getD ((tkC (C.take j)).length + t) 0 = (C.getD j dfC).2.2.getD t 0 := by
  rw [tk_all h]
  refine ⟨?_, ?_⟩
  · rw [List.length_append, List.length_append]; omega
  · rw [List.getD_eq_getElem?_getD, List.getElem?_append_right (by omega), Nat.add_sub_cancel_left, List.getElem?_append_left ht, ← List.getD_eq_getElem?_getD]
theorem hd_pre {cl j : Nat} {sg : Int32} {fW fA fE fC : Nat → Int32} {C : List pCla} (hH : HC cl sg fW fA fE fC C ∧ WfC C) (hj : j < cl) (h2 : ¬ (C.getD j dfC).1 = 2) (fc : Nat → Int32) : ∃ a : Nat, (j = 0 → a = 0) ∧ (¬ j = 0 → fE (j - 1) = nI a) ∧ fE j = nI (a + (C.getD j dfC).2.2.length) ∧ (∀ t, t < (C.getD j dfC).2.2.length → fC (a + t) = ccd ((C.getD j dfC).2.2.getD t 0)) ∧ a + (C.getD j dfC).2.2.length ≤ 100 ∧ ∃ b, Gd fc (C.getD j dfC).2.2 13 b := by
  obtain ⟨⟨e1, e2, e3, e4, e5⟩, hw⟩ := hH
  have hj2 : j < C.length := by omega
  have hl : (tkC (C.take (j + 1))).length = (tkC (C.take j)).length + (C.getD j dfC).2.2.length := by rw [gC_take hj2, tkC_add, List.length_append]
  refine ⟨(tkC (C.take j)).length, fun z => ?_, fun z => ?_, ?_, fun t ht => ?_, ?_, (hw _ (gC_mem hj2)).2.2 h2 fc⟩
  · subst z; rfl
  · have e := (e3 (j - 1) (by omega)).2.2
    rw [show j - 1 + 1 = j by omega] at e
    exact e
  · rw [(e3 j hj).2.2, hl]
  · have q := tk_get hj2 ht
    rw [e5 _ q.1, q.2]
  · have q : (tkC C).length = (tkC (C.take j)).length + ((C.getD j dfC).2.2.length + (tkC (C.drop (j + 1))).length) := by rw [tk_all hj2, List.length_append, List.length_append]
    omega
theorem nI_ngv {n : Nat} {y : Int32} (h : n < 2 ^ 31) (hy : y < 0) : ¬ nI n = y := fun e => absurd hy (by rw [← e]; exact nI_pos h)
section
variable {fc : Nat → Int32} {q q2 : Int32} {L : List Nat} {t k : Nat}
theorem pr_st (h : q = prn fc 0 (L.take t)) (ht : t < L.length) (e : k = L.getD t 0) (h2 : pst fc q k = q2) : q2 = prn fc 0 (L.take (t + 1)) := by
  rw [gd_take ht, prn_add, ← h, ← e, ← h2]
  try rfl
theorem ps_n : pst fc q 1801 = q ^^^ 1 := by rw [pst, if_neg (by decide), if_pos rfl]
theorem ps_a : pst fc q 1802 = q >>> (1 &&& 31) &&& (q ||| (-2)) := by rw [pst, if_neg (by decide), if_neg (by decide), if_pos rfl]
theorem ps_o : pst fc q 1803 = q >>> (1 &&& 31) ||| (q &&& 1) := by rw [pst, if_neg (by decide), if_neg (by decide), if_neg (by decide)]
theorem ps_0 (h : k < 1800) (hb : tsB fc k = false) : pst fc q k = q <<< (1 &&& 31) ||| 0 := by
  rw [pst, if_pos h, hb]
  try rfl
theorem ps_1 (h : k < 1800) (hb : tsB fc k = true) : pst fc q k = q <<< (1 &&& 31) ||| 1 := by
  rw [pst, if_pos h, hb]
  try rfl
theorem hd_1 (g : ∃ b, Gd fc L 13 b) (hq : q = prn fc 0 (L.take t)) (ht : L.length ≤ t) (h : q &&& 1 = 1) : 1 = bI (hld fc L) := by
  obtain ⟨b, g⟩ := g
  rw [List.take_of_length_le ht] at hq
  rw [hq, a1_bt, hld_bt g (by omega)] at h
  rw [h]; rfl
theorem hd_0 (g : ∃ b, Gd fc L 13 b) (hq : q = prn fc 0 (L.take t)) (ht : L.length ≤ t) (h : ¬ q &&& 1 = 1) : 0 = bI (hld fc L) := by
  obtain ⟨b, g⟩ := g
  rw [List.take_of_length_le ht] at hq
  rw [hq, a1_bt, hld_bt g (by omega)] at h
  rcases hz : hld fc L with _ | _
  · rfl
  · exact absurd hz h
end
section
variable {fc : Nat → Int32} {q T : Int32} {C : List pCla} {i w : Nat}
theorem tt_c (h : q + tot fc w (C.drop i) = T) (hi : i < C.length) : q + ((if hld fc (C.getD i dfC).2.2 = true then (if (C.getD i dfC).1 = w then nI (C.getD i dfC).2.1 else 0) else 0) + tot fc w (C.drop (i + 1))) = T := by
  rw [gC_drop hi] at h
  exact h
theorem tt_n (h : q + tot fc w (C.drop i) = T) (hi : i < C.length) (hw : ¬ (C.getD i dfC).1 = w) : q + tot fc w (C.drop (i + 1)) = T := by
  have h := tt_c h hi
  by_cases hb : hld fc (C.getD i dfC).2.2 = true
  · rw [if_pos hb, if_neg hw, Int32.zero_add] at h; exact h
  · rw [if_neg hb, Int32.zero_add] at h; exact h
theorem tt_0 (h : q + tot fc w (C.drop i) = T) (hi : i < C.length) (hb : hld fc (C.getD i dfC).2.2 = false) : q + tot fc w (C.drop (i + 1)) = T := by
  have h := tt_c h hi
  rw [if_neg (by rw [hb]; decide), Int32.zero_add] at h; exact h
theorem tt_1 (h : q + tot fc w (C.drop i) = T) (hi : i < C.length) (hw : (C.getD i dfC).1 = w) (hb : hld fc (C.getD i dfC).2.2 = true) : q + nI (C.getD i dfC).2.1 + tot fc w (C.drop (i + 1)) = T := by
  have h := tt_c h hi
  rw [if_pos hb, if_pos hw, ← Int32.add_assoc] at h; exact h
theorem tt_e (h : q + tot fc w (C.drop i) = T) (hi : C.length ≤ i) : q = T := by
  rw [List.drop_eq_nil_of_le hi] at h
  exact (Int32.add_zero q).symm.trans h
end
/-! how far: the class's way of saying it -/
theorem ab_sz (v : Int32) : (if 0 ≤ v then v else 0 - v) = szR v := by rw [szR, Int32.zero_sub]
theorem mx_ap (a b : Int32) : (if a < b then b else a) = (if a ≤ b then b else a) := by
  by_cases h : a < b
  · rw [if_pos h, if_pos (Int32.le_of_lt h)]
  · rw [if_neg h]
    by_cases h2 : a ≤ b
    · rw [if_pos h2]; exact Int32.le_antisymm h2 (Int32.not_lt.mp h)
    · rw [if_neg h2]
noncomputable def mx0 (x : Int32) : Int32 := if 0 < x then x else 0
theorem mx0_eq (p : Int32) : mx0 p = if p < 0 then 0 else p := by
  by_cases h : p < 0
  · rw [mx0, if_pos h, if_neg (show ¬ 0 < p from fun z => Int32.lt_irrefl (Int32.lt_trans h z))]
  · rw [if_neg h, mx0]
    by_cases h2 : 0 < p
    · rw [if_pos h2]
    · rw [if_neg h2]; exact Int32.le_antisymm (Int32.not_lt.mp h) (Int32.not_lt.mp h2)
theorem rc1_0 (v : Int32) : rc1 0 v = 0 := by rw [rc1, if_neg (by decide), if_neg (by decide), if_neg (by decide), if_neg (by decide)]
theorem rc1_3 (v : Int32) : rc1 3 v = 0 := by rw [rc1, if_neg (by decide), if_neg (by decide), if_neg (by decide), if_neg (by decide)]
theorem rc1_6 (v : Int32) : rc1 6 v = 0 := by rw [rc1, if_neg (by decide), if_neg (by decide), if_neg (by decide), if_neg (by decide)]
theorem rc1_1 (v : Int32) : rc1 1 v = v / 3 := by rw [rc1, if_pos rfl]
theorem rc1_4 (v : Int32) : rc1 4 v = v / 3 := by rw [rc1, if_neg (by decide), if_pos rfl]
theorem rc1_2 (v : Int32) : rc1 2 v = -1 := by rw [rc1, if_neg (by decide), if_neg (by decide), if_pos rfl]
theorem rc1_5 (v : Int32) : rc1 5 v = -1 := by rw [rc1, if_neg (by decide), if_neg (by decide), if_neg (by decide), if_pos rfl]
section
variable {F : Nat → Int32} {C : List pCla} {mi sn kd v c sg t0 t1 r : Int32} {i : Nat}
theorem rv_p (hF : ∀ j, j < 6 → F j = fct (nI i) kd c mi sn j) (h0 : t0 = tot F 0 C) (h1 : t1 = tot F 1 C) (hs : sg = nI (sgC C)) : sg + t0 - t1 - mi = nI (sgC C) + sTt (fct (nI i) kd c mi sn) C - mi := by
  rw [h0, h1, hs, tot_cg hF, tot_cg hF, sTt_eq, Int32.sub_eq_add_neg (nI (sgC C) + tot (fct (nI i) kd c mi sn) 0 C), Int32.sub_eq_add_neg (tot (fct (nI i) kd c mi sn) 0 C), Int32.add_assoc]
theorem rv_0 (hP : ∃ p : Int32, p = nI (sgC C) + sTt (fct (nI i) kd c mi sn) C - mi ∧ r = mx0 p) (hk : kd = 0) : r = RV C mi sn i kd v c := by
  obtain ⟨p, e, hr⟩ := hP
  rw [RV, ← e, hr, hk, rc3, if_neg (show ¬ (0 : Int32) = 6 by decide), rc2, if_neg (show ¬ (0 : Int32) = 5 by decide), rc1_0, Int32.add_zero, mx0_eq]
theorem rv_3 (hP : ∃ p : Int32, p = nI (sgC C) + sTt (fct (nI i) kd c mi sn) C - mi ∧ r = mx0 p) (hk : kd = 3) : r = RV C mi sn i kd v c := by
  obtain ⟨p, e, hr⟩ := hP
  rw [RV, ← e, hr, hk, rc3, if_neg (show ¬ (3 : Int32) = 6 by decide), rc2, if_neg (show ¬ (3 : Int32) = 5 by decide), rc1_3, Int32.add_zero, mx0_eq]
theorem rv_1 (hP : ∃ p : Int32, p = nI (sgC C) + sTt (fct (nI i) kd c mi sn) C - mi ∧ r = mx0 (p + v / 3)) (hk : kd = 1) : r = RV C mi sn i kd v c := by
  obtain ⟨p, e, hr⟩ := hP
  rw [RV, ← e, hr, hk, rc3, if_neg (show ¬ (1 : Int32) = 6 by decide), rc2, if_neg (show ¬ (1 : Int32) = 5 by decide), rc1_1, mx0_eq]
theorem rv_4 (hP : ∃ p : Int32, p = nI (sgC C) + sTt (fct (nI i) kd c mi sn) C - mi ∧ r = mx0 (p + v / 3)) (hk : kd = 4) : r = RV C mi sn i kd v c := by
  obtain ⟨p, e, hr⟩ := hP
  rw [RV, ← e, hr, hk, rc3, if_neg (show ¬ (4 : Int32) = 6 by decide), rc2, if_neg (show ¬ (4 : Int32) = 5 by decide), rc1_4, mx0_eq]
theorem rv_2 (hP : ∃ p : Int32, p = nI (sgC C) + sTt (fct (nI i) kd c mi sn) C - mi ∧ r = mx0 (p - 1)) (hk : kd = 2) : r = RV C mi sn i kd v c := by
  obtain ⟨p, e, hr⟩ := hP
  rw [RV, ← e, hr, hk, rc3, if_neg (show ¬ (2 : Int32) = 6 by decide), rc2, if_neg (show ¬ (2 : Int32) = 5 by decide), rc1_2, Int32.sub_eq_add_neg p 1, mx0_eq]
theorem rv_5 (hP : ∃ p : Int32, p = nI (sgC C) + sTt (fct (nI i) kd c mi sn) C - mi ∧ r = if sn ≤ v then mx0 (p - 1) else 0) (hk : kd = 5) : r = RV C mi sn i kd v c := by
  obtain ⟨p, e, hr⟩ := hP
  rw [RV, ← e, hr, hk, rc3, if_neg (show ¬ (5 : Int32) = 6 by decide), rc2, if_pos (rfl : (5 : Int32) = 5), rc1_5, Int32.sub_eq_add_neg p 1, mx0_eq]
  by_cases h : sn ≤ v
  · rw [if_pos h, if_pos h]
  · rw [if_neg h, if_neg h]; split <;> rfl
theorem rv_6 (hP : ∃ p : Int32, p = nI (sgC C) + sTt (fct (nI i) kd c mi sn) C - mi ∧ r = if mx0 p < 1 then mx0 p else 1) (hk : kd = 6) : r = RV C mi sn i kd v c := by
  obtain ⟨p, e, hr⟩ := hP
  rw [RV, ← e, hr, hk, rc3, if_pos (rfl : (6 : Int32) = 6), rc2, if_neg (show ¬ (6 : Int32) = 5 by decide), rc1_6, Int32.add_zero, ← mx0_eq]
  by_cases h : mx0 p < 1
  · rw [if_pos h, if_pos (Int32.le_of_lt h)]
  · rw [if_neg h]
    by_cases h2 : mx0 p ≤ 1
    · rw [if_pos h2]; exact Int32.le_antisymm (Int32.not_lt.mp h) h2
    · rw [if_neg h2]
theorem drv_c {x t : Int32} (hF : ∀ j, j < 6 → F j = fct 99 99 x mi sn j) (h : t = tot F 3 C) : (if t < 5 then t else 5) = DRV C mi sn x := by
  rw [DRV, ← tot_cg hF, ← h]
  by_cases h1 : t < 5
  · rw [if_pos h1, if_pos (Int32.le_of_lt h1)]
  · rw [if_neg h1]
    by_cases h2 : t ≤ 5
    · rw [if_pos h2]; exact Int32.le_antisymm (Int32.not_lt.mp h1) h2
    · rw [if_neg h2]
end
theorem me_up {f g : Nat → Int32} {i : Nat} (h : ∀ k, k < i → f k = g k) : ∀ k, k < i + 1 → upd f i (g i) k = g k := by
  intro k hk
  by_cases e : k = i
  · subst e; rw [pk_us]
  · rw [pk_un e]; exact h k (by omega)
theorem sw3_0 {k : Nat} (h : nI (k / 100 % 3) = 0) : k / 100 % 3 = 0 := (nI_eq (b := 0) (by omega) (by omega)).mp h
theorem sw3_1 {k : Nat} (h : nI (k / 100 % 3) = 1) : k / 100 % 3 = 1 := (nI_eq (b := 1) (by omega) (by omega)).mp h
theorem sw3_m {k : Nat} (h : ¬ nI (k / 100 % 3) = 0) : ¬ k / 100 % 3 = 0 := fun e => h (by rw [e]; rfl)
theorem sw3_n {k : Nat} (h : ¬ nI (k / 100 % 3) = 1) : ¬ k / 100 % 3 = 1 := fun e => h (by rw [e]; rfl)
/-! answers by what is visible: of, sees, where, drift -/
noncomputable def ofR (n : Nat) (yk yv yc : Nat → Int32) (C : List pCla) (mi sn x y : Int32) : Int32 := @ite Int32 (hh n x) (Classical.propDecidable _) (if y = 0 then yk x.toNatClampNeg else if y = 1 then yv x.toNatClampNeg else if y = 2 then yc x.toNatClampNeg else if y = 3 then RV C mi sn x.toNatClampNeg (yk x.toNatClampNeg) (yv x.toNatClampNeg) (yc x.toNatClampNeg) else -1) (-1)
section
variable {n j h : Nat} {yk yv yc : Nat → Int32} {C : List pCla} {mi sn x y : Int32} {f : Nat → Int32}
theorem of_no (h : ∀ j : Nat, j < n → x ≠ nI j) : -1 = ofR n yk yv yc C mi sn x y := by rw [ofR, if_neg (hh_no h)]
theorem of_at (hn : n ≤ 8) (hj : j < n) : ofR n yk yv yc C mi sn (nI j) y = if y = 0 then yk j else if y = 1 then yv j else if y = 2 then yc j else if y = 3 then RV C mi sn j (yk j) (yv j) (yc j) else -1 := by rw [ofR, if_pos (hh_yes hj), nI_clamp (by omega)]
theorem of_k (hn : n ≤ 8) (hj : j < n) (h0 : y = 0) : yk j = ofR n yk yv yc C mi sn (nI j) y := by rw [of_at hn hj, if_pos h0]
theorem of_v (hn : n ≤ 8) (hj : j < n) (h0 : y = 1) : yv j = ofR n yk yv yc C mi sn (nI j) y := by rw [of_at hn hj, if_neg (show ¬ y = 0 by rw [h0]; decide), if_pos h0]
theorem of_c (hn : n ≤ 8) (hj : j < n) (h0 : y = 2) : yc j = ofR n yk yv yc C mi sn (nI j) y := by rw [of_at hn hj, if_neg (show ¬ y = 0 by rw [h0]; decide), if_neg (show ¬ y = 1 by rw [h0]; decide), if_pos h0]
theorem of_r (hn : n ≤ 8) (hj : j < n) (h0 : y = 3) : RV C mi sn j (yk j) (yv j) (yc j) = ofR n yk yv yc C mi sn (nI j) y := by rw [of_at hn hj, if_neg (show ¬ y = 0 by rw [h0]; decide), if_neg (show ¬ y = 1 by rw [h0]; decide), if_neg (show ¬ y = 2 by rw [h0]; decide), if_pos h0]
theorem of_x (hn : n ≤ 8) (hj : j < n) (h0 : ¬ y = 0) (h1 : ¬ y = 1) (h2 : ¬ y = 2) (h3 : ¬ y = 3) : -1 = ofR n yk yv yc C mi sn (nI j) y := by rw [of_at hn hj, if_neg h0, if_neg h1, if_neg h2, if_neg h3]
theorem of_y (hn : n ≤ 8) (hj : j < n) (h : y < 0 ∨ 3 < y) : -1 = ofR n yk yv yc C mi sn (nI j) y := by
  have e : ∀ k : Int32, ¬ (k < 0 ∨ 3 < k) → ¬ y = k := fun k hk z => hk (z ▸ h)
  exact of_x hn hj (e 0 (by decide)) (e 1 (by decide)) (e 2 (by decide)) (e 3 (by decide))
theorem RR_eq (hj : j < n) (zk : ∀ k, k < n → f (10 + k) = yk k) (zv : ∀ k, k < n → f (19 + k) = yv k) (zc : ∀ k, k < n → f (28 + k) = yc k) (zm : f 6 = mi) (zs : f 7 = sn) : RR f C j = RV C mi sn j (yk j) (yv j) (yc j) := by rw [RR, zk j hj, zv j hj, zc j hj, zm, zs]
theorem of_3 (hn : n ≤ 8) (hj : j < n) (zk : ∀ k, k < n → f (10 + k) = yk k) (zv : ∀ k, k < n → f (19 + k) = yv k) (zc : ∀ k, k < n → f (28 + k) = yc k) (zm : f 6 = mi) (zs : f 7 = sn) : RR f C j = ofR n yk yv yc C mi sn (nI j) (nI 3) := by rw [RR_eq hj zk zv zc zm zs]; exact of_r hn hj rfl
theorem of_m (hn : n ≤ 8) (hj : j < n) (hh : h ≤ 3) (h3 : ¬ h = 3) (zk : ∀ k, k < n → f (10 + k) = yk k) (zv : ∀ k, k < n → f (19 + k) = yv k) (zc : ∀ k, k < n → f (28 + k) = yc k) : f (10 + 9 * h + j) = ofR n yk yv yc C mi sn (nI j) (nI h) := by
  rcases (show h = 0 ∨ h = 1 ∨ h = 2 by omega) with rfl | rfl | rfl
  · exact (zk j hj).trans (of_k hn hj rfl)
  · exact (zv j hj).trans (of_v hn hj rfl)
  · exact (zc j hj).trans (of_c hn hj rfl)
noncomputable def seV (n : Nat) (yk yv yc : Nat → Int32) (C : List pCla) (mi sn x : Int32) : Int32 := sbR (fun k => apR x (yc k)) (fun k => RV C mi sn k (yk k) (yv k) (yc k)) n
noncomputable def seR (n : Nat) (yk yv yc : Nat → Int32) (C : List pCla) (mi sn x : Int32) : Int32 := if x < 0 ∨ 35 < x then -1 else seV n yk yv yc C mi sn x
theorem seV_m (zk : ∀ k, k < n → f (10 + k) = yk k) (zv : ∀ k, k < n → f (19 + k) = yv k) (zc : ∀ k, k < n → f (28 + k) = yc k) (zm : f 6 = mi) (zs : f 7 = sn) : sbR (fun i => apR x (f (28 + i))) (fun i => RR f C i) n = seV n yk yv yc C mi sn x := sb_cg n (fun i hi => ⟨by show apR x (f (28 + i)) = apR x (yc i); rw [zc i hi], RR_eq hi zk zv zc zm zs⟩)
theorem se_no (h : x < 0 ∨ 35 < x) : -1 = seR n yk yv yc C mi sn x := (if_pos h).symm
theorem se_m (h1 : ¬ x < 0) (h2 : ¬ 35 < x) (zk : ∀ k, k < n → f (10 + k) = yk k) (zv : ∀ k, k < n → f (19 + k) = yv k) (zc : ∀ k, k < n → f (28 + k) = yc k) (zm : f 6 = mi) (zs : f 7 = sn) : sbR (fun i => apR x (f (28 + i))) (fun i => RR f C i) n = seR n yk yv yc C mi sn x := by
  rw [seV_m zk zv zc zm zs, seR, if_neg (show ¬ (x < 0 ∨ 35 < x) from fun q => q.elim h1 h2)]
theorem cell_no (h : x < 0 ∨ 36 ≤ x) : x < 0 ∨ 35 < x := h.elim Or.inl (fun q => Or.inr (Int32.lt_of_lt_of_le (by decide) q))
theorem cell_yes (hj : j < 36) : ¬ (nI j < 0 ∨ 35 < nI j) := fun q => q.elim (nI_pos (by omega)) (nI_nlt (a := 35) (by omega) (by omega))
theorem se_x (hj : j < 36) (hm : ∀ k, k < n → f k = RV C mi sn k (yk k) (yv k) (yc k)) : sbR (fun k => apR (nI j) (yc k)) f n = seR n yk yv yc C mi sn (nI j) := by
  rw [seR, if_neg (cell_yes hj), seV]
  exact sb_cg n (fun i hi => ⟨rfl, hm i hi⟩)
noncomputable def whR (n : Nat) (yk yv yc : Nat → Int32) (C : List pCla) (mi sn x : Int32) : Int64 := if x < 0 ∨ ¬ x >>> (nI n &&& 31) = 0 then (-9223372036854775808) else whB (fun i => seV n yk yv yc C mi sn (nI i)) x 36
theorem whB_cg {S T : Nat → Int32} (m : Nat) (h : ∀ i, S i = T i) : whB S x m = whB T x m := by rw [show S = T from funext h]
theorem wh_a (h : x < 0) : (-9223372036854775808) = whR n yk yv yc C mi sn x := (if_pos (Or.inl h)).symm
theorem wh_b (h : ¬ x >>> (nI n &&& 31) = 0) : (-9223372036854775808) = whR n yk yv yc C mi sn x := (if_pos (Or.inr h)).symm
theorem wh_m (h1 : ¬ x < 0) (h2 : x >>> (nI n &&& 31) = 0) (zk : ∀ k, k < n → f (10 + k) = yk k) (zv : ∀ k, k < n → f (19 + k) = yv k) (zc : ∀ k, k < n → f (28 + k) = yc k) (zm : f 6 = mi) (zs : f 7 = sn) {q : Int64} (hq : q = whB (fun i => sbR (fun k => apR (nI i) (f (28 + k))) (fun k => RR f C k) n) x 36) : q = whR n yk yv yc C mi sn x := by
  rw [hq, whR, if_neg (show ¬ (x < 0 ∨ ¬ x >>> (nI n &&& 31) = 0) from fun q => q.elim h1 (fun z => z h2))]
  exact whB_cg 36 (fun i => seV_m zk zv zc zm zs)
theorem sh_1 : ∀ n, n < 9 → (1 : Int32) <<< (nI n &&& 31) = nI (2 ^ n) ∧ 2 ^ n ≤ 256 := by decide +kernel
theorem wh_iff (hn : n ≤ 8) (h1 : ¬ x < 0) : x >>> (nI n &&& 31) = 0 ↔ x < 1 <<< (nI n &&& 31) := by
  obtain ⟨m, hm, rfl⟩ := nI_of h1
  obtain ⟨e1, e2⟩ := sh_1 n (by omega)
  have hb9 : ∀ i, bt (nI m) i = m.testBit i := fun i => by
    show (BitVec.ofNat 32 m).toNat.testBit i = m.testBit i
    rw [BitVec.toNat_ofNat, Nat.mod_eq_of_lt (by omega)]
  rw [e1, nI_ltI (by omega) (by omega)]
  constructor
  · intro h
    apply Nat.lt_pow_two_of_testBit
    intro i hi
    rcases Nat.lt_or_ge i 32 with q | q
    · have e := b_sshr n (by omega) (nI m) (i := i - n) (by omega)
      rw [h, b_0, if_pos (show n + (i - n) < 32 by omega), show n + (i - n) = i by omega, hb9] at e
      exact e.symm
    · exact Nat.testBit_lt_two_pow (Nat.lt_of_lt_of_le hm (Nat.le_trans (by decide) (Nat.pow_le_pow_right (by decide) q)))
  · intro h
    apply b_ext
    intro i hi
    have z : ∀ k, n ≤ k → bt (nI m) k = false := fun k hk => by
      rw [hb9]
      exact Nat.testBit_lt_two_pow (Nat.lt_of_lt_of_le h (Nat.pow_le_pow_right (by decide) hk))
    rw [b_sshr n (by omega) (nI m) hi, b_0]
    split
    · exact z _ (by omega)
    · exact z _ (by omega)
theorem wh_c (hn : n ≤ 8) (h1 : ¬ x < 0) (h : ¬ x < 1 <<< (nI n &&& 31)) : (-9223372036854775808) = whR n yk yv yc C mi sn x := wh_b (fun z => h ((wh_iff hn h1).mp z))
theorem wh_x (hn : n ≤ 8) (h1 : ¬ x < 0) (h : x < 1 <<< (nI n &&& 31)) (hm : ∀ k, k < n → f k = RV C mi sn k (yk k) (yv k) (yc k)) {q : Int64} (hq : q = whB (fun i => sbR (fun k => apR (nI i) (yc k)) f n) x 36) : q = whR n yk yv yc C mi sn x := by
  rw [hq, whR, if_neg (show ¬ (x < 0 ∨ ¬ x >>> (nI n &&& 31) = 0) from fun q => q.elim h1 (fun z => z ((wh_iff hn h1).mpr h)))]
  exact whB_cg 36 (fun i => sb_cg n (fun k hk => ⟨rfl, hm k hk⟩))
noncomputable def drR (C : List pCla) (mi sn x : Int32) : Int32 := if x < 0 ∨ 35 < x then -1 else DRV C mi sn x
theorem drR_no (h : x < 0 ∨ 35 < x) : -1 = drR C mi sn x := (if_pos h).symm
theorem drR_m (h1 : ¬ x < 0) (h2 : ¬ 35 < x) (zm : f 6 = mi) (zs : f 7 = sn) : DRV C (f 6) (f 7) x = drR C mi sn x := by
  rw [drR, if_neg (show ¬ (x < 0 ∨ 35 < x) from fun q => q.elim h1 h2), zm, zs]
theorem drR_x (hj : j < 36) : DRV C mi sn (nI j) = drR C mi sn (nI j) := (if_neg (cell_yes hj)).symm
end
/-! a line of people -/
noncomputable def mb (x : Int32) : Prop := ∃ m : Nat, m ≤ 9 ∧ x = nI m
theorem sz_neg (v : Int32) : szR (-v) = szR v := by
  have l1 := Int32.le_toInt v
  have l2 := Int32.toInt_lt v
  have e : (-v).toInt = (-v.toInt).bmod 4294967296 := Int32.toInt_neg v
  by_cases m : v.toInt = -2147483648
  · have hv : v = -2147483648 := Int32.toInt_inj.mp (by rw [m]; first | decide | rfl)
    rw [hv]; decide
  · have e2 : (-v.toInt).bmod 4294967296 = -v.toInt := Int.bmod_eq_of_le (by omega) (by omega)
    have k1 : (0 : Int32) ≤ -v ↔ v.toInt ≤ 0 := by
      rw [Int32.le_iff_toInt_le, e, e2, show (0 : Int32).toInt = 0 from rfl]
      omega
    have k2 : (0 : Int32) ≤ v ↔ 0 ≤ v.toInt := by
      rw [Int32.le_iff_toInt_le, show (0 : Int32).toInt = 0 from rfl]
    by_cases a : v.toInt ≤ 0
    · by_cases b : 0 ≤ v.toInt
      · have hv : v = 0 := Int32.toInt_inj.mp (by rw [show (0 : Int32).toInt = 0 from rfl]; omega)
        rw [hv]; decide
      · rw [szR, szR, if_pos (k1.mpr a), if_neg (fun z => b (k2.mp z))]
    · have b : 0 ≤ v.toInt := by omega
      rw [szR, szR, if_neg (fun z => a (k1.mp z)), if_pos (k2.mpr b), Int32.neg_neg]
theorem sz_sub (a b : Int32) : szR (a - b) = szR (b - a) := (congrArg szR (Int32.neg_sub (a := b) (b := a)).symm).trans (sz_neg (b - a))
theorem ap_sym (x y : Int32) : apR x y = apR y x := by
  rw [apR, apR, sz_sub (x / 6) (y / 6), sz_sub (x - x / 6 * 6) (y - y / 6 * 6)]
theorem sg_fl : ∀ (C : List pCla) (a : Nat), a ≤ 99 → WfC C → C.foldl (fun a c => if c.1 = 2 then c.2.1 else a) a ≤ 99
  | [], a, h, _ => h
  | c :: C, a, h, hw => by
    rw [List.foldl_cons]
    refine sg_fl C _ ?_ (fun d hd => hw d (List.mem_cons_of_mem _ hd))
    split
    · exact (hw c List.mem_cons_self).2.1
    · exact h
theorem sgC_le {C : List pCla} (h : WfC C) : sgC C ≤ 99 := sg_fl C 3 (by decide) h
noncomputable def lnE (sg : Nat) (mi : Int32) : Int32 := if mi ≤ nI sg then nI sg - mi else 0
theorem ln_mx {s : Nat} {mi : Int32} (h : mb mi) (hs : s ≤ 99) : (if 0 < nI s - mi then nI s - mi else 0) = lnE s mi := by
  obtain ⟨m, hm, rfl⟩ := h
  have hd : ∀ s, s < 100 → ∀ m, m < 10 → (if (0 : Int32) < nI s - nI m then nI s - nI m else 0) = (if nI m ≤ nI s then nI s - nI m else 0) := by decide +kernel
  exact hd s (by omega) m (by omega)
noncomputable def lnB (A : Nat → Int32) (j : Nat) (F : Int32) : Nat → Int32
  | 0 => 0
  | i + 1 => if i = j ∨ F < A i then lnB A j F i else lnB A j F i ||| (1 <<< (nI i &&& 31))
section
variable {A B : Nat → Int32} {j i n : Nat} {F q : Int32}
theorem ln_s {G : Nat → Int32} (hG : G = lnB A j F) (h : q = G i) (h2 : i = j ∨ F < A i) : q = G (i + 1) := by
  rw [h, hG]
  exact (if_pos h2).symm
theorem ln_s0 {G : Nat → Int32} (hG : G = lnB A j F) (h : q = G i) (h2 : i = j ∨ F < A i) : q ||| 0 = G (i + 1) := by
  rw [Int32.or_zero]
  exact ln_s hG h h2
theorem ln_1 {G : Nat → Int32} (hG : G = lnB A j F) (h : q = G i) (h2 : ¬ i = j) (h3 : ¬ F < A i) : q ||| (1 <<< (nI i &&& 31)) = G (i + 1) := by
  rw [h, hG]
  exact (if_neg (show ¬ (i = j ∨ F < A i) from fun z => z.elim h2 h3)).symm
theorem lnB_cg : ∀ n : Nat, (∀ i, i < n → A i = B i) → lnB A j F n = lnB B j F n
  | 0, _ => rfl
  | n + 1, h => by
    show (if n = j ∨ F < A n then lnB A j F n else lnB A j F n ||| (1 <<< (nI n &&& 31))) = (if n = j ∨ F < B n then lnB B j F n else lnB B j F n ||| (1 <<< (nI n &&& 31)))
    rw [lnB_cg n (fun i hi => h i (by omega)), h n (by omega)]
end
noncomputable def lnR (n : Nat) (yc : Nat → Int32) (sg : Nat) (mi x y : Int32) : Int32 := @ite Int32 (hh n x) (Classical.propDecidable _) (if y < 1 ∨ 9 < y then -2 else lnB (fun k => apR (yc x.toNatClampNeg) (yc k)) x.toNatClampNeg ((y - 1) * lnE sg mi) n) (-1)
section
variable {n j i sg : Nat} {yc f : Nat → Int32} {mi x y q : Int32} {G : Nat → Int32}
theorem ln_no (h : ∀ j : Nat, j < n → x ≠ nI j) : -1 = lnR n yc sg mi x y := by rw [lnR, if_neg (hh_no h)]
theorem ln_at (hn : n ≤ 8) (hj : j < n) : lnR n yc sg mi (nI j) y = if y < 1 ∨ 9 < y then -2 else lnB (fun k => apR (yc j) (yc k)) j ((y - 1) * lnE sg mi) n := by rw [lnR, if_pos (hh_yes hj), nI_clamp (by omega)]
theorem ln_bad (hn : n ≤ 8) (hj : j < n) (h : y < 1 ∨ 9 < y) : -2 = lnR n yc sg mi (nI j) y := by rw [ln_at hn hj, if_pos h]
theorem ln_ok (hn : n ≤ 8) (hj : j < n) (h1 : ¬ y < 1) (h2 : ¬ 9 < y) (hG : G = lnB (fun k => apR (yc j) (yc k)) j ((y - 1) * lnE sg mi)) (hq : q = G i) (hi : i = n) : q = lnR n yc sg mi (nI j) y := by
  rw [ln_at hn hj, if_neg (show ¬ (y < 1 ∨ 9 < y) from fun z => z.elim h1 h2), hq, hG, hi]
theorem ln_m (hn : n ≤ 8) (hj : j < n) (h1 : ¬ y < 1) (h2 : ¬ 9 < y) (zc : ∀ k, k < n → f (28 + k) = yc k) (zm : f 6 = mi) (hG : G = lnB (fun k => apR (f (28 + k)) (f (28 + j))) j ((y - 1) * lnE sg (f 6))) (hq : q = G i) (hi : i = n) : q = lnR n yc sg mi (nI j) y := by
  rw [ln_at hn hj, if_neg (show ¬ (y < 1 ∨ 9 < y) from fun z => z.elim h1 h2), hq, hG, hi, zm]
  exact lnB_cg n (fun k hk => by
    show apR (f (28 + k)) (f (28 + j)) = apR (yc j) (yc k)
    rw [zc k hk, zc j hj, ap_sym])
theorem st_mb (h : mb mi) : mb (if x < 0 then mi else if 1 < x then mi else if y < 0 then mi else if 9 < y then mi else if x = 0 then y else mi) := by
  split
  · exact h
  · split
    · exact h
    · split
      · exact h
      · split
        · exact h
        · split
          · rename_i h3 h4 h5
            obtain ⟨k, hk, e⟩ := nI_of2 (n := 9) (M := 9) (x := y) rfl h3 (Int32.not_lt.mp h4)
            exact ⟨k, by omega, e⟩
          · exact h
end
/-! from heap to heap: rows of bits -/
noncomputable abbrev tB (s y : Int32) : Prop := s >>> (y &&& 31) &&& 1 = 1
theorem b1_z : ∀ i, i < 32 → ¬ i = 0 → bt 1 i = false := by decide +kernel
theorem bm_1 : ∀ i, i < 32 → bt (-1) i = true := by decide +kernel
theorem tb_iff {s : Int32} {j : Nat} (hj : j < 32) : tB s (nI j) ↔ bt s j = true := by
  have e0 : bt (s >>> (nI j &&& 31) &&& 1) 0 = bt s j := by
    rw [b_and, b_sshr j hj s (show 0 < 32 by decide), if_pos (show j + 0 < 32 by omega), show bt 1 0 = true from by decide, Bool.and_true, Nat.add_zero]
  constructor
  · intro h
    rw [← e0, show s >>> (nI j &&& 31) &&& 1 = 1 from h]
    decide
  · intro h
    show s >>> (nI j &&& 31) &&& 1 = 1
    apply b_ext
    intro i hi
    by_cases q : i = 0
    · subst q
      rw [e0, h]
      decide
    · rw [b_and, b1_z i hi q, Bool.and_false]
noncomputable def spI (g : Nat → Int32) (s : Int32) : Nat → Int32
  | 0 => s
  | i + 1 => if tB s (nI i) then spI g s i ||| g i else spI g s i
noncomputable def owI (g : Nat → Int32) (s : Int32) : Nat → Int32
  | 0 => 0
  | i + 1 => if tB s (nI i) then owI g s i ||| g i else owI g s i
section
variable {g : Nat → Int32} {s q : Int32} {i n : Nat}
theorem sp_t (h : q = spI g s i) (h2 : tB s (nI i)) : q ||| g i = spI g s (i + 1) := by
  rw [h]
  exact (if_pos h2).symm
theorem sp_f (h : q = spI g s i) (h2 : ¬ tB s (nI i)) : q ||| 0 = spI g s (i + 1) := by
  rw [Int32.or_zero, h]
  exact (if_neg h2).symm
theorem sp_e (h : q = spI g s i) (e : i = n) : q = spI g s n := e ▸ h
theorem ow_t (h : q = owI g s i) (h2 : tB s (nI i)) : q ||| g i = owI g s (i + 1) := by
  rw [h]
  exact (if_pos h2).symm
theorem ow_f (h : q = owI g s i) (h2 : ¬ tB s (nI i)) : q = owI g s (i + 1) := by
  rw [h]
  exact (if_neg h2).symm
theorem ow_e (h : q = owI g s i) (e : i = n) : q = owI g s n := e ▸ h
theorem sp_bt : ∀ n : Nat, n ≤ 32 → ∀ j, bt (spI g s n) j = true ↔ bt s j = true ∨ ∃ i, i < n ∧ bt s i = true ∧ bt (g i) j = true
  | 0, _, j => ⟨fun h => Or.inl h, fun h => h.elim id (fun ⟨i, hi, _⟩ => absurd hi (Nat.not_lt_zero i))⟩
  | n + 1, hn, j => by
    by_cases h : tB s (nI n)
    · have h' := (tb_iff (show n < 32 by omega)).mp h
      rw [show spI g s (n + 1) = spI g s n ||| g n from if_pos h, b_or, Bool.or_eq_true, sp_bt n (by omega) j]
      constructor
      · rintro ((a | ⟨i, hi, b, c⟩) | a)
        · exact Or.inl a
        · exact Or.inr ⟨i, by omega, b, c⟩
        · exact Or.inr ⟨n, by omega, h', a⟩
      · rintro (a | ⟨i, hi, b, c⟩)
        · exact Or.inl (Or.inl a)
        · by_cases e : i = n
          · subst e; exact Or.inr c
          · exact Or.inl (Or.inr ⟨i, by omega, b, c⟩)
    · rw [show spI g s (n + 1) = spI g s n from if_neg h, sp_bt n (by omega) j]
      constructor
      · rintro (a | ⟨i, hi, b, c⟩)
        · exact Or.inl a
        · exact Or.inr ⟨i, by omega, b, c⟩
      · rintro (a | ⟨i, hi, b, c⟩)
        · exact Or.inl a
        · by_cases e : i = n
          · subst e; exact absurd ((tb_iff (show i < 32 by omega)).mpr b) h
          · exact Or.inr ⟨i, by omega, b, c⟩
theorem ow_bt : ∀ n : Nat, n ≤ 32 → ∀ j, bt (owI g s n) j = true ↔ ∃ i, i < n ∧ bt s i = true ∧ bt (g i) j = true
  | 0, _, j => ⟨fun h => by rw [show owI g s 0 = 0 from rfl, b_0] at h; exact absurd h (by decide), fun ⟨i, hi, _⟩ => absurd hi (Nat.not_lt_zero i)⟩
  | n + 1, hn, j => by
    by_cases h : tB s (nI n)
    · have h' := (tb_iff (show n < 32 by omega)).mp h
      rw [show owI g s (n + 1) = owI g s n ||| g n from if_pos h, b_or, Bool.or_eq_true, ow_bt n (by omega) j]
      constructor
      · rintro (⟨i, hi, b, c⟩ | a)
        · exact ⟨i, by omega, b, c⟩
        · exact ⟨n, by omega, h', a⟩
      · rintro ⟨i, hi, b, c⟩
        by_cases e : i = n
        · subst e; exact Or.inr c
        · exact Or.inl ⟨i, by omega, b, c⟩
    · rw [show owI g s (n + 1) = owI g s n from if_neg h, ow_bt n (by omega) j]
      constructor
      · rintro ⟨i, hi, b, c⟩
        exact ⟨i, by omega, b, c⟩
      · rintro ⟨i, hi, b, c⟩
        by_cases e : i = n
        · subst e; exact absurd ((tb_iff (show i < 32 by omega)).mpr b) h
        · exact ⟨i, by omega, b, c⟩
end
/-- the reference's sets, its answer; the class's -/
noncomputable def SI (g : Nat → Int32) (n : Nat) (x z : Int32) : Nat → Int32
  | 0 => 1 <<< (x &&& 31)
  | k + 1 => spI g (SI g n x z k) n &&& (z ^^^ (-1))
noncomputable def fsF (S : Nat → Int32) (y : Int32) : Nat → Nat → Int32
  | 0, _ => -5
  | m + 1, k => if tB (S k) y then nI k else fsF S y m (k + 1)
noncomputable def fsR (g : Nat → Int32) (n : Nat) (x y z : Int32) : Int32 := fsF (SI g n x z) y 10 0
noncomputable def cwJ (g : Nat → Int32) (n : Nat) (x z : Int32) : Nat → Int32 × Int32
  | 0 => (1 <<< (x &&& 31), 1 <<< (x &&& 31))
  | k + 1 => ((cwJ g n x z k).1 ||| (owI g (cwJ g n x z k).2 n &&& (((cwJ g n x z k).1 ||| z) ^^^ (-1))), owI g (cwJ g n x z k).2 n &&& (((cwJ g n x z k).1 ||| z) ^^^ (-1)))
noncomputable def fwF (P : Nat → Int32 × Int32) (y : Int32) : Nat → Nat → Int32
  | 0, _ => -5
  | m + 1, k => if (P k).2 = 0 then -5 else if tB (P (k + 1)).2 y then nI (k + 1) else fwF P y m (k + 1)
noncomputable def fwR (g : Nat → Int32) (n : Nat) (x y z : Int32) : Int32 := if x = y then 0 else fwF (cwJ g n x z) y 7 0
section
variable {S : Nat → Int32} {P : Nat → Int32 × Int32} {y q q2 A : Int32} {i : Nat}
theorem fs_hit (h : A = fsF S y (10 - i) i) (hi : ¬ 10 ≤ i) (hq : q = S i) (ht : tB q y) : nI i = A := by
  rw [h, show 10 - i = (9 - i) + 1 by omega]
  subst hq
  exact (if_pos ht).symm
theorem fs_next (h : A = fsF S y (10 - i) i) (hi : ¬ 10 ≤ i) (hq : q = S i) (ht : ¬ tB q y) : A = fsF S y (10 - (i + 1)) (i + 1) := by
  rw [h, show 10 - i = (10 - (i + 1)) + 1 by omega]
  subst hq
  exact if_neg ht
theorem fs_end (h : A = fsF S y (10 - i) i) (hi : 10 ≤ i) : -5 = A := by
  rw [h, show 10 - i = 0 by omega]
  rfl
theorem fw_hit (h : A = fwF P y (8 - i) (i - 1)) (hi : 1 ≤ i ∧ i ≤ 8) (h8 : ¬ 8 ≤ i) (hn : q2 = (P (i - 1)).2) (h0 : ¬ q2 = 0) (hq : q = (P (i - 1 + 1)).2) (ht : tB q y) : nI i = A := by
  obtain ⟨k, rfl⟩ : ∃ k : Nat, i = k + 1 := ⟨i - 1, by omega⟩
  rw [Nat.add_sub_cancel] at h hn hq
  rw [h, show 8 - (k + 1) = (6 - k) + 1 by omega]
  subst hn
  subst hq
  exact ((if_neg h0).trans (if_pos ht)).symm
theorem fw_next (h : A = fwF P y (8 - i) (i - 1)) (hi : 1 ≤ i ∧ i ≤ 8) (h8 : ¬ 8 ≤ i) (hn : q2 = (P (i - 1)).2) (h0 : ¬ q2 = 0) (hq : q = (P (i - 1 + 1)).2) (ht : ¬ tB q y) : A = fwF P y (8 - (i + 1)) (i + 1 - 1) := by
  obtain ⟨k, rfl⟩ : ∃ k : Nat, i = k + 1 := ⟨i - 1, by omega⟩
  rw [Nat.add_sub_cancel] at h hn hq
  rw [h, show 8 - (k + 1) = (8 - (k + 1 + 1)) + 1 by omega, Nat.add_sub_cancel]
  subst hn
  subst hq
  exact (if_neg h0).trans (if_neg ht)
theorem fw_zero (h : A = fwF P y (8 - i) (i - 1)) (hi : 1 ≤ i ∧ i ≤ 8) (h8 : ¬ 8 ≤ i) (hn : q2 = (P (i - 1)).2) (h0 : q2 = 0) : -5 = A := by
  rw [h, show 8 - i = (7 - i) + 1 by omega]
  subst hn
  exact (if_pos h0).symm
theorem fw_end (h : A = fwF P y (8 - i) (i - 1)) (h8 : 8 ≤ i) : -5 = A := by
  rw [h, show 8 - i = 0 by omega]
  rfl
theorem fw_v {g : Nat → Int32} {n : Nat} {x z : Int32} {c : Int32} (hi : 1 ≤ i ∧ i ≤ 8) (hc : c = (cwJ g n x z (i - 1)).1) (hn : q2 = (cwJ g n x z (i - 1)).2) : owI g q2 n &&& ((c ||| z) ^^^ (-1)) = (cwJ g n x z (i - 1 + 1)).2 := by
  rw [hc, hn]
  rfl
theorem fw_w {g : Nat → Int32} {n : Nat} {x z : Int32} {c : Int32} (hi : 1 ≤ i ∧ i ≤ 8) (hc : c = (cwJ g n x z (i - 1)).1) (hn : q2 = (cwJ g n x z (i - 1)).2) : owI g q2 n &&& ((c ||| z) ^^^ (-1)) = (cwJ g n x z (i + 1 - 1)).2 := by
  rw [show i + 1 - 1 = i - 1 + 1 by omega]
  exact fw_v hi hc hn
theorem fw_c {g : Nat → Int32} {n : Nat} {x z : Int32} {c : Int32} (hi : 1 ≤ i ∧ i ≤ 8) (hc : c = (cwJ g n x z (i - 1)).1) (hn : q2 = (cwJ g n x z (i - 1)).2) : c ||| (owI g q2 n &&& ((c ||| z) ^^^ (-1))) = (cwJ g n x z (i + 1 - 1)).1 := by
  rw [show i + 1 - 1 = i - 1 + 1 by omega, hc, hn]
  rfl
theorem fs_nev : ∀ (m k : Nat), (∀ l, k ≤ l → ¬ tB (S l) y) → fsF S y m k = -5
  | 0, _, _ => rfl
  | m + 1, k, h => (if_neg (h k (Nat.le_refl k))).trans (fs_nev m (k + 1) (fun l hl => h l (by omega)))
end
/-- how many of the first n -/
noncomputable def pcN (s : Nat → Bool) : Nat → Nat
  | 0 => 0
  | i + 1 => pcN s i + (if s i = true then 1 else 0)
section
variable {s t : Nat → Bool}
theorem pc_le : ∀ n : Nat, pcN s n ≤ n
  | 0 => Nat.le_refl 0
  | n + 1 => by
    have h := pc_le n
    show pcN s n + (if s n = true then 1 else 0) ≤ n + 1
    split <;> omega
theorem pc_mono : ∀ n : Nat, (∀ j, j < n → s j = true → t j = true) → pcN s n ≤ pcN t n
  | 0, _ => Nat.le_refl 0
  | n + 1, h => by
    have h1 := pc_mono n (fun j hj => h j (by omega))
    show pcN s n + (if s n = true then 1 else 0) ≤ pcN t n + (if t n = true then 1 else 0)
    by_cases q : s n = true
    · rw [if_pos q, if_pos (h n (by omega) q)]; omega
    · rw [if_neg q]; omega
theorem pc_lt : ∀ n : Nat, (∀ j, j < n → s j = true → t j = true) → (∃ j, j < n ∧ t j = true ∧ ¬ s j = true) → pcN s n < pcN t n
  | 0, _, ⟨j, hj, _⟩ => absurd hj (Nat.not_lt_zero j)
  | n + 1, h, ⟨j, hj, h2, h3⟩ => by
    show pcN s n + (if s n = true then 1 else 0) < pcN t n + (if t n = true then 1 else 0)
    by_cases e : j = n
    · subst e
      have h1 := pc_mono (s := s) (t := t) j (fun j hj => h j (by omega))
      rw [if_neg h3, if_pos h2]; omega
    · have h1 := pc_lt n (fun j hj => h j (by omega)) ⟨j, by omega, h2, h3⟩
      by_cases q : s n = true
      · rw [if_pos q, if_pos (h n (by omega) q)]; omega
      · rw [if_neg q]; omega
theorem pc_all : ∀ n : Nat, n ≤ pcN s n → ∀ j, j < n → s j = true
  | 0, _, j, hj => absurd hj (Nat.not_lt_zero j)
  | n + 1, h, j, hj => by
    have h9 : n + 1 ≤ pcN s n + (if s n = true then 1 else 0) := h
    have hl := pc_le (s := s) n
    by_cases q : s n = true
    · rw [if_pos q] at h9
      by_cases e : j = n
      · rw [e]; exact q
      · exact pc_all n (by omega) j (by omega)
    · rw [if_neg q] at h9
      omega
theorem pc_pos : ∀ (n j : Nat), j < n → s j = true → 1 ≤ pcN s n
  | 0, j, hj, _ => absurd hj (Nat.not_lt_zero j)
  | n + 1, j, hj, h => by
    show 1 ≤ pcN s n + (if s n = true then 1 else 0)
    by_cases e : j = n
    · rw [← e, if_pos h]; omega
    · have := pc_pos n j (by omega) h
      omega
end
/-- S: what has been come to; A, N: the same by what is newest -/
noncomputable def WayH (S A N G : Nat → Nat → Bool) (Z : Nat → Bool) (n j1 : Nat) : Prop := (∀ j, j < n → (S 0 j = true ↔ j = j1)) ∧ (∀ j, j < n → (A 0 j = true ↔ j = j1)) ∧ (∀ j, j < n → (N 0 j = true ↔ j = j1)) ∧ (∀ k j, j < n → (S (k + 1) j = true ↔ (S k j = true ∨ ∃ i, i < n ∧ S k i = true ∧ G i j = true) ∧ Z j = false)) ∧ (∀ k j, j < n → (N (k + 1) j = true ↔ (∃ i, i < n ∧ N k i = true ∧ G i j = true) ∧ A k j = false ∧ Z j = false)) ∧ (∀ k j, j < n → (A (k + 1) j = true ↔ A k j = true ∨ N (k + 1) j = true)) ∧ Z j1 = false
section
variable {S A N G : Nat → Nat → Bool} {Z : Nat → Bool} {n j1 : Nat}
theorem way_inv (H : WayH S A N G Z n j1) : ∀ k : Nat, (∀ j, j < n → (A k j = true ↔ S k j = true)) ∧ (∀ j, j < n → S k j = true → Z j = false) ∧ (∀ i, i < n → ∀ j, j < n → S k i = true → ¬ N k i = true → G i j = true → Z j = false → S k j = true) ∧ (∀ j, j < n → N k j = true → S k j = true)
  | 0 => by
    obtain ⟨s0, a0, n0, sk, nk, ak, z1⟩ := H
    refine ⟨fun j hj => (a0 j hj).trans (s0 j hj).symm, fun j hj q => ?_, fun i hi j hj q q2 _ _ => ?_, fun j hj q => (s0 j hj).mpr ((n0 j hj).mp q)⟩
    · rw [(s0 j hj).mp q]; exact z1
    · exact absurd ((n0 i hi).mpr ((s0 i hi).mp q)) q2
  | k + 1 => by
    obtain ⟨a, b, c, d⟩ := way_inv H k
    obtain ⟨s0, a0, n0, sk, nk, ak, z1⟩ := H
    have hd : ∀ j, j < n → N (k + 1) j = true → S (k + 1) j = true := fun j hj q => by
      obtain ⟨⟨i, hi, q1, q2⟩, q3, q4⟩ := (nk k j hj).mp q
      exact (sk k j hj).mpr ⟨Or.inr ⟨i, hi, d i hi q1, q2⟩, q4⟩
    have hm : ∀ j, j < n → S k j = true → S (k + 1) j = true := fun j hj q => (sk k j hj).mpr ⟨Or.inl q, b j hj q⟩
    have ha : ∀ j, j < n → (A (k + 1) j = true ↔ S (k + 1) j = true) := fun j hj => by
      constructor
      · intro q
        rcases (ak k j hj).mp q with q | q
        · exact hm j hj ((a j hj).mp q)
        · exact hd j hj q
      · intro q
        apply (ak k j hj).mpr
        by_cases q1 : S k j = true
        · exact Or.inl ((a j hj).mpr q1)
        · obtain ⟨q2, q3⟩ := (sk k j hj).mp q
          rcases q2 with q2 | ⟨i, hi, q4, q5⟩
          · exact absurd q2 q1
          · by_cases q6 : N k i = true
            · refine Or.inr ((nk k j hj).mpr ⟨⟨i, hi, q6, q5⟩, ?_, q3⟩)
              cases hA : A k j with
              | false => rfl
              | true => exact absurd ((a j hj).mp hA) q1
            · exact absurd (c i hi j hj q4 q6 q5 q3) q1
    refine ⟨ha, fun j hj q => ((sk k j hj).mp q).2, fun i hi j hj q q2 q3 q4 => ?_, hd⟩
    rcases (ak k i hi).mp ((ha i hi).mpr q) with q5 | q5
    · exact (sk k j hj).mpr ⟨Or.inr ⟨i, hi, (a i hi).mp q5, q3⟩, q4⟩
    · exact absurd q5 q2
theorem way_mono (H : WayH S A N G Z n j1) (k : Nat) {j : Nat} (hj : j < n) (q : S k j = true) : S (k + 1) j = true := (H.2.2.2.1 k j hj).mpr ⟨Or.inl q, (way_inv H k).2.1 j hj q⟩
noncomputable def StB (S : Nat → Nat → Bool) (n k : Nat) : Prop := ∀ j, j < n → S (k + 1) j = true → S k j = true
theorem st_next (H : WayH S A N G Z n j1) {k : Nat} (h : StB S n k) : StB S n (k + 1) := fun j hj q => by
  obtain ⟨q1, q2⟩ := (H.2.2.2.1 (k + 1) j hj).mp q
  rcases q1 with q1 | ⟨i, hi, q3, q4⟩
  · exact q1
  · exact (H.2.2.2.1 k j hj).mpr ⟨Or.inr ⟨i, hi, h i hi q3, q4⟩, q2⟩
theorem st_more (H : WayH S A N G Z n j1) {k : Nat} (h : StB S n k) : ∀ m : Nat, StB S n (k + m)
  | 0 => h
  | m + 1 => st_next H (st_more H h m)
theorem st_all (H : WayH S A N G Z n j1) {k : Nat} (h : StB S n k) {j : Nat} (hj : j < n) : ∀ m : Nat, S (k + m) j = true → S k j = true
  | 0, q => q
  | m + 1, q => st_all H h hj m (st_more H h m j hj q)
theorem way_cnt (H : WayH S A N G Z n j1) (h1 : j1 < n) : ∀ k : Nat, (∃ k', k' < k ∧ StB S n k') ∨ k + 1 ≤ pcN (S k) n
  | 0 => Or.inr (pc_pos n j1 h1 ((H.1 j1 h1).mpr rfl))
  | k + 1 => by
    rcases way_cnt H h1 k with ⟨k', hk, h⟩ | h
    · exact Or.inl ⟨k', by omega, h⟩
    · by_cases q : StB S n k
      · exact Or.inl ⟨k, by omega, q⟩
      · have q2 : ∃ j, j < n ∧ S (k + 1) j = true ∧ ¬ S k j = true := Classical.byContradiction fun z => q (fun j hj a => Classical.byContradiction fun b => z ⟨j, hj, a, b⟩)
        have h3 := pc_lt (s := S k) (t := S (k + 1)) n (fun j hj a => way_mono H k hj a) q2
        exact Or.inr (by omega)
theorem way_7 (H : WayH S A N G Z n j1) (hn : n ≤ 8) (h1 : j1 < n) {j : Nat} (hj : j < n) (h : ¬ S 7 j = true) (m : Nat) : ¬ S (7 + m) j = true := fun q => by
  rcases way_cnt H h1 7 with ⟨k', hk, h2⟩ | h2
  · have e : 7 + m = k' + (7 - k' + m) := by omega
    rw [e] at q
    have q2 := st_all H h2 hj _ q
    have q3 : ∀ m, S (k' + m) j = true := fun m => by
      induction m with
      | zero => exact q2
      | succ m ih => exact way_mono H (k' + m) hj ih
    have q4 := q3 (7 - k')
    rw [show k' + (7 - k') = 7 by omega] at q4
    exact h q4
  · exact h (pc_all n (by omega) j hj)
end
section
variable {g h : Nat → Int32} {n j1 j2 : Nat} {z x : Int32}
theorem b_nz (z : Int32) {j : Nat} (hj : j < 32) : bt (z ^^^ (-1)) j = true ↔ bt z j = false := by
  rw [b_xor, bm_1 j hj]
  cases bt z j <;> decide
theorem S0_bt (hj1 : j1 < 32) {j : Nat} (hj : j < 32) : bt (1 <<< (nI j1 &&& 31)) j = true ↔ j = j1 := by
  rw [b_shl j1 hj1 1 hj, Bool.and_eq_true, decide_eq_true_iff]
  constructor
  · rintro ⟨a, b⟩
    by_cases q : j - j1 = 0
    · omega
    · rw [b1_z (j - j1) (by omega) q] at b
      exact absurd b (by decide)
  · rintro rfl
    exact ⟨Nat.le_refl _, by rw [Nat.sub_self]; decide⟩
theorem S1_bt (hn : n ≤ 32) {k j : Nat} (hj : j < 32) : bt (SI g n x z (k + 1)) j = true ↔ (bt (SI g n x z k) j = true ∨ ∃ i, i < n ∧ bt (SI g n x z k) i = true ∧ bt (g i) j = true) ∧ bt z j = false := by
  rw [show SI g n x z (k + 1) = spI g (SI g n x z k) n &&& (z ^^^ (-1)) from rfl, b_and, Bool.and_eq_true, sp_bt n hn j, b_nz z hj]
theorem P2_bt (hn : n ≤ 32) {k j : Nat} (hj : j < 32) : bt (cwJ h n x z (k + 1)).2 j = true ↔ (∃ i, i < n ∧ bt (cwJ h n x z k).2 i = true ∧ bt (h i) j = true) ∧ bt (cwJ h n x z k).1 j = false ∧ bt z j = false := by
  rw [show (cwJ h n x z (k + 1)).2 = owI h (cwJ h n x z k).2 n &&& (((cwJ h n x z k).1 ||| z) ^^^ (-1)) from rfl, b_and, Bool.and_eq_true, ow_bt n hn j, b_nz _ hj, b_or, Bool.or_eq_false_iff]
theorem P1_bt {k j : Nat} : bt (cwJ h n x z (k + 1)).1 j = true ↔ bt (cwJ h n x z k).1 j = true ∨ bt (cwJ h n x z (k + 1)).2 j = true := by
  rw [show (cwJ h n x z (k + 1)).1 = (cwJ h n x z k).1 ||| (cwJ h n x z (k + 1)).2 from rfl, b_or, Bool.or_eq_true]
theorem P21_bt : ∀ {k j : Nat}, bt (cwJ h n x z k).2 j = true → bt (cwJ h n x z k).1 j = true
  | 0, _, q => q
  | _ + 1, _, q => P1_bt.mpr (Or.inr q)
theorem way_of (hn : n ≤ 8) (h1 : j1 < n) (hz : bt z j1 = false) (hg : ∀ i, i < n → ∀ j, j < n → ¬ i = j → bt (h i) j = bt (g i) j) : WayH (fun k j => bt (SI g n (nI j1) z k) j) (fun k j => bt (cwJ h n (nI j1) z k).1 j) (fun k j => bt (cwJ h n (nI j1) z k).2 j) (fun i j => bt (g i) j) (fun j => bt z j) n j1 := by
  have h0 : ∀ j, j < n → (bt (1 <<< (nI j1 &&& 31)) j = true ↔ j = j1) := fun j hj => S0_bt (by omega) (by omega)
  have e1 : SI g n (nI j1) z 0 = 1 <<< (nI j1 &&& 31) := rfl
  have e2 : (cwJ h n (nI j1) z 0).1 = 1 <<< (nI j1 &&& 31) := rfl
  have e3 : (cwJ h n (nI j1) z 0).2 = 1 <<< (nI j1 &&& 31) := rfl
  refine ⟨fun j hj => ?_, fun j hj => ?_, fun j hj => ?_, fun k j hj => ?_, fun k j hj => ?_, fun k j hj => ?_, hz⟩
  · show bt (SI g n (nI j1) z 0) j = true ↔ j = j1
    rw [e1]; exact h0 j hj
  · show bt (cwJ h n (nI j1) z 0).1 j = true ↔ j = j1
    rw [e2]; exact h0 j hj
  · show bt (cwJ h n (nI j1) z 0).2 j = true ↔ j = j1
    rw [e3]; exact h0 j hj
  · exact S1_bt (g := g) (n := n) (x := nI j1) (z := z) (k := k) (j := j) (by omega) (by omega)
  · show bt (cwJ h n (nI j1) z (k + 1)).2 j = true ↔ (∃ i, i < n ∧ bt (cwJ h n (nI j1) z k).2 i = true ∧ bt (g i) j = true) ∧ bt (cwJ h n (nI j1) z k).1 j = false ∧ bt z j = false
    rw [P2_bt (by omega) (by omega)]
    have hne : ∀ i, bt (cwJ h n (nI j1) z k).2 i = true → bt (cwJ h n (nI j1) z k).1 j = false → ¬ i = j := fun i q1 q2 e => by
      subst e
      rw [P21_bt q1] at q2
      exact absurd q2 (by decide)
    constructor
    · rintro ⟨⟨i, hi, a, b⟩, c, d⟩
      exact ⟨⟨i, hi, a, by rw [← hg i hi j hj (hne i a c)]; exact b⟩, c, d⟩
    · rintro ⟨⟨i, hi, a, b⟩, c, d⟩
      exact ⟨⟨i, hi, a, by rw [hg i hi j hj (hne i a c)]; exact b⟩, c, d⟩
  · exact P1_bt (h := h) (n := n) (x := nI j1) (z := z) (k := k) (j := j)
theorem fw_go (hn : n ≤ 8) (h1 : j1 < n) (h2 : j2 < n) (hz : bt z j1 = false) (hg : ∀ i, i < n → ∀ j, j < n → ¬ i = j → bt (h i) j = bt (g i) j) : ∀ m k : Nat, m + k = 7 → ¬ bt (SI g n (nI j1) z k) j2 = true → fwF (cwJ h n (nI j1) z) (nI j2) m k = fsF (SI g n (nI j1) z) (nI j2) (m + 2) (k + 1)
  | 0, k, hk, hs => by
    have H := way_of hn h1 hz hg
    obtain rfl : k = 7 := by omega
    have h7 := way_7 H hn h1 h2 hs
    refine (fs_nev 2 8 (fun l hl t => ?_)).symm
    have q := h7 (l - 7)
    rw [show 7 + (l - 7) = l by omega] at q
    exact q ((tb_iff (by omega)).mp t)
  | m + 1, k, hk, hs => by
    have H := way_of hn h1 hz hg
    by_cases z0 : (cwJ h n (nI j1) z k).2 = 0
    · have hst : StB (fun k j => bt (SI g n (nI j1) z k) j) n k := fun j hj q => by
        have q1 := ((way_inv H (k + 1)).1 j hj).mpr q
        rcases (H.2.2.2.2.2.1 k j hj).mp q1 with q2 | q2
        · exact ((way_inv H k).1 j hj).mp q2
        · obtain ⟨⟨i, hi, q3, -⟩, -⟩ := (H.2.2.2.2.1 k j hj).mp q2
          have q4 : bt (cwJ h n (nI j1) z k).2 i = true := q3
          rw [z0, b_0] at q4
          exact absurd q4 (by decide)
      rw [show fwF (cwJ h n (nI j1) z) (nI j2) (m + 1) k = -5 from if_pos z0]
      refine (fs_nev (m + 1 + 2) (k + 1) (fun l hl t => ?_)).symm
      have q := st_all H hst h2 (l - k)
      rw [show k + (l - k) = l by omega] at q
      exact hs (q ((tb_iff (by omega)).mp t))
    · have hk2 : bt (cwJ h n (nI j1) z (k + 1)).2 j2 = true ↔ bt (SI g n (nI j1) z (k + 1)) j2 = true := by
        constructor
        · exact fun q => (way_inv H (k + 1)).2.2.2 j2 h2 q
        · intro q
          rcases (H.2.2.2.2.2.1 k j2 h2).mp (((way_inv H (k + 1)).1 j2 h2).mpr q) with q2 | q2
          · exact absurd (((way_inv H k).1 j2 h2).mp q2) hs
          · exact q2
      rw [show fwF (cwJ h n (nI j1) z) (nI j2) (m + 1) k = if tB (cwJ h n (nI j1) z (k + 1)).2 (nI j2) then nI (k + 1) else fwF (cwJ h n (nI j1) z) (nI j2) m (k + 1) from if_neg z0, show fsF (SI g n (nI j1) z) (nI j2) (m + 1 + 2) (k + 1) = if tB (SI g n (nI j1) z (k + 1)) (nI j2) then nI (k + 1) else fsF (SI g n (nI j1) z) (nI j2) (m + 2) (k + 1 + 1) from rfl]
      by_cases t : bt (SI g n (nI j1) z (k + 1)) j2 = true
      · rw [if_pos ((tb_iff (by omega)).mpr (hk2.mpr t)), if_pos ((tb_iff (by omega)).mpr t)]
      · rw [if_neg (fun q => t (hk2.mp ((tb_iff (by omega)).mp q))), if_neg (fun q => t ((tb_iff (by omega)).mp q))]
        exact fw_go hn h1 h2 hz hg m (k + 1) (by omega) t
/-- both find the same -/
theorem fw_fs (hn : n ≤ 8) (h1 : j1 < n) (h2 : j2 < n) (hz : bt z j1 = false) (hg : ∀ i, i < n → ∀ j, j < n → ¬ i = j → bt (h i) j = bt (g i) j) : fwR h n (nI j1) (nI j2) z = fsR g n (nI j1) (nI j2) z := by
  by_cases e : j1 = j2
  · subst e
    rw [fwR, if_pos rfl, fsR]
    exact (if_pos ((tb_iff (by omega)).mpr ((S0_bt (by omega) (by omega)).mpr rfl))).symm
  · have hs : ¬ bt (SI g n (nI j1) z 0) j2 = true := fun q => e ((S0_bt (by omega) (by omega)).mp q).symm
    rw [fwR, if_neg (fun q => e ((nI_eq (by omega) (by omega)).mp q)), fw_go hn h1 h2 hz hg 7 0 (by omega) hs, fsR]
    exact (if_neg (fun t => hs ((tb_iff (by omega)).mp t))).symm
end
/-! which heap one goes to from which -/
noncomputable def rwR (x : Int32) : Int32 := if x = 7 then -1 else if 2 ≤ x then (if x ≤ 2 then 0 else if 6 ≤ x then 0 else 1) else -1
noncomputable def clR (x : Int32) : Int32 := if x < 1 ∨ 3 < x then (if x ≤ 4 then 0 else -1) else 1
noncomputable def sdR (x y z : Int32) : Prop := x = 0 ∨ (x < 0 ∧ z < y) ∨ (0 < x ∧ y < z)
section
variable {x y z : Int32}
theorem rw_a (h : x = 7) : -1 = rwR x := by rw [rwR, if_pos h]
theorem rw_b (h : ¬ x = 7) (h2 : ¬ 2 ≤ x) : -1 = rwR x := by rw [rwR, if_neg h, if_neg h2]
theorem rw_c (h : ¬ x = 7) (h2 : 2 ≤ x) (h3 : x ≤ 2) : 0 = rwR x := by rw [rwR, if_neg h, if_pos h2, if_pos h3]
theorem rw_d (h : ¬ x = 7) (h2 : 2 ≤ x) (h3 : ¬ x ≤ 2) (h4 : 6 ≤ x) : 0 = rwR x := by rw [rwR, if_neg h, if_pos h2, if_neg h3, if_pos h4]
theorem rw_e (h : ¬ x = 7) (h2 : 2 ≤ x) (h3 : ¬ x ≤ 2) (h4 : ¬ 6 ≤ x) : 1 = rwR x := by rw [rwR, if_neg h, if_pos h2, if_neg h3, if_neg h4]
theorem cl_a (h : ¬ x < 1) (h2 : ¬ 3 < x) : 1 = clR x := by rw [clR, if_neg (show ¬ (x < 1 ∨ 3 < x) from fun q => q.elim h h2)]
theorem cl_b (h : x < 1 ∨ 3 < x) (h2 : x ≤ 4) : 0 = clR x := by rw [clR, if_pos h, if_pos h2]
theorem cl_c (h : x < 1 ∨ 3 < x) (h2 : ¬ x ≤ 4) : -1 = clR x := by rw [clR, if_pos h, if_neg h2]
theorem sd_a (h : x = 0) : sdR x y z := Or.inl h
theorem sd_b (h : ¬ 0 ≤ x) (h2 : z < y) : sdR x y z := Or.inr (Or.inl ⟨Int32.not_le.mp h, h2⟩)
theorem sd_c (h : ¬ x ≤ 0) (h2 : ¬ z ≤ y) : sdR x y z := Or.inr (Or.inr ⟨Int32.not_le.mp h, Int32.not_le.mp h2⟩)
theorem sd_f (h : ¬ x = 0) (h1 : 0 ≤ x ∨ ¬ z < y) (h2 : x ≤ 0 ∨ z ≤ y) : ¬ sdR x y z := by
  rintro (q | ⟨q1, q2⟩ | ⟨q1, q2⟩)
  · exact h q
  · exact h1.elim (fun a => absurd q1 (Int32.not_lt.mpr a)) (fun a => a q2)
  · exact h2.elim (fun a => absurd q1 (Int32.not_lt.mpr a)) (fun a => absurd q2 (Int32.not_lt.mpr a))
end
/-- a heap of kind 4 looks that way -/
noncomputable def ldP (v c x : Int32) : Prop := sdR (rwR (v - v / 8 * 8)) (c / 6) (x / 6) ∧ sdR (clR (v - v / 8 * 8)) (c - c / 6 * 6) (x - x / 6 * 6)
/-- from one of kind k, number v, cell c to one on cell cb that is seen so far as r -/
noncomputable def goV (k v c cb r : Int32) : Prop := ¬ k = 3 ∧ ¬ k = 6 ∧ ¬ r < apR c cb ∧ (k = 4 → ldP v c cb)
noncomputable def goP (C : List pCla) (mi sn : Int32) (yk yv yc : Nat → Int32) (a b : Nat) : Prop := ¬ a = b ∧ goV (yk a) (yv a) (yc a) (yc b) (RV C mi sn b (yk b) (yv b) (yc b))
theorem goP_cg {C : List pCla} {mi sn : Int32} {yk yv yc zk zv zc : Nat → Int32} {a b : Nat} (ka : yk a = zk a) (va : yv a = zv a) (ca : yc a = zc a) (kb : yk b = zk b) (vb : yv b = zv b) (cb : yc b = zc b) : goP C mi sn yk yv yc a b ↔ goP C mi sn zk zv zc a b := by
  unfold goP
  rw [ka, va, ca, kb, vb, cb]
/-- the reference's -/
noncomputable def goF (f : Nat → Int32) (C : List pCla) (a b : Nat) : Prop := goP C (f 6) (f 7) (fun k => f (10 + k)) (fun k => f (19 + k)) (fun k => f (28 + k)) a b
section
variable {f : Nat → Int32} {C : List pCla} {a b : Nat}
theorem go_eq (h : a = b) : ¬ goF f C a b := fun q => q.1 h
theorem go_3 (h : f (10 + a) = 3) : ¬ goF f C a b := fun q => q.2.1 h
theorem go_6 (h : f (10 + a) = 6) : ¬ goF f C a b := fun q => q.2.2.1 h
theorem go_un (h : RR f C b < apR (f (28 + a)) (f (28 + b))) : ¬ goF f C a b := fun q => q.2.2.2.1 h
theorem go_yes (h1 : ¬ a = b) (h2 : ¬ f (10 + a) = 3) (h3 : ¬ f (10 + a) = 6) (h4 : ¬ RR f C b < apR (f (28 + a)) (f (28 + b))) (h5 : ¬ f (10 + a) = 4) : goF f C a b := ⟨h1, h2, h3, h4, fun q => absurd q h5⟩
theorem go_yes4 (h1 : ¬ a = b) (h2 : ¬ f (10 + a) = 3) (h3 : ¬ f (10 + a) = 6) (h4 : ¬ RR f C b < apR (f (28 + a)) (f (28 + b))) (h6 : sdR (rwR (f (19 + a) - f (19 + a) / 8 * 8)) (f (28 + a) / 6) (f (28 + b) / 6)) (h7 : sdR (clR (f (19 + a) - f (19 + a) / 8 * 8)) (f (28 + a) - f (28 + a) / 6 * 6) (f (28 + b) - f (28 + b) / 6 * 6)) : goF f C a b := ⟨h1, h2, h3, h4, fun _ => ⟨h6, h7⟩⟩
theorem go_r (h5 : f (10 + a) = 4) (h6 : ¬ sdR (rwR (f (19 + a) - f (19 + a) / 8 * 8)) (f (28 + a) / 6) (f (28 + b) / 6)) : ¬ goF f C a b := fun q => h6 (q.2.2.2.2 h5).1
theorem go_c (h5 : f (10 + a) = 4) (h6 : ¬ sdR (clR (f (19 + a) - f (19 + a) / 8 * 8)) (f (28 + a) - f (28 + a) / 6 * 6) (f (28 + b) - f (28 + b) / 6 * 6)) : ¬ goF f C a b := fun q => h6 (q.2.2.2.2 h5).2
end
noncomputable def gbI (P : Nat → Prop) : Nat → Int32
  | 0 => 0
  | b + 1 => @ite Int32 (P b) (Classical.propDecidable _) (gbI P b ||| (1 <<< (nI b &&& 31))) (gbI P b)
section
variable {P Q : Nat → Prop} {q : Int32} {i n : Nat}
theorem gb_t (h : q = gbI P i) (h2 : P i) : q ||| (1 <<< (nI i &&& 31)) = gbI P (i + 1) := by
  rw [h]
  exact (@if_pos _ (Classical.propDecidable _) h2 _ _ _).symm
theorem gb_f (h : q = gbI P i) (h2 : ¬ P i) : q ||| 0 = gbI P (i + 1) := by
  rw [h, Int32.or_zero]
  exact (@if_neg _ (Classical.propDecidable _) h2 _ _ _).symm
theorem gb_cg : ∀ n : Nat, (∀ i, i < n → (P i ↔ Q i)) → gbI P n = gbI Q n
  | 0, _ => rfl
  | n + 1, h => by
    have e := gb_cg n (fun i hi => h i (by omega))
    by_cases q : Q n
    · rw [← gb_t rfl q, ← gb_t rfl ((h n (by omega)).mpr q), e]
    · rw [← gb_f rfl q, ← gb_f rfl (fun z => q ((h n (by omega)).mp z)), e]
theorem gb_bt : ∀ n : Nat, n ≤ 32 → ∀ j, j < 32 → (bt (gbI P n) j = true ↔ j < n ∧ P j)
  | 0, _, j, _ => ⟨fun h => by rw [show gbI P 0 = 0 from rfl, b_0] at h; exact absurd h (by decide), fun h => absurd h.1 (Nat.not_lt_zero j)⟩
  | n + 1, hn, j, hj => by
    by_cases q : P n
    · rw [← gb_t rfl q, b_or, Bool.or_eq_true, gb_bt n (by omega) j hj, S0_bt (by omega) hj]
      constructor
      · rintro (⟨a, b⟩ | a)
        · exact ⟨by omega, b⟩
        · subst a; exact ⟨by omega, q⟩
      · rintro ⟨a, b⟩
        by_cases e : j = n
        · exact Or.inr e
        · exact Or.inl ⟨by omega, b⟩
    · rw [← gb_f rfl q, Int32.or_zero, gb_bt n (by omega) j hj]
      constructor
      · rintro ⟨a, b⟩
        exact ⟨by omega, b⟩
      · rintro ⟨a, b⟩
        by_cases e : j = n
        · subst e; exact absurd b q
        · exact ⟨by omega, b⟩
end
/-- all rows -/
noncomputable def gRow (n : Nat) (yk yv yc : Nat → Int32) (C : List pCla) (mi sn : Int32) (a : Nat) : Int32 := gbI (goP C mi sn yk yv yc a) n
section
variable {g h : Nat → Int32} {n : Nat} {s x y z : Int32}
theorem spI_cg : ∀ m : Nat, (∀ i, i < m → g i = h i) → spI g s m = spI h s m
  | 0, _ => rfl
  | m + 1, e => by
    show (if tB s (nI m) then spI g s m ||| g m else spI g s m) = (if tB s (nI m) then spI h s m ||| h m else spI h s m)
    rw [spI_cg m (fun i hi => e i (by omega)), e m (by omega)]
theorem SI_cg (e : ∀ i, i < n → g i = h i) : ∀ k : Nat, SI g n x z k = SI h n x z k
  | 0 => rfl
  | k + 1 => by
    show spI g (SI g n x z k) n &&& (z ^^^ (-1)) = spI h (SI h n x z k) n &&& (z ^^^ (-1))
    rw [SI_cg e k, spI_cg n e]
theorem fsR_cg (e : ∀ i, i < n → g i = h i) : fsR g n x y z = fsR h n x y z := by
  rw [fsR, fsR, show SI g n x z = SI h n x z from funext (SI_cg e)]
end
theorem go_up {g F : Nat → Int32} {i : Nat} (h : ∀ k, k < i → g k = F k) (h2 : g i = F i) : ∀ k, k < i + 1 → g k = F k := fun k hk => by
  by_cases e : k = i
  · subst e; exact h2
  · exact h k (by omega)
theorem gb_e {P : Nat → Prop} {q : Int32} {i n : Nat} (h : q = gbI P i) (e : i = n) : q = gbI P n := e ▸ h
/-- of two heaps -/
noncomputable def twR (n : Nat) (x y A : Int32) : Int32 := @ite Int32 (hh n x ∧ hh n y) (Classical.propDecidable _) A (-1)
noncomputable def stR_ (n : Nat) (yk yv yc : Nat → Int32) (C : List pCla) (mi sn x y : Int32) : Int32 := twR n x y (fsR (gRow n yk yv yc C mi sn) n (nI x.toNatClampNeg) (nI y.toNatClampNeg) 0)
section
variable {n i : Nat} {f yk yv yc g h : Nat → Int32} {C : List pCla} {mi sn x y q A B : Int32}
theorem two_no1 (h : ∀ j : Nat, j < n → x ≠ nI j) : -1 = twR n x y A := (@if_neg _ (Classical.propDecidable _) (fun q => hh_no h q.1) _ _ _).symm
theorem two_no2 (h : ∀ j : Nat, j < n → y ≠ nI j) : -1 = twR n x y A := (@if_neg _ (Classical.propDecidable _) (fun q => hh_no h q.2) _ _ _).symm
theorem two_yes {j1 j2 : Nat} (h1 : j1 < n) (h2 : j2 < n) : twR n (nI j1) (nI j2) A = A := @if_pos _ (Classical.propDecidable _) ⟨hh_yes h1, hh_yes h2⟩ _ _ _
theorem row_m (hg : ∀ k, k < n → g k = gbI (goF f C k) n) (zk : ∀ k, k < n → f (10 + k) = yk k) (zv : ∀ k, k < n → f (19 + k) = yv k) (zc : ∀ k, k < n → f (28 + k) = yc k) (zm : f 6 = mi) (zs : f 7 = sn) : ∀ k, k < n → g k = gRow n yk yv yc C mi sn k := fun k hk => by
  rw [hg k hk, gRow]
  refine gb_cg n (fun b hb => ?_)
  rw [goF, zm, zs]
  exact goP_cg (zk k hk) (zv k hk) (zc k hk) (zk b hb) (zv b hb) (zc b hb)
end
/-- the first of which P holds -/
noncomputable def fiF (P : Nat → Prop) : Nat → Nat → Int32
  | 0, _ => -5
  | m + 1, i => @ite Int32 (P i) (Classical.propDecidable _) (nI i) (fiF P m (i + 1))
section
variable {P Q : Nat → Prop} {A : Int32} {n i : Nat}
theorem fi_next (h : A = fiF P (n - i) i) (hi : ¬ n ≤ i) (hp : ¬ P i) : A = fiF P (n - (i + 1)) (i + 1) := by
  rw [h, show n - i = (n - (i + 1)) + 1 by omega]
  exact @if_neg _ (Classical.propDecidable _) hp _ _ _
theorem fi_hit (h : A = fiF P (n - i) i) (hi : ¬ n ≤ i) (hp : P i) : A = nI i := by
  rw [h, show n - i = (n - (i + 1)) + 1 by omega]
  exact @if_pos _ (Classical.propDecidable _) hp _ _ _
theorem fi_end (h : A = fiF P (n - i) i) (hi : n ≤ i) : A = -5 := by
  rw [h, show n - i = 0 by omega]
  rfl
theorem fi_cg : ∀ m i : Nat, (∀ k, i ≤ k → k < i + m → (P k ↔ Q k)) → fiF P m i = fiF Q m i
  | 0, _, _ => rfl
  | m + 1, i, h => by
    have e := fi_cg m (i + 1) (fun k h1 h2 => h k (by omega) (by omega))
    by_cases q : Q i
    · rw [show fiF P (m + 1) i = nI i from @if_pos _ (Classical.propDecidable _) ((h i (by omega) (by omega)).mpr q) _ _ _, show fiF Q (m + 1) i = nI i from @if_pos _ (Classical.propDecidable _) q _ _ _]
    · rw [show fiF P (m + 1) i = fiF P m (i + 1) from @if_neg _ (Classical.propDecidable _) (fun z => q ((h i (by omega) (by omega)).mp z)) _ _ _, show fiF Q (m + 1) i = fiF Q m (i + 1) from @if_neg _ (Classical.propDecidable _) q _ _ _, e]
end
noncomputable def viP (g : Nat → Int32) (n j : Nat) (y : Int32) (i : Nat) : Prop := tB (g j) (nI i) ∧ fsR g n (nI i) y 0 = fsR g n (nI j) y 0 - 1
noncomputable def viR (g : Nat → Int32) (n j : Nat) (y : Int32) : Int32 := if fsR g n (nI j) y 0 ≤ 0 then -5 else fiF (viP g n j y) n 0
noncomputable def viR_ (n : Nat) (yk yv yc : Nat → Int32) (C : List pCla) (mi sn x y : Int32) : Int32 := twR n x y (viR (gRow n yk yv yc C mi sn) n x.toNatClampNeg (nI y.toNatClampNeg))
section
variable {g h : Nat → Int32} {n j i : Nat} {y q A : Int32} {V : Nat → Prop}
theorem vi_0 (h : fsR g n (nI j) y 0 ≤ 0) : -5 = viR g n j y := (if_pos h).symm
theorem vi_5 (hV : V = viP g n j y) (hA : A = fiF V n 0) (h : A = -5) : -5 = viR g n j y := by
  rw [viR, ← hV, ← hA, h]
  split
  · rfl
  · rfl
theorem vi_h (hV : V = viP g n j y) (hA : A = fiF V n 0) (h0 : ¬ fsR g n (nI j) y 0 ≤ 0) (h : A = q) : q = viR g n j y := by
  rw [viR, ← hV, ← hA, h, if_neg h0]
theorem viR_cg (hj : j < n) (e : ∀ k, k < n → g k = h k) : viR g n j y = viR h n j y := by
  rw [viR, viR, fsR_cg e]
  by_cases q : fsR h n (nI j) y 0 ≤ 0
  · rw [if_pos q, if_pos q]
  · rw [if_neg q, if_neg q]
    exact fi_cg n 0 (fun k _ hk => by rw [viP, viP, fsR_cg e, fsR_cg e, e j hj])
end
noncomputable def cuP (g : Nat → Int32) (n j1 j2 i : Nat) : Prop := ¬ i = j1 ∧ ¬ i = j2 ∧ fsR g n (nI j1) (nI j2) (1 <<< (nI i &&& 31)) = -5
noncomputable def cuR (g : Nat → Int32) (n j1 j2 : Nat) : Int32 := if fsR g n (nI j1) (nI j2) 0 = -5 then 0 else gbI (cuP g n j1 j2) n
noncomputable def cuR_ (n : Nat) (yk yv yc : Nat → Int32) (C : List pCla) (mi sn x y : Int32) : Int32 := twR n x y (cuR (gRow n yk yv yc C mi sn) n x.toNatClampNeg y.toNatClampNeg)
section
variable {g h : Nat → Int32} {n j1 j2 i : Nat} {q : Int32} {P : Nat → Prop} {B : Nat → Int32}
theorem cu_t (hB : B = gbI P) (h : q = B i) (h2 : P i) : q ||| (1 <<< (nI i &&& 31)) = B (i + 1) := by
  rw [hB] at h ⊢
  exact gb_t h h2
theorem cu_f (hB : B = gbI P) (h : q = B i) (h2 : ¬ P i) : q ||| 0 = B (i + 1) := by
  rw [hB] at h ⊢
  exact gb_f h h2
theorem cu_s (hB : B = gbI P) (h : q = B i) (h2 : ¬ P i) : q = B (i + 1) := (Int32.or_zero (a := q)).symm.trans (cu_f hB h h2)
theorem cu_0 (h : fsR g n (nI j1) (nI j2) 0 = -5) : 0 = cuR g n j1 j2 := (if_pos h).symm
theorem cu_n (h : ¬ fsR g n (nI j1) (nI j2) 0 = -5) (hB : B = gbI (cuP g n j1 j2)) (hq : q = B i) (e : i = n) : q = cuR g n j1 j2 := by
  rw [cuR, if_neg h, hq, hB, e]
theorem cuR_cg (e : ∀ k, k < n → g k = h k) : cuR g n j1 j2 = cuR h n j1 j2 := by
  rw [cuR, cuR, fsR_cg e]
  by_cases q : fsR h n (nI j1) (nI j2) 0 = -5
  · rw [if_pos q, if_pos q]
  · rw [if_neg q, if_neg q]
    exact gb_cg n (fun k hk => by rw [cuP, cuP, fsR_cg e])
end
/-- the last of which P holds -/
noncomputable def beF (P : Nat → Prop) : Nat → Int32
  | 0 => -5
  | i + 1 => @ite Int32 (P i) (Classical.propDecidable _) (nI i) (beF P i)
section
variable {P : Nat → Prop} {B : Nat → Int32} {i m : Nat} {q A : Int32}
theorem be_y (hB : B = beF P) (h : q = B i) (h2 : P i) : nI i = B (i + 1) := by
  rw [hB]
  exact (@if_pos _ (Classical.propDecidable _) h2 _ _ _).symm
theorem be_n (hB : B = beF P) (h : q = B i) (h2 : ¬ P i) : q = B (i + 1) := by
  rw [h, hB]
  exact (@if_neg _ (Classical.propDecidable _) h2 _ _ _).symm
theorem be_e (hB : B = beF P) (h : q = B i) (e : i = m) : q = beF P m := by rw [h, hB, e]
/-- from the top down -/
theorem be_dn (h : A = beF P (i + 1)) (h2 : ¬ P i) : A = beF P i := h.trans (@if_neg _ (Classical.propDecidable _) h2 _ _ _)
theorem be_up (h : A = beF P (i + 1)) (h2 : P i) : nI i = A := (h.trans (@if_pos _ (Classical.propDecidable _) h2 _ _ _)).symm
theorem be_z (h : A = beF P 0) : -5 = A := h.symm
end
noncomputable def beR_ (n : Nat) (yk yv yc : Nat → Int32) (C : List pCla) (mi x y : Int32) : Int32 := twR n x y (beF (fun k => ¬ fsR (gRow n yk yv yc C mi (nI k)) n (nI x.toNatClampNeg) (nI y.toNatClampNeg) 0 = -5) 10)
section
variable {n j1 j2 : Nat} {yk yv yc g : Nat → Int32} {C : List pCla} {mi sn q : Int32}
theorem st_m (hn : n ≤ 8) (h1 : j1 < n) (h2 : j2 < n) (e : ∀ k, k < n → g k = gRow n yk yv yc C mi sn k) : fsR g n (nI j1) (nI j2) 0 = stR_ n yk yv yc C mi sn (nI j1) (nI j2) := by
  rw [stR_, two_yes h1 h2, nI_clamp (by omega), nI_clamp (by omega)]
  exact fsR_cg e
theorem vi_m (hn : n ≤ 8) (h1 : j1 < n) (h2 : j2 < n) (e : ∀ k, k < n → g k = gRow n yk yv yc C mi sn k) (hq : q = viR g n j1 (nI j2)) : q = viR_ n yk yv yc C mi sn (nI j1) (nI j2) := by
  rw [viR_, two_yes h1 h2, nI_clamp (by omega), nI_clamp (by omega), hq]
  exact viR_cg h1 e
theorem cu_m (hn : n ≤ 8) (h1 : j1 < n) (h2 : j2 < n) (e : ∀ k, k < n → g k = gRow n yk yv yc C mi sn k) (hq : q = cuR g n j1 j2) : q = cuR_ n yk yv yc C mi sn (nI j1) (nI j2) := by
  rw [cuR_, two_yes h1 h2, nI_clamp (by omega), nI_clamp (by omega), hq]
  exact cuR_cg e
theorem be_m (hn : n ≤ 8) (h1 : j1 < n) (h2 : j2 < n) (hq : q = beF (fun k => ¬ fsR (gRow n yk yv yc C mi (nI k)) n (nI j1) (nI j2) 0 = -5) 10) : q = beR_ n yk yv yc C mi (nI j1) (nI j2) := by
  rw [beR_, two_yes h1 h2, nI_clamp (by omega), nI_clamp (by omega)]
  exact hq
end
/-! the class's rows -/
theorem ld_v : ∀ v : Nat, v < 10 → rwR (nI v - nI v / 8 * 8) = fDown (v % 8) ∧ clR (nI v - nI v / 8 * 8) = fRight (v % 8) := by decide +kernel
theorem ld_6 : ∀ k : Nat, k < 36 → nI k / 6 = nI (k / 6) ∧ nI k - nI k / 6 * 6 = nI (k % 6) := by decide +kernel
theorem ld_s1 : ∀ a : Nat, a < 6 → ∀ b : Nat, b < 6 → (0 < (1 : Int32) * (nI b - nI a) ↔ nI a < nI b) := by decide +kernel
theorem ld_sm : ∀ a : Nat, a < 6 → ∀ b : Nat, b < 6 → (0 < (-1 : Int32) * (nI b - nI a) ↔ nI b < nI a) := by decide +kernel
theorem ld_w : ∀ w : Nat, w < 8 → (fDown w = 0 ∨ fDown w = 1 ∨ fDown w = -1) ∧ (fRight w = 0 ∨ fRight w = 1 ∨ fRight w = -1) := by decide +kernel
theorem ld_g {s : Int32} {a b : Nat} (hs : s = 0 ∨ s = 1 ∨ s = -1) (ha : a < 6) (hb : b < 6) : (s = 0 ∨ 0 < s * (nI b - nI a)) ↔ sdR s (nI a) (nI b) := by
  rcases hs with rfl | rfl | rfl
  · exact ⟨fun _ => Or.inl rfl, fun _ => Or.inl rfl⟩
  · rw [ld_s1 a ha b hb]
    exact ⟨fun z => z.elim (fun e => absurd e (by decide)) (fun q => Or.inr (Or.inr ⟨by decide, q⟩)), fun z => z.elim (fun e => absurd e (by decide)) (fun z => z.elim (fun q => absurd q.1 (by decide)) (fun q => Or.inr q.2))⟩
  · rw [ld_sm a ha b hb]
    exact ⟨fun z => z.elim (fun e => absurd e (by decide)) (fun q => Or.inr (Or.inl ⟨by decide, q⟩)), fun z => z.elim (fun e => absurd e (by decide)) (fun z => z.elim (fun q => Or.inr q.2) (fun q => absurd q.1 (by decide)))⟩
section
variable {v : Nat} {c x : Int32}
theorem ld_r (hv : v ≤ 9) (hc : ∃ k : Nat, k < 36 ∧ c = nI k) (hx : ∃ k : Nat, k < 36 ∧ x = nI k) : (fDown (v % 8) = 0 ∨ 0 < fDown (v % 8) * (x / 6 - c / 6)) ↔ sdR (rwR (nI v - nI v / 8 * 8)) (c / 6) (x / 6) := by
  obtain ⟨k, hk, rfl⟩ := hc
  obtain ⟨m, hm, rfl⟩ := hx
  rw [(ld_v v (by omega)).1, (ld_6 k hk).1, (ld_6 m hm).1]
  exact ld_g (ld_w (v % 8) (Nat.mod_lt _ (by decide))).1 (by omega) (by omega)
theorem ld_c (hv : v ≤ 9) (hc : ∃ k : Nat, k < 36 ∧ c = nI k) (hx : ∃ k : Nat, k < 36 ∧ x = nI k) : (fRight (v % 8) = 0 ∨ 0 < fRight (v % 8) * (x - x / 6 * 6 - (c - c / 6 * 6))) ↔ sdR (clR (nI v - nI v / 8 * 8)) (c - c / 6 * 6) (x - x / 6 * 6) := by
  obtain ⟨k, hk, rfl⟩ := hc
  obtain ⟨m, hm, rfl⟩ := hx
  rw [(ld_v v (by omega)).2, (ld_6 k hk).2, (ld_6 m hm).2]
  exact ld_g (ld_w (v % 8) (Nat.mod_lt _ (by decide))).2 (Nat.mod_lt _ (by decide)) (Nat.mod_lt _ (by decide))
end
/-- q9 is q with its bit j as G says -/
noncomputable def tgB (G : Prop) (q : Int32) (j : Nat) (q9 : Int32) : Prop := ∀ b : Nat, b < 32 → (bt q9 b = true ↔ (b = j ∧ G) ∨ (¬ b = j ∧ bt q b = true))
noncomputable def goK (R yk yv yc : Nat → Int32) (a b : Nat) : Prop := ¬ a = b ∧ goV (yk a) (yv a) (yc a) (yc b) (R b)
section
variable {G : Prop} {q q9 k v c cb r : Int32} {j a b : Nat}
theorem tgB_t (hj : j < 32) (h : G) : tgB G q j (q ||| (1 <<< (nI j &&& 31))) := fun b hb => by
  rw [b_or, Bool.or_eq_true, S0_bt hj hb]
  constructor
  · rintro (z | z)
    · by_cases e : b = j
      · exact Or.inl ⟨e, h⟩
      · exact Or.inr ⟨e, z⟩
    · exact Or.inl ⟨z, h⟩
  · rintro (⟨z, _⟩ | ⟨_, z⟩)
    · exact Or.inr z
    · exact Or.inl z
theorem tgB_f (hj : j < 32) (h : ¬ G) : tgB G q j (q &&& ((1 <<< (nI j &&& 31)) ^^^ (-1))) := fun b hb => by
  rw [b_and, Bool.and_eq_true, b_nz _ hb]
  have e0 : bt (1 <<< (nI j &&& 31)) b = false ↔ ¬ b = j := by
    constructor
    · intro z e
      rw [(S0_bt hj hb).mpr e] at z
      exact absurd z (by decide)
    · intro e
      cases hq : bt (1 <<< (nI j &&& 31)) b with
      | false => rfl
      | true => exact absurd ((S0_bt hj hb).mp hq) e
  rw [e0]
  constructor
  · rintro ⟨z1, z2⟩
    exact Or.inr ⟨z2, z1⟩
  · rintro (⟨_, z⟩ | ⟨z1, z2⟩)
    · exact absurd z h
    · exact ⟨z2, z1⟩
theorem tg_up {K : Nat → Prop} (h : ∀ b, b < j → (bt q b = true ↔ K b)) (hq : tgB (K j) q j q9) (hj : j < 32) : ∀ b, b < j + 1 → (bt q9 b = true ↔ K b) := fun b hb => by
  rw [hq b (by omega)]
  by_cases e : b = j
  · subst e
    constructor
    · rintro (⟨_, z⟩ | ⟨z, _⟩)
      · exact z
      · exact absurd rfl z
    · exact fun z => Or.inl ⟨rfl, z⟩
  · rw [← h b (by omega)]
    constructor
    · rintro (⟨z, _⟩ | ⟨_, z⟩)
      · exact absurd z e
      · exact z
    · exact fun z => Or.inr ⟨e, z⟩
theorem tg_at (hq : tgB G q j q9) (hj : j < 32) : bt q9 j = true ↔ G := by
  rw [hq j hj]
  constructor
  · rintro (⟨_, z⟩ | ⟨z, _⟩)
    · exact z
    · exact absurd rfl z
  · exact fun z => Or.inl ⟨rfl, z⟩
theorem tg_off (hq : tgB G q j q9) (hb : b < 32) (e : ¬ b = j) : bt q9 b = true ↔ bt q b = true := by
  rw [hq b hb]
  constructor
  · rintro (⟨z, _⟩ | ⟨_, z⟩)
    · exact absurd z e
    · exact z
  · exact fun z => Or.inr ⟨e, z⟩
theorem gv_y (h : ¬ r < apR c cb) (hk : k = 0 ∨ k = 1 ∨ k = 2 ∨ k = 5) : goV k v c cb r := by
  refine ⟨?_, ?_, h, fun z => ?_⟩
  · rcases hk with e | e | e | e <;> rw [e] <;> decide
  · rcases hk with e | e | e | e <;> rw [e] <;> decide
  · rcases hk with e | e | e | e <;> rw [e] at z <;> exact absurd z (by decide)
theorem gv_4 (h : ¬ r < apR c cb) (hk : k = 4) (hd : ldP v c cb) : goV k v c cb r := ⟨by rw [hk]; decide, by rw [hk]; decide, h, fun _ => hd⟩
theorem gv_far (h : r < apR c cb) : ¬ goV k v c cb r := fun z => z.2.2.1 h
theorem gv_3 (hk : k = 3) : ¬ goV k v c cb r := fun z => z.1 hk
theorem gv_6 (hk : k = 6) : ¬ goV k v c cb r := fun z => z.2.1 hk
theorem gv_4n (hk : k = 4) (hd : ¬ ldP v c cb) : ¬ goV k v c cb r := fun z => hd (z.2.2.2 hk)
end
/-- all rows, but for what a row says of itself -/
noncomputable def rwB (h : Nat → Int32) (n : Nat) (P : Nat → Nat → Prop) : Prop := ∀ i, i < n → ∀ j, j < n → ¬ i = j → (bt (h i) j = true ↔ P i j)
noncomputable def rwF (h : Nat → Int32) (n : Nat) (P : Nat → Nat → Prop) : Prop := ∀ i, i < n → ∀ j, j < n → (bt (h i) j = true ↔ P i j)
section
variable {h R yk yv yc : Nat → Int32} {n j1 j2 : Nat} {C : List pCla} {mi sn z x : Int32} {P : Nat → Nat → Prop}
theorem rwF.B (hr : rwF h n P) : rwB h n P := fun i hi j hj _ => hr i hi j hj
theorem fw_row (hn : n ≤ 8) (h1 : j1 < n) (h2 : j2 < n) (hz : bt z j1 = false) (hr : rwB h n (goP C mi sn yk yv yc)) : fwR h n (nI j1) (nI j2) z = fsR (gRow n yk yv yc C mi sn) n (nI j1) (nI j2) z :=
  fw_fs hn h1 h2 hz (fun i hi j hj e => by
    have q1 := hr i hi j hj e
    have q2 := gb_bt (P := goP C mi sn yk yv yc i) n (by omega) j (by omega)
    have q3 : bt (h i) j = true ↔ bt (gRow n yk yv yc C mi sn i) j = true := q1.trans ⟨fun z9 => q2.mpr ⟨hj, z9⟩, fun z9 => (q2.mp z9).2⟩
    cases ha : bt (h i) j with
    | true => exact (q3.mp ha).symm
    | false =>
      cases hb : bt (gRow n yk yv yc C mi sn i) j with
      | false => rfl
      | true => rw [q3.mpr hb] at ha; exact absurd ha (by decide))
theorem row_k (hR : ∀ k0, k0 < n → R k0 = RV C mi sn k0 (yk k0) (yv k0) (yc k0)) (hr : rwF h n (goK R yk yv yc)) : rwF h n (goP C mi sn yk yv yc) := fun i hi j hj => by
  rw [hr i hi j hj, goK, goP, hR j hj]
end
/-- the class's answers by its rows -/
noncomputable def vxP (h : Nat → Int32) (n j : Nat) (y : Int32) (i : Nat) : Prop := tB (h j) (nI i) ∧ fwR h n (nI i) y 0 = fwR h n (nI j) y 0 - 1
noncomputable def vxR (h : Nat → Int32) (n j : Nat) (y : Int32) : Int32 := if fwR h n (nI j) y 0 = -5 then -5 else if fwR h n (nI j) y 0 = 0 then -5 else fiF (vxP h n j y) n 0
noncomputable def cxP (h : Nat → Int32) (n j1 j2 i : Nat) : Prop := ¬ i = j1 ∧ ¬ i = j2 ∧ fwR h n (nI j1) (nI j2) (1 <<< (nI i &&& 31)) = -5
noncomputable def cxR (h : Nat → Int32) (n j1 j2 : Nat) : Int32 := if fwR h n (nI j1) (nI j2) 0 = -5 then 0 else gbI (cxP h n j1 j2) n
theorem fs_rng {S : Nat → Int32} {y : Int32} : ∀ m k : Nat, fsF S y m k = -5 ∨ ∃ l, l < k + m ∧ fsF S y m k = nI l
  | 0, _ => Or.inl rfl
  | m + 1, k => by
    by_cases t : tB (S k) y
    · exact Or.inr ⟨k, by omega, if_pos t⟩
    · rcases fs_rng m (k + 1) with q | ⟨l, hl, q⟩
      · exact Or.inl ((if_neg t).trans q)
      · exact Or.inr ⟨l, by omega, (if_neg t).trans q⟩
theorem fs_le0 {g : Nat → Int32} {n : Nat} {x y z : Int32} : fsR g n x y z ≤ 0 ↔ (fsR g n x y z = -5 ∨ fsR g n x y z = 0) := by
  rcases fs_rng (S := SI g n x z) (y := y) 10 0 with q | ⟨l, hl, q⟩
  · rw [show fsR g n x y z = -5 from q]; decide
  · rw [show fsR g n x y z = nI l from q]
    exact (by decide +kernel : ∀ l, l < 10 → (nI l ≤ 0 ↔ (nI l = -5 ∨ nI l = 0))) l (by omega)
section
variable {h yk yv yc : Nat → Int32} {n j1 j2 i : Nat} {C : List pCla} {mi sn q A : Int32} {V : Nat → Prop}
theorem vx_5 (h5 : fwR h n (nI j1) (nI j2) 0 = -5) : -5 = vxR h n j1 (nI j2) := (if_pos h5).symm
theorem vx_0 (h5 : ¬ fwR h n (nI j1) (nI j2) 0 = -5) (h0 : fwR h n (nI j1) (nI j2) 0 = 0) : -5 = vxR h n j1 (nI j2) := by rw [vxR, if_neg h5, if_pos h0]
theorem vx_h (h5 : ¬ fwR h n (nI j1) (nI j2) 0 = -5) (h0 : ¬ fwR h n (nI j1) (nI j2) 0 = 0) (hV : V = vxP h n j1 (nI j2)) (hA : A = fiF V n 0) (hq : A = q) : q = vxR h n j1 (nI j2) := by rw [vxR, if_neg h5, if_neg h0, ← hV, ← hA, hq]
theorem vx_vi (hn : n ≤ 8) (h1 : j1 < n) (h2 : j2 < n) (hr : rwF h n (goP C mi sn yk yv yc)) : vxR h n j1 (nI j2) = viR (gRow n yk yv yc C mi sn) n j1 (nI j2) := by
  have e : ∀ i, i < n → fwR h n (nI i) (nI j2) 0 = fsR (gRow n yk yv yc C mi sn) n (nI i) (nI j2) 0 := fun i hi => fw_row hn hi h2 (b_0 _) hr.B
  rw [vxR, viR, e j1 h1]
  by_cases q : fsR (gRow n yk yv yc C mi sn) n (nI j1) (nI j2) 0 ≤ 0
  · rw [if_pos q]
    rcases fs_le0.mp q with q5 | q0
    · rw [if_pos q5]
    · by_cases q5 : fsR (gRow n yk yv yc C mi sn) n (nI j1) (nI j2) 0 = -5
      · rw [if_pos q5]
      · rw [if_neg q5, if_pos q0]
  · rw [if_neg q, if_neg (fun z => q (fs_le0.mpr (Or.inl z))), if_neg (fun z => q (fs_le0.mpr (Or.inr z)))]
    refine fi_cg n 0 (fun k _ hk => ?_)
    rw [vxP, viP, e k (by omega), e j1 h1, tb_iff (by omega), tb_iff (by omega), hr j1 h1 k (by omega), gRow, gb_bt n (by omega) k (by omega)]
    exact ⟨fun z => ⟨⟨by omega, z.1⟩, z.2⟩, fun z => ⟨z.1.2, z.2⟩⟩
theorem cx_cu (hn : n ≤ 8) (h1 : j1 < n) (h2 : j2 < n) (hr : rwB h n (goP C mi sn yk yv yc)) : cxR h n j1 j2 = cuR (gRow n yk yv yc C mi sn) n j1 j2 := by
  rw [cxR, cuR, fw_row hn h1 h2 (b_0 _) hr]
  by_cases q5 : fsR (gRow n yk yv yc C mi sn) n (nI j1) (nI j2) 0 = -5
  · rw [if_pos q5, if_pos q5]
  · rw [if_neg q5, if_neg q5]
    refine gb_cg n (fun k hk => ?_)
    rw [cxP, cuP]
    refine and_congr_right fun e => ?_
    rw [fw_row hn h1 h2 ?_ hr]
    cases hq : bt (1 <<< (nI k &&& 31)) j1 with
    | false => rfl
    | true => exact absurd ((S0_bt (by omega) (by omega)).mp hq).symm e
theorem cx_0 (h5 : fwR h n (nI j1) (nI j2) 0 = -5) : 0 = cxR h n j1 j2 := (if_pos h5).symm
theorem cx_n {B : Nat → Int32} (h5 : ¬ fwR h n (nI j1) (nI j2) 0 = -5) (hB : B = gbI (cxP h n j1 j2)) (hq : q = B i) (e : i = n) : q = cxR h n j1 j2 := by rw [cxR, if_neg h5, hq, hB, e]
theorem st_x (hn : n ≤ 8) (h1 : j1 < n) (h2 : j2 < n) (hr : rwB h n (goP C mi sn yk yv yc)) : fwR h n (nI j1) (nI j2) 0 = stR_ n yk yv yc C mi sn (nI j1) (nI j2) := (fw_row hn h1 h2 (b_0 _) hr).trans (st_m hn h1 h2 (fun _ _ => rfl))
theorem vi_x (hn : n ≤ 8) (h1 : j1 < n) (h2 : j2 < n) (hr : rwF h n (goP C mi sn yk yv yc)) : vxR h n j1 (nI j2) = viR_ n yk yv yc C mi sn (nI j1) (nI j2) := vi_m hn h1 h2 (fun _ _ => rfl) (vx_vi hn h1 h2 hr)
theorem cu_x (hn : n ≤ 8) (h1 : j1 < n) (h2 : j2 < n) (hr : rwF h n (goP C mi sn yk yv yc)) : cxR h n j1 j2 = cuR_ n yk yv yc C mi sn (nI j1) (nI j2) := cu_m hn h1 h2 (fun _ _ => rfl) (cx_cu hn h1 h2 hr.B)
end
theorem two_no {n : Nat} {x y A : Int32} (h : (∀ j : Nat, j < n → x ≠ nI j) ∨ (∀ j : Nat, j < n → y ≠ nI j)) : -1 = twR n x y A := h.elim two_no1 two_no2
/-! where one should be built -/
noncomputable def up0 (f : Nat → Int32) (n : Nat) (v : Int32) : Nat → Int32 := fun k => if k = n then v else f k
theorem up0_n {f : Nat → Int32} {n : Nat} {v : Int32} : up0 f n v n = v := if_pos rfl
theorem up0_k {f : Nat → Int32} {n k : Nat} {v : Int32} (h : k < n) : up0 f n v k = f k := if_neg (by omega)
noncomputable def bcF (tk : Nat → Prop) (T : Nat → Int32) (s0 : Int32) : Nat → Int32 × Int32
  | 0 => (-5, s0)
  | c + 1 => @ite (Int32 × Int32) (tk c) (Classical.propDecidable _) (bcF tk T s0 c) (@ite (Int32 × Int32) (¬ T c = -5 ∧ ((bcF tk T s0 c).2 = -5 ∨ T c < (bcF tk T s0 c).2)) (Classical.propDecidable _) (nI c, T c) (bcF tk T s0 c))
section
variable {tk : Nat → Prop} {T : Nat → Int32} {s0 q q2 t : Int32} {G : Nat → Int32 × Int32} {i : Nat}
theorem bc_t (hG : G = bcF tk T s0) (h : q = (G i).1 ∧ q2 = (G i).2) (h1 : tk i) : q = (G (i + 1)).1 ∧ q2 = (G (i + 1)).2 := by
  have e : G (i + 1) = G i := by
    rw [hG]
    exact @if_pos _ (Classical.propDecidable _) h1 _ _ _
  rw [e]; exact h
theorem bc_n (hG : G = bcF tk T s0) (h : q = (G i).1 ∧ q2 = (G i).2) (h1 : ¬ tk i) (ht : t = T i) (h2 : t = -5 ∨ (¬ q2 = -5 ∧ ¬ t < q2)) : q = (G (i + 1)).1 ∧ q2 = (G (i + 1)).2 := by
  have h3 : ¬ (¬ T i = -5 ∧ ((G i).2 = -5 ∨ T i < (G i).2)) := by
    rw [← ht, ← h.2]
    rintro ⟨a, b⟩
    rcases h2 with c | ⟨c, d⟩
    · exact a c
    · exact b.elim c d
  have e : G (i + 1) = G i := by
    rw [hG] at h3 ⊢
    exact (@if_neg _ (Classical.propDecidable _) h1 _ _ _).trans (@if_neg _ (Classical.propDecidable _) h3 _ _ _)
  rw [e]; exact h
theorem bc_y (hG : G = bcF tk T s0) (h : q = (G i).1 ∧ q2 = (G i).2) (h1 : ¬ tk i) (ht : t = T i) (h2 : ¬ t = -5) (h4 : q2 = -5 ∨ t < q2) : nI i = (G (i + 1)).1 ∧ t = (G (i + 1)).2 := by
  have h3 : ¬ T i = -5 ∧ ((G i).2 = -5 ∨ T i < (G i).2) := by
    rw [← ht, ← h.2]
    exact ⟨h2, h4⟩
  have e : G (i + 1) = (nI i, T i) := by
    rw [hG] at h3 ⊢
    exact (@if_neg _ (Classical.propDecidable _) h1 _ _ _).trans (@if_pos _ (Classical.propDecidable _) h3 _ _ _)
  rw [e]; exact ⟨rfl, ht⟩
theorem bc_two : ∀ m : Nat, bcF tk T s0 m = (-5, s0) ∨ ∃ c, c < m ∧ bcF tk T s0 m = (nI c, T c)
  | 0 => Or.inl rfl
  | m + 1 => by
    have ih : bcF tk T s0 m = (-5, s0) ∨ ∃ c, c < m ∧ bcF tk T s0 m = (nI c, T c) := bc_two m
    have ih2 : bcF tk T s0 m = (-5, s0) ∨ ∃ c, c < m + 1 ∧ bcF tk T s0 m = (nI c, T c) := ih.elim Or.inl (fun ⟨c, hc, e⟩ => Or.inr ⟨c, by omega, e⟩)
    by_cases h1 : tk m
    · rw [show bcF tk T s0 (m + 1) = bcF tk T s0 m from @if_pos _ (Classical.propDecidable _) h1 _ _ _]
      exact ih2
    · by_cases h3 : ¬ T m = -5 ∧ ((bcF tk T s0 m).2 = -5 ∨ T m < (bcF tk T s0 m).2)
      · exact Or.inr ⟨m, by omega, (@if_neg _ (Classical.propDecidable _) h1 _ _ _).trans (@if_pos _ (Classical.propDecidable _) h3 _ _ _)⟩
      · rw [show bcF tk T s0 (m + 1) = bcF tk T s0 m from (@if_neg _ (Classical.propDecidable _) h1 _ _ _).trans (@if_neg _ (Classical.propDecidable _) h3 _ _ _)]
        exact ih2
end
/-- the steps with one more on cell c -/
noncomputable def bdT (n : Nat) (yk yv yc : Nat → Int32) (C : List pCla) (mi sn x y : Int32) (c : Nat) : Int32 := fsR (gRow (n + 1) (up0 yk n 0) (up0 yv n 0) (up0 yc n (nI c)) C mi sn) (n + 1) x y 0
noncomputable def bdP (n : Nat) (yk yv yc : Nat → Int32) (C : List pCla) (mi sn x y : Int32) : Nat → Int32 × Int32 := bcF (fun c => ∃ k, k < n ∧ yc k = nI c) (bdT n yk yv yc C mi sn x y) (fsR (gRow n yk yv yc C mi sn) n x y 0)
noncomputable def bdR (n : Nat) (yk yv yc : Nat → Int32) (C : List pCla) (mi sn x y z : Int32) : Int32 := @ite Int32 (hh n x ∧ hh n y ∧ ¬ (z < 0 ∨ 1 < z)) (Classical.propDecidable _) (if n = 8 then -5 else if (bdP n yk yv yc C mi sn x y 36).1 = -5 ∨ z = 0 then (bdP n yk yv yc C mi sn x y 36).1 else (bdP n yk yv yc C mi sn x y 36).2) (-1)
section
variable {n j1 j2 i : Nat} {yk yv yc f f9 fS : Nat → Int32} {C : List pCla} {mi sn x y z q q2 : Int32} {G : Nat → Int32 × Int32}
theorem bd_no1 (h : ∀ j : Nat, j < n → x ≠ nI j) : -1 = bdR n yk yv yc C mi sn x y z := (@if_neg _ (Classical.propDecidable _) (fun q => hh_no h q.1) _ _ _).symm
theorem bd_no2 (h : ∀ j : Nat, j < n → y ≠ nI j) : -1 = bdR n yk yv yc C mi sn x y z := (@if_neg _ (Classical.propDecidable _) (fun q => hh_no h q.2.1) _ _ _).symm
theorem bd_no3 (h : z < 0 ∨ 1 < z) : -1 = bdR n yk yv yc C mi sn x y z := (@if_neg _ (Classical.propDecidable _) (fun q => q.2.2 h) _ _ _).symm
theorem bd_yes (h1 : j1 < n) (h2 : j2 < n) (h3 : ¬ z < 0) (h4 : ¬ 1 < z) : bdR n yk yv yc C mi sn (nI j1) (nI j2) z = if n = 8 then -5 else if (bdP n yk yv yc C mi sn (nI j1) (nI j2) 36).1 = -5 ∨ z = 0 then (bdP n yk yv yc C mi sn (nI j1) (nI j2) 36).1 else (bdP n yk yv yc C mi sn (nI j1) (nI j2) 36).2 := @if_pos _ (Classical.propDecidable _) ⟨hh_yes h1, hh_yes h2, fun q => q.elim h3 h4⟩ _ _ _
theorem bd_8 (h1 : j1 < n) (h2 : j2 < n) (h3 : ¬ z < 0) (h4 : ¬ 1 < z) (h8 : n = 8) : -5 = bdR n yk yv yc C mi sn (nI j1) (nI j2) z := by rw [bd_yes h1 h2 h3 h4, if_pos h8]
theorem bd_a (h1 : j1 < n) (h2 : j2 < n) (h3 : ¬ z < 0) (h4 : ¬ 1 < z) (h8 : ¬ n = 8) (hG : G = bdP n yk yv yc C mi sn (nI j1) (nI j2)) (hq : q = (G i).1 ∧ q2 = (G i).2) (e : i = 36) (h5 : q = -5 ∨ z = 0) : q = bdR n yk yv yc C mi sn (nI j1) (nI j2) z := by
  subst e
  rw [hG] at hq
  rw [bd_yes h1 h2 h3 h4, if_neg h8, ← hq.1, if_pos h5]
theorem bd_b (h1 : j1 < n) (h2 : j2 < n) (h3 : ¬ z < 0) (h4 : ¬ 1 < z) (h8 : ¬ n = 8) (hG : G = bdP n yk yv yc C mi sn (nI j1) (nI j2)) (hq : q = (G i).1 ∧ q2 = (G i).2) (e : i = 36) (h5 : ¬ q = -5) (h6 : ¬ z = 0) : q2 = bdR n yk yv yc C mi sn (nI j1) (nI j2) z := by
  subst e
  rw [hG] at hq
  rw [bd_yes h1 h2 h3 h4, if_neg h8, ← hq.1, if_neg (show ¬ (q = -5 ∨ z = 0) from fun w => w.elim h5 h6), hq.2]
/-- the reference's numbers with one more -/
theorem put_row {a b c : Int32} (hn : n < 8) (e9 : f9 = upd (upd (upd (upd f (10 + n) a) (19 + n) b) (28 + n) c) 0 (nI (n + 1))) (zf : ∀ i, i ≠ 10 + n → i ≠ 19 + n → i ≠ 28 + n → f i = fS i) (zk : ∀ k, k < n → fS (10 + k) = yk k) (zv : ∀ k, k < n → fS (19 + k) = yv k) (zc : ∀ k, k < n → fS (28 + k) = yc k) (zm : fS 6 = mi) (zs : fS 7 = sn) : (∀ k, k < n + 1 → f9 (10 + k) = up0 yk n a k) ∧ (∀ k, k < n + 1 → f9 (19 + k) = up0 yv n b k) ∧ (∀ k, k < n + 1 → f9 (28 + k) = up0 yc n c k) ∧ f9 6 = mi ∧ f9 7 = sn := by
  have hw : ∀ i, i ≠ 0 → i ≠ 28 + n → i ≠ 19 + n → i ≠ 10 + n → f9 i = fS i := fun i d0 d1 d2 d3 => by rw [e9, pk_un d0, pk_un d1, pk_un d2, pk_un d3]; exact zf i d3 d2 d1
  refine ⟨fun k hk => ?_, fun k hk => ?_, fun k hk => ?_, (hw 6 (by omega) (by omega) (by omega) (by omega)).trans zm, (hw 7 (by omega) (by omega) (by omega) (by omega)).trans zs⟩
  · by_cases q : k = n
    · subst q
      rw [e9, pk_un (by omega), pk_un (by omega), pk_un (by omega), pk_us, up0_n]
    · rw [hw _ (by omega) (by omega) (by omega) (by omega), up0_k (by omega)]; exact zk k (by omega)
  · by_cases q : k = n
    · subst q
      rw [e9, pk_un (by omega), pk_un (by omega), pk_us, up0_n]
    · rw [hw _ (by omega) (by omega) (by omega) (by omega), up0_k (by omega)]; exact zv k (by omega)
  · by_cases q : k = n
    · subst q
      rw [e9, pk_un (by omega), pk_us, up0_n]
    · rw [hw _ (by omega) (by omega) (by omega) (by omega), up0_k (by omega)]; exact zc k (by omega)
theorem bd_T {g : Nat → Int32} (hs : ∀ k, k < n + 1 → g k = gbI (goF f9 C k) (n + 1)) (hp : (∀ k, k < n + 1 → f9 (10 + k) = up0 yk n 0 k) ∧ (∀ k, k < n + 1 → f9 (19 + k) = up0 yv n 0 k) ∧ (∀ k, k < n + 1 → f9 (28 + k) = up0 yc n (nI i) k) ∧ f9 6 = mi ∧ f9 7 = sn) : fsR g (n + 1) x y 0 = bdT n yk yv yc C mi sn x y i := fsR_cg (row_m hs hp.1 hp.2.1 hp.2.2.1 hp.2.2.2.1 hp.2.2.2.2)
/-- the class's rows with one more -/
theorem row_j {h R : Nat → Int32} (hn : n < 8) (hR : ∀ k0, k0 < n → R k0 = RV C mi sn k0 (yk k0) (yv k0) (yc k0)) (hRn : R n = RV C mi sn n 0 0 x) (hA : rwB h n (goP C mi sn yk yv yc)) (hB : ∀ a, a < n → (bt (h a) n = true ↔ ¬ a = n ∧ goV (yk a) (yv a) (yc a) x (R n))) (hC : ∀ b, b < n → (bt (h n) b = true ↔ ¬ n = b ∧ goV 0 0 x (yc b) (R b))) : rwB h (n + 1) (goP C mi sn (up0 yk n 0) (up0 yv n 0) (up0 yc n x)) := fun a ha b hb e => by
  by_cases qa : a = n
  · subst qa
    rw [hC b (by omega), goP, up0_n, up0_n, up0_n, up0_k (by omega), up0_k (by omega), up0_k (by omega), hR b (by omega)]
  · by_cases qb : b = n
    · subst qb
      rw [hB a (by omega), goP, up0_n, up0_n, up0_n, up0_k (by omega), up0_k (by omega), up0_k (by omega), hRn]
    · rw [hA a (by omega) b (by omega) e]
      exact (goP_cg (up0_k (by omega)) (up0_k (by omega)) (up0_k (by omega)) (up0_k (by omega)) (up0_k (by omega)) (up0_k (by omega))).symm
theorem bd_X {h : Nat → Int32} (hn : n < 8) (h1 : j1 < n) (h2 : j2 < n) (hr : rwB h (n + 1) (goP C mi sn (up0 yk n 0) (up0 yv n 0) (up0 yc n (nI i)))) : fwR h (n + 1) (nI j1) (nI j2) 0 = bdT n yk yv yc C mi sn (nI j1) (nI j2) i := fw_row (by omega) (by omega) (by omega) (b_0 _) hr
theorem bd_cell (hG : G = bdP n yk yv yc C mi sn x y) (hq : q = (G 36).1) (h5 : ¬ q = -5) : ∃ c : Nat, c < 36 ∧ q = nI c ∧ (G 36).2 = bdT n yk yv yc C mi sn x y c := by
  subst hG
  rcases bc_two (tk := fun c => ∃ k, k < n ∧ yc k = nI c) (T := bdT n yk yv yc C mi sn x y) (s0 := fsR (gRow n yk yv yc C mi sn) n x y 0) 36 with e | ⟨c, hc, e⟩
  · exact absurd (hq.trans (congrArg Prod.fst e)) h5
  · exact ⟨c, hc, hq.trans (congrArg Prod.fst e), congrArg Prod.snd e⟩
end
section
variable {n j1 j2 : Nat} {yk yv yc : Nat → Int32} {C : List pCla} {mi sn z q : Int32}
theorem bd_ax (h1 : j1 < n) (h2 : j2 < n) (h3 : ¬ z < 0) (h4 : ¬ 1 < z) (h8 : ¬ n = 8) (hr : q = (bdP n yk yv yc C mi sn (nI j1) (nI j2) 36).1) (h5 : q = -5 ∨ z = 0) : q = bdR n yk yv yc C mi sn (nI j1) (nI j2) z := bd_a (q2 := (bdP n yk yv yc C mi sn (nI j1) (nI j2) 36).2) h1 h2 h3 h4 h8 rfl ⟨hr, rfl⟩ rfl h5
theorem bd_bx (h1 : j1 < n) (h2 : j2 < n) (h3 : ¬ z < 0) (h4 : ¬ 1 < z) (h8 : ¬ n = 8) (hr : q = (bdP n yk yv yc C mi sn (nI j1) (nI j2) 36).1) (h5 : ¬ q = -5) (h6 : ¬ z = 0) : (bdP n yk yv yc C mi sn (nI j1) (nI j2) 36).2 = bdR n yk yv yc C mi sn (nI j1) (nI j2) z := bd_b h1 h2 h3 h4 h8 rfl ⟨hr, rfl⟩ rfl h5 h6
end
