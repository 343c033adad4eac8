
noncomputable def MOK (f : Nat → Int32) (n wk kb hl tp : Nat) : Prop := n ≤ 8 ∧ f 0 = nI n ∧ hl ≤ 5 ∧ f 1 = nI hl ∧ wk ≤ 6 ∧ f 2 = nI wk ∧ kb ≤ 12 ∧ f 3 = nI kb ∧ (∀ i, i < 12 → ∃ j : Nat, j < 8 ∧ f (79 + i) = nI j) ∧ tp ≤ 100 ∧ f 4 = nI tp ∧ holdH f hl
theorem MOK_rest {f g : Nat → Int32} {n wk kb hl tp : Nat} (h : MOK f n wk kb hl tp) (he : ∀ i, i ≤ 5 ∨ (79 ≤ i ∧ i < 91) ∨ (191 ≤ i ∧ i < 901) → g i = f i) : MOK g n wk kb hl tp := by
  obtain ⟨hn, zn, h5, z1, hw6, zw, hk12, zk, zb, ht, zt, hHd⟩ := h
  refine ⟨hn, (he 0 (by omega)).trans zn, h5, (he 1 (by omega)).trans z1, hw6, (he 2 (by omega)).trans zw, hk12, (he 3 (by omega)).trans zk, fun i hi => ?_, ht, (he 4 (by omega)).trans zt, holdH_of hHd h5 (fun i hi => he i (by omega))⟩
  obtain ⟨j, hj, e⟩ := zb i hi
  exact ⟨j, hj, (he _ (by omega)).trans e⟩
theorem MOK_heap {f g : Nat → Int32} {n wk kb hl tp n9 : Nat} (h : MOK f n wk kb hl tp) (h9 : n9 ≤ 8) (z9 : g 0 = nI n9) (he : ∀ i, i ≠ 0 → ¬ (10 ≤ i ∧ i < 37) → g i = f i) : MOK g n9 wk kb hl tp := by
  obtain ⟨hn, zn, h5, z1, hw6, zw, hk12, zk, zb, ht, zt, hHd⟩ := h
  refine ⟨h9, z9, h5, (he 1 (by omega) (by omega)).trans z1, hw6, (he 2 (by omega) (by omega)).trans zw, hk12, (he 3 (by omega) (by omega)).trans zk, fun i hi => ?_, ht, (he 4 (by omega) (by omega)).trans zt, holdH_of hHd h5 (fun i hi => he i (by omega) (by omega))⟩
  obtain ⟨j, hj, e⟩ := zb i hi
  exact ⟨j, hj, (he _ (by omega) (by omega)).trans e⟩
theorem MOK_walk {f g : Nat → Int32} {n wk kb hl tp w9 : Nat} (h : MOK f n wk kb hl tp) (h9 : w9 ≤ 6) (z9 : g 2 = nI w9) (he : ∀ i, i ≠ 2 → ¬ (73 ≤ i ∧ i < 79) → g i = f i) : MOK g n w9 kb hl tp := by
  obtain ⟨hn, zn, h5, z1, hw6, zw, hk12, zk, zb, ht, zt, hHd⟩ := h
  refine ⟨hn, (he 0 (by omega) (by omega)).trans zn, h5, (he 1 (by omega) (by omega)).trans z1, h9, z9, hk12, (he 3 (by omega) (by omega)).trans zk, fun i hi => ?_, ht, (he 4 (by omega) (by omega)).trans zt, holdH_of hHd h5 (fun i hi => he i (by omega) (by omega))⟩
  obtain ⟨j, hj, e⟩ := zb i hi
  exact ⟨j, hj, (he _ (by omega) (by omega)).trans e⟩
theorem MOK_feed {f g : Nat → Int32} {n wk kb hl tp t9 : Nat} (h : MOK f n wk kb hl tp) (h9 : t9 ≤ 100) (z9 : g 4 = nI t9) (he : ∀ i, i ≠ 4 → ¬ (91 ≤ i ∧ i < 191) → g i = f i) : MOK g n wk kb hl t9 := by
  obtain ⟨hn, zn, h5, z1, hw6, zw, hk12, zk, zb, ht, zt, hHd⟩ := h
  refine ⟨hn, (he 0 (by omega) (by omega)).trans zn, h5, (he 1 (by omega) (by omega)).trans z1, hw6, (he 2 (by omega) (by omega)).trans zw, hk12, (he 3 (by omega) (by omega)).trans zk, fun i hi => ?_, h9, z9, holdH_of hHd h5 (fun i hi => he i (by omega) (by omega))⟩
  obtain ⟨j, hj, e⟩ := zb i hi
  exact ⟨j, hj, (he _ (by omega) (by omega)).trans e⟩
theorem MOK_book {f g : Nat → Int32} {n wk kb hl tp k9 : Nat} (h : MOK f n wk kb hl tp) (h9 : k9 ≤ 12) (z9 : g 3 = nI k9) (zb9 : ∀ i, i < 12 → ∃ j : Nat, j < 8 ∧ g (79 + i) = nI j) (he : ∀ i, i ≠ 3 → ¬ (79 ≤ i ∧ i < 91) → g i = f i) : MOK g n wk k9 hl tp := by
  obtain ⟨hn, zn, h5, z1, hw6, zw, hk12, zk, zb, ht, zt, hHd⟩ := h
  exact ⟨hn, (he 0 (by omega) (by omega)).trans zn, h5, (he 1 (by omega) (by omega)).trans z1, hw6, (he 2 (by omega) (by omega)).trans zw, h9, z9, zb9, ht, (he 4 (by omega) (by omega)).trans zt, holdH_of hHd h5 (fun i hi => he i (by omega) (by omega))⟩
theorem MOK_hill {f g : Nat → Int32} {n wk kb hl tp hl9 t9 : Nat} (h : MOK f n wk kb hl tp) (hq : HQ f g) (h9 : hl9 ≤ 5) (z9 : g 1 = nI hl9) (t9l : t9 ≤ 100) (zt9 : g 4 = nI t9) : MOK g n wk kb hl9 t9 := by
  obtain ⟨hn, zn, h5, z1, hw6, zw, hk12, zk, zb, ht, zt, hHd⟩ := h
  obtain ⟨⟨hl8, g5, g1, gH⟩, ⟨t8, gt, g4⟩, he⟩ := hq
  have e8 : hl8 = hl9 := (nI_eq (by omega) (by omega)).mp (g1.symm.trans z9)
  subst e8
  refine ⟨hn, (he 0 (by omega) (by omega) (by omega) (by omega)).trans zn, g5, g1, hw6, (he 2 (by omega) (by omega) (by omega) (by omega)).trans zw, hk12, (he 3 (by omega) (by omega) (by omega) (by omega)).trans zk, fun i hi => ?_, t9l, zt9, gH⟩
  obtain ⟨j, hj, e⟩ := zb i hi
  exact ⟨j, hj, (he _ (by omega) (by omega) (by omega) (by omega)).trans e⟩
theorem MOK_b {f : Nat → Int32} {n wk kb hl tp : Nat} (h : MOK f n wk kb hl tp) : hl ≤ 5 ∧ tp ≤ 100 := by
  obtain ⟨hn, zn, h5, z1, hw6, zw, hk12, zk, zb, ht, zt, hHd⟩ := h
  exact ⟨h5, ht⟩
theorem MOK_n {f : Nat → Int32} {n wk kb hl tp : Nat} (h : MOK f n wk kb hl tp) : f 0 = nI n ∧ n ≤ 8 := by
  obtain ⟨hn, zn, h5, z1, hw6, zw, hk12, zk, zb, ht, zt, hHd⟩ := h
  exact ⟨zn, hn⟩
/-- what else is visible of the reference's numbers -/
noncomputable def MV (f : Nat → Int32) (n : Nat) (mi sn : Int32) (yk yv yc : Nat → Int32) (ee : Nat) : Prop := f 6 = mi ∧ f 7 = sn ∧ (∀ k, k < n → f (10 + k) = yk k) ∧ (∀ k, k < n → f (19 + k) = yv k) ∧ (∀ k, k < n → f (28 + k) = yc k) ∧ (∀ k, k < 36 → f (37 + k) = nI (ee / 2 ^ k % 2)) ∧ mb mi
theorem MV_of {f g : Nat → Int32} {n ee : Nat} {mi sn : Int32} {yk yv yc : Nat → Int32} (h : MV f n mi sn yk yv yc ee) (he : ∀ i, i = 6 ∨ i = 7 ∨ (10 ≤ i ∧ i < 10 + n) ∨ (19 ≤ i ∧ i < 19 + n) ∨ (28 ≤ i ∧ i < 28 + n) ∨ (37 ≤ i ∧ i < 73) → g i = f i) : MV g n mi sn yk yv yc ee := ⟨(he 6 (by omega)).trans h.1, (he 7 (by omega)).trans h.2.1, fun k hk => (he _ (by omega)).trans (h.2.2.1 k hk), fun k hk => (he _ (by omega)).trans (h.2.2.2.1 k hk), fun k hk => (he _ (by omega)).trans (h.2.2.2.2.1 k hk), fun k hk => (he _ (by omega)).trans (h.2.2.2.2.2.1 k hk), h.2.2.2.2.2.2⟩
theorem MV_edg {f g : Nat → Int32} {n ee e : Nat} {mi sn : Int32} {yk yv yc : Nat → Int32} (h : MV f n mi sn yk yv yc ee) (hn : n ≤ 8) (he : ∀ i, ¬ (37 ≤ i ∧ i < 73) → g i = f i) (h2 : ∀ k, k < 36 → g (37 + k) = nI (e / 2 ^ k % 2)) : MV g n mi sn yk yv yc e := ⟨(he 6 (by omega)).trans h.1, (he 7 (by omega)).trans h.2.1, fun k hk => (he _ (by omega)).trans (h.2.2.1 k hk), fun k hk => (he _ (by omega)).trans (h.2.2.2.1 k hk), fun k hk => (he _ (by omega)).trans (h.2.2.2.2.1 k hk), h2, h.2.2.2.2.2.2⟩
theorem MV_put {f : Nat → Int32} {n ee : Nat} {mi sn x y z v : Int32} {yk yv yc : Nat → Int32} (h : MV f n mi sn yk yv yc ee) (hn : n < 8) : MV (upd (upd (upd (upd f (10 + n) x) (19 + n) y) (28 + n) z) 0 v) (n + 1) mi sn (fun k => if k = n then x else yk k) (fun k => if k = n then y else yv k) (fun k => if k = n then z else yc k) ee := by
  have hw : ∀ i, i ≠ 0 → i ≠ 28 + n → i ≠ 19 + n → i ≠ 10 + n → upd (upd (upd (upd f (10 + n) x) (19 + n) y) (28 + n) z) 0 v i = f i := fun i a b c d => by rw [pk_un a, pk_un b, pk_un c, pk_un d]
  refine ⟨(hw 6 (by omega) (by omega) (by omega) (by omega)).trans h.1, (hw 7 (by omega) (by omega) (by omega) (by omega)).trans h.2.1, fun k hk => ?_, fun k hk => ?_, fun k hk => ?_, fun k hk => (hw _ (by omega) (by omega) (by omega) (by omega)).trans (h.2.2.2.2.2.1 k hk), h.2.2.2.2.2.2⟩
  · by_cases q : k = n
    · subst q
      rw [pk_un (by omega), pk_un (by omega), pk_un (by omega), pk_us]; exact (if_pos rfl).symm
    · rw [hw _ (by omega) (by omega) (by omega) (by omega)]; exact (h.2.2.1 k (by omega)).trans (if_neg q).symm
  · by_cases q : k = n
    · subst q
      rw [pk_un (by omega), pk_un (by omega), pk_us]; exact (if_pos rfl).symm
    · rw [hw _ (by omega) (by omega) (by omega) (by omega)]; exact (h.2.2.2.1 k (by omega)).trans (if_neg q).symm
  · by_cases q : k = n
    · subst q
      rw [pk_un (by omega), pk_us]; exact (if_pos rfl).symm
    · rw [hw _ (by omega) (by omega) (by omega) (by omega)]; exact (h.2.2.2.2.1 k (by omega)).trans (if_neg q).symm
/-- the tape, and the hill that is set -/
noncomputable def MH (f : Nat → Int32) (hl tp : Nat) (tc : Nat → Nat) (hC : List pCla) : Prop := TP f tp tc ∧ ((f 5 = -1 ∧ hC = []) ∨ ∃ h : Nat, h < hl ∧ f 5 = nI h ∧ CDh f h hC ∧ WfC hC)
theorem MH_of {f g : Nat → Int32} {hl tp : Nat} {tc : Nat → Nat} {hC : List pCla} (h : MH f hl tp tc hC) (hl5 : hl ≤ 5) (ht : tp ≤ 100) (he : ∀ i, i = 5 ∨ (91 ≤ i ∧ i < 191) ∨ (191 ≤ i ∧ i < 901) → g i = f i) : MH g hl tp tc hC := by
  obtain ⟨h1, h2⟩ := h
  refine ⟨⟨fun p hp => (he _ (by omega)).trans (h1.1 p hp), h1.2⟩, ?_⟩
  rcases h2 with ⟨h2, h3⟩ | ⟨k, hk, h2, h3⟩
  · exact Or.inl ⟨(he 5 (by omega)).trans h2, h3⟩
  · exact Or.inr ⟨k, hk, (he 5 (by omega)).trans h2, ⟨CDh_of h3.1 (fun i hi => he i (by omega)), h3.2⟩⟩
theorem MH_sg {f : Nat → Int32} {hl tp : Nat} {tc : Nat → Nat} {hC : List pCla} (h : MH f hl tp tc hC) (hl5 : hl ≤ 5) : (f 5 = -1 ∧ sgC hC = 3) ∨ ∃ k : Nat, k < 5 ∧ f 5 = nI k ∧ f (191 + k) = nI (sgC hC) := by
  rcases h.2 with ⟨h2, h3⟩ | ⟨k, hk, h2, h3⟩
  · exact Or.inl ⟨h2, by rw [h3]; rfl⟩
  · exact Or.inr ⟨k, by omega, h2, h3.1.2.2.2⟩
theorem MH_feed {f : Nat → Int32} {hl tp : Nat} {tc : Nat → Nat} {hC : List pCla} {x v : Int32} (h : MH f hl tp tc hC) (hl5 : hl ≤ 5) (ht : tp < 100) (h1 : ¬ x < 0) (h2 : ¬ 127 < x) : MH (upd (upd f (91 + tp) x) 4 v) hl (tp + 1) (fun k => if k = tp then x.toNatClampNeg else tc k) hC := by
  refine ⟨TP_add h.1 h1 h2, ?_⟩
  have he : ∀ i, i = 5 ∨ (191 ≤ i ∧ i < 901) → upd (upd f (91 + tp) x) 4 v i = f i := fun i hi => by rw [pk_un (by omega), pk_un (by omega)]
  rcases h.2 with ⟨h2, h3⟩ | ⟨k, hk, h2, h3⟩
  · exact Or.inl ⟨(he 5 (by omega)).trans h2, h3⟩
  · exact Or.inr ⟨k, hk, (he 5 (by omega)).trans h2, ⟨CDh_of h3.1 (fun i hi => he i (by omega)), h3.2⟩⟩
theorem MH_bad {f g : Nat → Int32} {hl tp : Nat} {tc : Nat → Nat} {hC : List pCla} (h : MH f hl tp tc hC) (hl5 : hl < 5) (he : ∀ i, i ≠ 4 → i ≠ 191 + hl → i ≠ 196 + hl → ¬ (201 + 140 * hl ≤ i ∧ i < 201 + 140 * hl + 140) → g i = f i) : MH g hl 0 (fun _ => 0) hC := by
  refine ⟨TP_nil, ?_⟩
  rcases h.2 with ⟨h2, h3⟩ | ⟨k, hk, h2, h3⟩
  · exact Or.inl ⟨(he 5 (by omega) (by omega) (by omega) (by omega)).trans h2, h3⟩
  · exact Or.inr ⟨k, hk, (he 5 (by omega) (by omega) (by omega) (by omega)).trans h2, ⟨CDh_of h3.1 (fun i hi => he i (by omega) (by omega) (by omega) (by omega)), h3.2⟩⟩
theorem MH_good {g : Nat → Int32} {hl : Nat} {C : List pCla} (h5 : g 5 = nI hl) (h : CDh g hl C) (hw : WfC C) : MH g (hl + 1) 0 (fun _ => 0) C := ⟨TP_nil, Or.inr ⟨hl, by omega, h5, h, hw⟩⟩
theorem MH_hol {f : Nat → Int32} {hl tp : Nat} {tc : Nat → Nat} {hC : List pCla} (hH : holdH f hl) (h : MH f hl tp tc hC) (h5 : hl ≤ 5) : hol f hC := by
  rcases h.2 with ⟨h2, h3⟩ | ⟨k, hk, h2, h3⟩
  · exact ⟨by rw [h3]; exact wf_nil, Or.inl ⟨h2, h3⟩⟩
  · rcases hH with q | ⟨j, hj, q1, q2⟩
    · exact absurd (h2.symm.trans q) (nI_nm1 (by omega))
    · have e : j = k := (nI_eq (by omega) (by omega)).mp (q1.symm.trans h2)
      subst e
      exact ⟨h3.2, Or.inr ⟨j, by omega, h2, q2, h3.1⟩⟩
theorem fdN_le {k : Nat} {x : Int32} (h : k ≤ 100) : fdN k x ≤ 100 := by
  unfold fdN
  split
  · exact h
  · split
    · exact h
    · split
      · exact h
      · omega
theorem wkN_le {k : Nat} {x : Int32} (h : k ≤ 6) : wkN k x ≤ 6 := by
  unfold wkN
  split
  · omega
  · split
    · exact h
    · split
      · exact h
      · split
        · exact h
        · omega
set_option maxHeartbeats 4000000 in
set_option maxRecDepth 100000 in
/-- what holds of the reference between two calls -/
noncomputable def MI (dC : Nat → ClassId) (dI : Nat → Nat → Nat) (im : Int32) (vm kvm : VS) (tm : List Nat) (T : List (ClassId × FieldType)) (m0 : Nat) (M : va_W) (H : Heap) : Prop := ∀ M9 : Prop, (∀ (aS : Nat) (aI : Nat) (aB : Nat) (aT : Nat) (aG : Nat) (aO : Nat) (aN : Nat) (aD : Nat) (aY : Nat) (th : Int32) (ac : Int32) (sp : Int32) (en : Int32) (wg : Int32) (op : Int32) (se : Int32) (dn : Int32) (rn : Int32) (kd : Int32) (nu : Int32) (tv : Int32) (bv : Int64) (cS : ClassId) (cI : ClassId) (cB : ClassId) (cT : ClassId) (cG : ClassId) (cO : ClassId) (cN : ClassId) (cD : ClassId) (cY : ClassId) (fS : Nat → Int32) (fI : Nat → Int32) (fB : Nat → Int32) (fT : Nat → Int32) (fG : Nat → Int32) (fO : Nat → Int64) (fN : Nat → Int64) (fD : Nat → Int32) (fY : Nat → Int32), M = [(zo14irriiiiiirriirrrrlriiii m0 th aS aI im ac sp en wg op aB aT se dn aG aO aN aD bv aY rn kd nu tv), (zaI aS cS 901 fS), (zaI aI cI 901 fI), (zaI aB cB 6 fB), (zaI aT cT 64 fT), (zaI aG cG 9 fG), (zaL aO cO 36 fO), (zaL aN cN 36 fN), (zaI aD cD 36 fD), (zaI aY cY 20 fY)] → va_P (dC, dI) vwCl M H → va_D (fun _ => True) M → (∀ p ∈ ([(cS, .int), (cI, .int), (cB, .int), (cT, .boolean), (cG, .int), (cO, .long), (cN, .long), (cD, .int), (cY, .int)] : List (ClassId × FieldType)), p ∈ T) → (MOK fS (vm.1) (vm.2.1) (vm.2.2.1) (vm.2.2.2.2.2.2.2.2.1) (vm.2.2.2.2.2.2.2.2.2.1) ∧ MH fS (vm.2.2.2.2.2.2.2.2.1) (vm.2.2.2.2.2.2.2.2.2.1) (vm.2.2.2.2.2.2.2.2.2.2.1) (vm.2.2.2.2.2.2.2.2.2.2.2.1) ∧ MV fS (vm.1) (vm.2.2.2.1) (vm.2.2.2.2.1) (vm.2.2.2.2.2.1) (vm.2.2.2.2.2.2.1) (vm.2.2.2.2.2.2.2.1) (vm.2.2.2.2.2.2.2.2.2.2.2.2)) → (im = 0 ∨ (MOK fI (kvm.1) (kvm.2.1) (kvm.2.2.1) (kvm.2.2.2.2.2.2.2.2.1) (kvm.2.2.2.2.2.2.2.2.2.1) ∧ MH fI (kvm.2.2.2.2.2.2.2.2.1) (kvm.2.2.2.2.2.2.2.2.2.1) (kvm.2.2.2.2.2.2.2.2.2.2.1) (kvm.2.2.2.2.2.2.2.2.2.2.2.1) ∧ MV fI (kvm.1) (kvm.2.2.2.1) (kvm.2.2.2.2.1) (kvm.2.2.2.2.2.1) (kvm.2.2.2.2.2.2.1) (kvm.2.2.2.2.2.2.2.1) (kvm.2.2.2.2.2.2.2.2.2.2.2.2))) → (tm.length ≤ 20 ∧ rn = nI tm.length ∧ okY fY tm) → M9) → M9
