

/-- an array over arrays is known to the machine -/
noncomputable def va_AOA (t : FieldType) (U : State) : Prop := (Cond.arrayOver (.array t)).before #[] U = true
theorem va_AOA.use {t : FieldType} {A : Array Value} {U : State} (h : va_AOA t U) : (Cond.arrayOver (.array t)).before A U = true := h

theorem va_AOA.moved {t : FieldType} {u U : State} (hvm : u.vm.Alike U.vm) (h : va_AOA t u) : va_AOA t U := over_moved hvm h


/-! ===== BEGIN new T[n][m]: the outer array a place, the inner ones among the pooled ===== -/
/-- f, but v at every address of l -/
noncomputable def vr_up {α : Type} (f : Nat → α) (l : List Nat) (v : α) : Nat → α := fun a => if a ∈ l then v else f a
theorem vr_up_in {α : Type} {f : Nat → α} {l : List Nat} {v : α} {a : Nat} (h : a ∈ l) : vr_up f l v a = v := if_pos h
theorem vr_up_ne {α : Type} {f : Nat → α} {l : List Nat} {v : α} {a : Nat} (h : a ∉ l) : vr_up f l v a = f a := if_neg h
theorem vr_rows {L l : List Nat} {f : Nat → va_E} {e : va_E} (h : ∀ a, a ∈ l → a ∉ L) : va_pl L f ++ l.map (fun a => (a, e)) = va_pl (L ++ l) (vr_up f l e) := by
  unfold va_pl
  rw [List.map_append]
  congr 1
  · apply List.map_congr_left
    intro a ha
    rw [vr_up_ne (fun q => h a q ha)]
  · apply List.map_congr_left
    intro a ha
    rw [vr_up_in ha]
theorem vr_lay {X rows : va_W} {x : Nat × va_E} {pl : va_W} {D : va_G} {cl : List vw_C} {H : Heap} (hP : va_P D cl (((X ++ pl) ++ [x]) ++ rows) H) : va_P D cl ((X ++ [x]) ++ (pl ++ rows)) H := by
  rw [List.append_assoc (X ++ pl)] at hP
  have h := va_P.swap hP
  rw [← List.append_assoc X] at h
  have h2 := va_P.swap h
  rw [List.append_assoc (X ++ [x])] at h2
  exact h2
theorem vr_layD {X rows : va_W} {x : Nat × va_E} {pl : va_W} {A : Nat → Prop} (hD : va_D A (((X ++ pl) ++ [x]) ++ rows)) : va_D A ((X ++ [x]) ++ (pl ++ rows)) := by
  rw [List.append_assoc (X ++ pl)] at hD
  have h := va_D.swap hD
  rw [← List.append_assoc X] at h
  have h2 := va_D.swap h
  rw [List.append_assoc (X ++ [x])] at h2
  exact h2
theorem vr_outer (c : ClassId) (N h0 : Nat) : ∀ i : Nat, Jvm.Free.Multi.outerC c N h0 i = arrV c N (fun j => va_rf (if j < i then some (h0 + 1 + j) else none))
  | 0 => by
    show ({ cls := c, slots := Array.replicate N .null, vm := .none } : Cell) = _
    rw [arrV_new]
    refine congrArg (arrV c N) (funext fun j => ?_)
    simp [va_rf]
  | i + 1 => by
    show (Jvm.Free.Multi.outerC c N h0 i).setSlot i (.ref (h0 + 1 + i)) = _
    rw [vr_outer c N h0 i, arrV_store]
    refine congrArg (arrV c N) (funext fun j => ?_)
    by_cases e : j = i
    · subst e
      simp [updV, va_rf]
    · by_cases h : j < i
      · simp [updV, e, h, Nat.lt_succ_of_lt h]
      · simp [updV, e, h, show ¬ j < i + 1 by omega]
section VGM
variable {p : Program} {l : Launch} {e : Env} {R : Room} {s : State} {m : MethodId} {args : Array Value} {below : List Frame} {meth : Method} {c : Code} {H : Heap} {locs : List Loc} {cells slots : Nat} {Q : State → Prop}
variable {cc : ByteArray} {pc : Nat} {ls : Array Slot} {rest : List Value} {D : va_G} {cl : List vw_C} {A : Nat → Prop} {a : Nat} {tys : List (ClassId × FieldType)} {ws : va_W} {H0 : Heap}
theorem va_mna {X : va_W} {L : List Nat} {f : Nat → va_E} {cc : ByteArray} (hexec : p.tables.exec = Jvm.exec) (hb : c.code = cc) {own : String} {index : Nat} {ty : FieldType} {cy : ClassId} (hown : s.vm.findClass own = some m.cls) (hclink : (Cond.classLink own index ("[" ++ (FieldType.array ty).toString)).before args s = true) (hover : va_AOA ty s) (harr : (Cond.arrayClass ty).before args s = true) (hcy : s.vm.findClass (FieldType.array ty).toString = some cy)
    (hK : va_K D cl tys s) (hP : va_P D cl (X ++ va_pl L f) H) (hD : va_D A (X ++ va_pl L f)) (hS : va_S A H0 H locs) (hA : ∀ q, H0.size ≤ q → A q) {n k : Int32} {N' K' : Nat} {z : vp_A} (hn : ¬ n < 0) (hk : ¬ k < 0) (hN : n.toNatClampNeg = N') (hM : k.toNatClampNeg = K')
    (hb1 : N' * 4 ≤ 536870912) (hb2 : K' * componentBytes ty ≤ 536870912) (hb3 : K' ≤ 536870912) (hdf : fits ty (defaultValue ty) = true) (hdd : (defaultValue ty).isDefault = true) (hcells : cells + (1 + N') ≤ R.cells) (hslots : slots + (N' + N' * K') ≤ R.slots) (hz : ∀ c : ClassId, Jvm.Free.Multi.innerC c K' (defaultValue ty) = vp_cell c z) (hdg : decode cc pc = .ok (.multianewarray index 2, 4))
    (kk : ∀ (q : Nat) (r : Nat → Nat) (cA : ClassId) (H1 : Heap), (∀ i j : Nat, i < N' → j < N' → r i = r j → i = j) → (∀ i : Nat, i < N' → r i ∉ L) → va_K D cl (tys ++ [(cA, .array ty)]) s →
      va_P D cl ((X ++ [(zaR q cA N' (fun i => if i < N' then some (r i) else none))]) ++ va_pl (L ++ (List.range N').map r) (vr_up f ((List.range N').map r) (.inl (cy, z)))) H1 → va_D A ((X ++ [(zaR q cA N' (fun i => if i < N' then some (r i) else none))]) ++ va_pl (L ++ (List.range N').map r) (vr_up f ((List.range N').map r) (.inl (cy, z)))) → va_S A H0 H1 locs →
      W p l e R s m args below meth c H1 locs (cells + 1 + N') (slots + N' + N' * K') Q (F0 m (pc + 4) ls (.ref q :: rest))) : W p l e R s m args below meth c H locs cells slots Q (F0 m pc ls (.int k :: .int n :: rest)) := by
  subst hN
  subst hM
  intro T hT Xs
  obtain ⟨vm₁, cA, comp, -, fA, fC, hO, -, X', step⟩ := Xs.multianewarray2F hexec hown hclink (va_AOA.use hover) harr (g := F0 m pc ls (.int k :: .int n :: rest)) rfl (by rw [hb]; exact hdg) rfl hn hk hb1 hb2 hb3 hdf hdd hcells hslots
  have ec : some cy = some comp := hcy.symm.trans fC
  cases ec
  generalize hF : Jvm.Free.Multi.fill (T.setVm vm₁) cA cy n.toNatClampNeg k.toNatClampNeg (defaultValue ty) n.toNatClampNeg = F at X' step
  have hTh : (T.setVm vm₁).heap = H := hT
  obtain ⟨f1, f2, -, -⟩ := Jvm.Free.Multi.fill_facts (T.setVm vm₁) cA cy n.toNatClampNeg k.toNatClampNeg (defaultValue ty) n.toNatClampNeg
  rw [hF, hTh] at f1 f2
  have hold : ∀ x : Nat, x < H.size → F.heap[x]? = H[x]? := fun x hx => by
    have := Jvm.Free.Multi.fill_old (T.setVm vm₁) cA cy n.toNatClampNeg k.toNatClampNeg (defaultValue ty) (a := x) (by rw [hTh]; exact hx) n.toNatClampNeg
    rw [hF, hTh] at this
    exact this
  have hrow : ∀ j : Nat, j < n.toNatClampNeg → F.heap[H.size + 1 + j]? = some (vp_cell cy z) := fun j hj => by
    have := Jvm.Free.Multi.fill_inner (T.setVm vm₁) cA cy n.toNatClampNeg k.toNatClampNeg (defaultValue ty) n.toNatClampNeg j hj
    rw [hF, hTh, hz] at this
    exact this
  have hout : Jvm.Free.Multi.outerC cA n.toNatClampNeg H.size n.toNatClampNeg = vp_cell cA (n.toNatClampNeg, .inr (.inr (.inr (.inr (fun i => if i < n.toNatClampNeg then some (H.size + 1 + i) else none))))) := by
    rw [vp_cell_q]
    exact vr_outer cA n.toNatClampNeg H.size n.toNatClampNeg
  rw [hout] at f2
  have hlt : ∀ a, a ∈ L → a < H.size := fun a ha => by
    obtain ⟨k9, hk9⟩ := va_pl_get (X := X) (f := f) ha
    exact (hP k9 _ hk9).lt
  have hnl : ∀ i : Nat, i < n.toNatClampNeg → H.size + 1 + i ∉ L := fun i _ h => by
    have := hlt _ h
    omega
  have hnm : ∀ a, a ∈ (List.range n.toNatClampNeg).map (fun i => H.size + 1 + i) → a ∉ L := fun a ha h => by
    obtain ⟨i, -, rfl⟩ := List.mem_map.mp ha
    have := hlt _ h
    omega
  have hP0 : va_P D cl (X ++ va_pl L f) F.heap := hP.kept (fun k9 x hx => hold x.1 ((hP k9 x hx).lt))
  have hP1 : va_P D cl ((X ++ va_pl L f) ++ [(zaR H.size cA n.toNatClampNeg (fun i => if i < n.toNatClampNeg then some (H.size + 1 + i) else none))]) F.heap := hP0.app (fun k9 x hx => by
    have h0 : k9 < 1 := (List.getElem?_eq_some_iff.mp hx).1
    rw [show k9 = 0 by omega] at hx
    cases hx
    exact f2)
  have hP2 : va_P D cl (((X ++ va_pl L f) ++ [(zaR H.size cA n.toNatClampNeg (fun i => if i < n.toNatClampNeg then some (H.size + 1 + i) else none))]) ++ ((List.range n.toNatClampNeg).map (fun i => H.size + 1 + i)).map (fun a => (a, .inl (cy, z)))) F.heap := hP1.app (fun k9 x hx => by
    obtain ⟨a, ha, rfl⟩ := List.mem_map.mp (List.mem_of_getElem? hx)
    obtain ⟨i, hi, rfl⟩ := List.mem_map.mp ha
    exact hrow i (List.mem_range.mp hi))
  have hD2 : va_D A (((X ++ va_pl L f) ++ [(zaR H.size cA n.toNatClampNeg (fun i => if i < n.toNatClampNeg then some (H.size + 1 + i) else none))]) ++ ((List.range n.toNatClampNeg).map (fun i => H.size + 1 + i)).map (fun a => (a, .inl (cy, z)))) := by
    have hD1 := hD.push (e := .inl (cA, n.toNatClampNeg, .inr (.inr (.inr (.inr (fun i => if i < n.toNatClampNeg then some (H.size + 1 + i) else none)))))) hP rfl (hA _ hS.1)
    generalize hW1 : (X ++ va_pl L f) ++ [(zaR H.size cA n.toNatClampNeg (fun i => if i < n.toNatClampNeg then some (H.size + 1 + i) else none))] = W1 at hD1 hP1 ⊢
    have hle : ∀ (k9 : Nat) (x : Nat × va_E), W1[k9]? = some x → x.1 ≤ H.size := fun k9 x hx => by
      rw [← hW1] at hx
      by_cases hl : k9 < (X ++ va_pl L f).length
      · rw [List.getElem?_append_left hl] at hx
        exact Nat.le_of_lt ((hP k9 x hx).lt)
      · rw [List.getElem?_append_right (by omega)] at hx
        have h0 : k9 - (X ++ va_pl L f).length < 1 := (List.getElem?_eq_some_iff.mp hx).1
        rw [show k9 - (X ++ va_pl L f).length = 0 by omega] at hx
        cases hx
        exact Nat.le_refl _
    have hr : ∀ (k9 : Nat) (x : Nat × va_E), (((List.range n.toNatClampNeg).map (fun i => H.size + 1 + i)).map (fun a => ((a, .inl (cy, z)) : Nat × va_E)))[k9]? = some x → x.1 = H.size + 1 + k9 := fun k9 x hx => by
      rw [List.getElem?_map, List.getElem?_map] at hx
      by_cases h9 : k9 < n.toNatClampNeg
      · rw [List.getElem?_range h9] at hx
        cases hx
        rfl
      · have hn0 : (List.range n.toNatClampNeg)[k9]? = none := List.getElem?_eq_none (by rw [List.length_range]; omega)
        rw [hn0] at hx
        cases hx
    refine ⟨fun i j x y hi hj hxy => ?_, fun k9 x hx => ?_⟩
    · by_cases h1 : i < W1.length <;> by_cases h2 : j < W1.length
      · rw [List.getElem?_append_left h1] at hi
        rw [List.getElem?_append_left h2] at hj
        exact hD1.1 i j x y hi hj hxy
      · rw [List.getElem?_append_left h1] at hi
        rw [List.getElem?_append_right (by omega)] at hj
        have := hle _ _ hi
        have := hr _ _ hj
        omega
      · rw [List.getElem?_append_right (by omega)] at hi
        rw [List.getElem?_append_left h2] at hj
        have := hle _ _ hj
        have := hr _ _ hi
        omega
      · rw [List.getElem?_append_right (by omega)] at hi hj
        have := hr _ _ hi
        have := hr _ _ hj
        omega
    · by_cases h1 : k9 < W1.length
      · rw [List.getElem?_append_left h1] at hx
        exact hD1.2 k9 x hx
      · rw [List.getElem?_append_right (by omega)] at hx
        have := hr _ _ hx
        exact hA _ (by have := hS.1; omega)
  have hAr : ArrOfT s cA (.array ty) := fun N9 z9 => by
    obtain ⟨-, k9, hk9, cm9, hkk9⟩ := (hO 0 0 0).1
    exact ⟨(fun q hq => by cases hq), k9, hk9, cm9, hkk9⟩
  have hK2 : va_K D cl (tys ++ [(cA, .array ty)]) s := ⟨hK.1, fun k9 x hx => by
    by_cases hl : k9 < tys.length
    · rw [List.getElem?_append_left hl] at hx
      exact hK.2 k9 x hx
    · rw [List.getElem?_append_right (by omega)] at hx
      have h0 : k9 - tys.length < 1 := (List.getElem?_eq_some_iff.mp hx).1
      rw [show k9 - tys.length = 0 by omega] at hx
      cases hx
      exact ⟨hAr, fA⟩⟩
  obtain ⟨t, a1, b1⟩ := kk H.size (fun i => H.size + 1 + i) cA F.heap (fun i j _ _ h => by have h9 : H.size + 1 + i = H.size + 1 + j := h; omega) hnl hK2 (by rw [← vr_rows hnm]; exact vr_lay hP2) (by rw [← vr_rows hnm]; exact vr_layD hD2) ⟨by rw [f1]; have := hS.1; omega, fun x h1 h2 => (hold x (Nat.lt_of_lt_of_le h1 hS.1)).trans (hS.2.1 x h1 h2), hS.2.2⟩ F rfl X'
  refine ⟨t, step t ?_, b1⟩
  have e : T.heap.size = H.size := by rw [hT]
  rw [e]
  exact a1
end VGM
/-! ===== END ===== -/


theorem arr_known {args : Array Value} {s : State} {ty : FieldType} (h : (Cond.arrayClass ty).before args s = true) : ∃ c : ClassId, s.vm.findClass ("[" ++ ty.toString) = some c ∧ ArrOfT s c ty := by
  obtain ⟨c, k, comp, h1, h2, h3⟩ := Cond.arrayClass_spec h
  exact ⟨c, h1, fun n z => ⟨(fun q hq => by cases hq), k, h2, comp, h3⟩⟩
theorem mna_rows {f : Nat → va_E} {r : Nat → Nat} {e : va_E} {n : Nat} : va_pl ([] ++ (List.range n).map r) (vr_up f ((List.range n).map r) e) = (List.range n).map (fun i => (r i, e)) := by
  unfold va_pl
  rw [List.nil_append, List.map_map]
  apply List.map_congr_left
  intro i hi
  show (r i, vr_up f _ e (r i)) = (r i, e)
  rw [vr_up_in (List.mem_map.mpr ⟨i, hi, rfl⟩)]
theorem K_rep {D : va_G} {cl : List vw_C} {tys : List (ClassId × FieldType)} {s : State} {c : ClassId} {ty : FieldType} (hK : va_K D cl tys s) (h1 : ArrOfT s c ty) (h2 : va_RA s c ty) (n : Nat) : va_K D cl (List.replicate n (c, ty)) s := ⟨hK.1, fun k q h => by
  have e := List.eq_of_mem_replicate (List.mem_of_getElem? h)
  rw [e]
  exact ⟨h1, h2⟩⟩
noncomputable def castW : List Cond := [.castable RX4 "MistHeaps$Heap", .castable RX6 "MistHeaps$Heap", .castable RX1 "MistHeaps$Heap", .castable RX10 "MistHeaps$Heap", .castable RX9 "MistHeaps$Heap", .castable RX7 "MistHeaps$Heap"]
theorem castW_tab : ∀ w ∈ castW, w.onTables = true := by decide +kernel
/-- what the constructors, and a heap's being set, take along -/
noncomputable def Gc (bS : Nat) (A : Nat → Prop) (U : State) : Prop := va_AO "MistHeaps$Heap" U ∧ va_AOA .long U ∧ va_AOA .int U ∧ (∀ w ∈ castW, va_Nw w U) ∧ va_Z "java/util/ArrayList" "DEFAULTCAPACITY_EMPTY_ELEMENTDATA" "[Ljava/lang/Object;" (.ref bS) A U U.heap
theorem castW_warm {s U : State} (hW : s.WarmedH U.vm) (h : ∀ w ∈ castW, va_Nw w s) : ∀ w ∈ castW, va_Nw w U := by
  have k : ∀ w ∈ castW, ∃ (a b : String), w = .castable a b := by
    intro w hw
    simp only [castW, List.mem_cons, List.not_mem_nil, or_false] at hw
    rcases hw with rfl | rfl | rfl | rfl | rfl | rfl <;> exact ⟨_, _, rfl⟩
  intro w hw
  obtain ⟨a, b, rfl⟩ := k w hw
  exact va_Nw.warmC hW (h _ hw)
theorem Gc.same {bS : Nat} {A : Nat → Prop} {u U : State} (h : Gc bS A u) (hvm : u.vm = U.vm) (hh : U.heap = u.heap) : Gc bS A U := by
  obtain ⟨h1, h2, h3, h4, h5⟩ := h
  have hv : u.vm.Alike U.vm := by rw [hvm]; exact Vm.Alike.refl _
  refine ⟨h1.moved hv, h2.moved hv, h3.moved hv, fun w hw => va_Nw.same (castW_tab w hw) hvm (h4 w hw), ?_⟩
  rw [hh]; exact h5.moved hv
theorem Gc.call {bS : Nat} {A B : Nat → Prop} {s U : State} {H : Heap} {locs : List Loc} (h : Gc bS A s) (hS : va_S A s.heap H locs) (hU : U.heap = H) (hW : s.WarmedH U.vm) (hB : ∀ q, B q → A q) : Gc bS B U := by
  obtain ⟨h1, h2, h3, h4, h5⟩ := h
  refine ⟨h1.moved hW.alike, h2.moved hW.alike, h3.moved hW.alike, castW_warm hW h4, ?_⟩
  rw [hU]; exact ((h5.kept (H1 := H) hS.2.1).moved hW.alike).narrow hB
theorem Gc.castable {bS : Nat} {A : Nat → Prop} {U : State} (h : Gc bS A U) (w : Cond) (hw : w ∈ castW) : va_Nw w U := h.2.2.2.1 w hw

/-- the numbers of a new reference -/
noncomputable def s0 : Nat → Int32 := upd (fun _ => 0) 5 (-1)
theorem Gc.callF {bS : Nat} {A : Nat → Prop} {s U : State} {H : Heap} {locs : List Loc} (h : Gc bS A s) (hS : va_S A s.heap H locs) (hU : U.heap = H) (hW : s.WarmedH U.vm) : Gc bS (fun _ => False) U := h.call hS hU hW (fun _ q => q.elim)
theorem up_cp {f g : Nat → Option Nat} {i : Nat} {v : Option Nat} (h : ∀ k, k < i → g k = f k) (hv : f i = v) : ∀ k, k < i + 1 → va_up g i v k = f k := by
  intro k hk
  by_cases q : k = i
  · subst q; simp [va_up, hv]
  · simp only [va_up, if_neg q]; exact h k (by omega)
theorem cpy0 {α : Type} {f g : Nat → α} {n : Nat} : ∀ k, k < n → va_cpy f g 0 0 n k = f k := by
  intro k hk
  simp only [va_cpy]
  rw [if_pos (by omega)]
  congr 1
  omega
section
variable {p : Program} {l : Launch} {e : Env} {R : Room} {s : State} {m : MethodId} {args : Array Value} {below : List Frame} {meth : Method} {c : Code} {H : Heap} {locs : List Loc} {cells slots : Nat} {Q : State → Prop}
variable {cc : ByteArray} {pc : Nat} {ls : Array Slot} {rest : List Value} {A : Nat → Prop} {a : Nat} {tys : List (ClassId × FieldType)} {ws : va_W} {dC : Nat → ClassId} {dI : Nat → Nat → Nat}
/-- a heap that stands is stored in a row of heaps -/
theorem va_astH (hexec : p.tables.exec = Jvm.exec) (hb : c.code = cc) (hK : va_K (dC, dI) vwCl tys s) (hP : va_P (dC, dI) vwCl ws H) (hD : va_D A ws) (hS : va_S A s.heap H locs) (q0 t0 : Nat) {cA : ClassId} {n v ci bS : Nat} {vs : List Value} {f : Nat → Option Nat} (ha : ws[q0]? = some (zaR a cA n f)) (ht : tys[t0]? = some (cA, .object "MistHeaps$Heap")) (hC : Gc bS A s) (hci : hpK ci) (hF : Fz dC dI [(v, .inr (ci, vs))] [] A s) {i : Int32} (hin : vp_in i n) (hdg : decode cc pc = .ok (.aastore, 1))
    (kk : ∀ (H1 : Heap) (locs1 : List Loc), va_P (dC, dI) vwCl (ws.set q0 (zaR a cA n (va_up f i.toNatClampNeg (some v)))) H1 → va_D A (ws.set q0 (zaR a cA n (va_up f i.toNatClampNeg (some v)))) → va_S A s.heap H1 locs1 → W p l e R s m args below meth c H1 locs1 cells slots Q (F0 m (pc + 1) ls rest)) : W p l e R s m args below meth c H locs cells slots Q (F0 m pc ls (.ref v :: .int i :: .ref a :: rest)) := by
  rcases hci with rfl | rfl | rfl | rfl | rfl | rfl | rfl
  · exact vb_astq (C := RX1) hexec hb hK hP hD hS q0 t0 ha ht (va_recv hF.2.1 (hF.P hS) (ci := 3) (q := (RX1, TX1, 4)) (q0 := 0) rfl rfl) (fun comp c0 h1 h2 => vb_asgC (hC.castable (.castable RX1 "MistHeaps$Heap") (by decide +kernel)) comp c0 h1 h2) hin hdg kk
  · exact vb_astq (C := RX3) hexec hb hK hP hD hS q0 t0 ha ht (va_recv hF.2.1 (hF.P hS) (ci := 5) (q := (RX3, TX3, 4)) (q0 := 0) rfl rfl) (fun comp c0 h1 h2 => vb_asgS comp c0 h1 h2) hin hdg kk
  · exact vb_astq (C := RX4) hexec hb hK hP hD hS q0 t0 ha ht (va_recv hF.2.1 (hF.P hS) (ci := 6) (q := (RX4, TX4, 4)) (q0 := 0) rfl rfl) (fun comp c0 h1 h2 => vb_asgC (hC.castable (.castable RX4 "MistHeaps$Heap") (by decide +kernel)) comp c0 h1 h2) hin hdg kk
  · exact vb_astq (C := RX6) hexec hb hK hP hD hS q0 t0 ha ht (va_recv hF.2.1 (hF.P hS) (ci := 8) (q := (RX6, TX6, 4)) (q0 := 0) rfl rfl) (fun comp c0 h1 h2 => vb_asgC (hC.castable (.castable RX6 "MistHeaps$Heap") (by decide +kernel)) comp c0 h1 h2) hin hdg kk
  · exact vb_astq (C := RX7) hexec hb hK hP hD hS q0 t0 ha ht (va_recv hF.2.1 (hF.P hS) (ci := 9) (q := (RX7, TX7, 4)) (q0 := 0) rfl rfl) (fun comp c0 h1 h2 => vb_asgC (hC.castable (.castable RX7 "MistHeaps$Heap") (by decide +kernel)) comp c0 h1 h2) hin hdg kk
  · exact vb_astq (C := RX9) hexec hb hK hP hD hS q0 t0 ha ht (va_recv hF.2.1 (hF.P hS) (ci := 11) (q := (RX9, TX9, 4)) (q0 := 0) rfl rfl) (fun comp c0 h1 h2 => vb_asgC (hC.castable (.castable RX9 "MistHeaps$Heap") (by decide +kernel)) comp c0 h1 h2) hin hdg kk
  · exact vb_astq (C := RX10) hexec hb hK hP hD hS q0 t0 ha ht (va_recv hF.2.1 (hF.P hS) (ci := 12) (q := (RX10, TX10, 4)) (q0 := 0) rfl rfl) (fun comp c0 h1 h2 => vb_asgC (hC.castable (.castable RX10 "MistHeaps$Heap") (by decide +kernel)) comp c0 h1 h2) hin hdg kk
end
