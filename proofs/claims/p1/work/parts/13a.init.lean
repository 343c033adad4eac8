theorem dX5_init_0 : decode cX5_init 0 = .ok (.aload_n 0, 1) := by decide +kernel
theorem dX5_init_1 : decode cX5_init 1 = .ok (.invokespecial 3, 3) := by decide +kernel
theorem dX5_init_4 : decode cX5_init 4 = .ok (.aload_n 0, 1) := by decide +kernel
theorem dX5_init_5 : decode cX5_init 5 = .ok (.iconst 3, 1) := by decide +kernel
theorem dX5_init_6 : decode cX5_init 6 = .ok (.putfield 11, 3) := by decide +kernel
theorem dX5_init_9 : decode cX5_init 9 = .ok (.aload_n 0, 1) := by decide +kernel
theorem dX5_init_10 : decode cX5_init 10 = .ok (.bipush 10, 2) := by decide +kernel
theorem dX5_init_12 : decode cX5_init 12 = .ok (.newarray .int, 2) := by decide +kernel
theorem dX5_init_14 : decode cX5_init 14 = .ok (.putfield 15, 3) := by decide +kernel
theorem dX5_init_17 : decode cX5_init 17 = .ok (.aload_n 0, 1) := by decide +kernel
theorem dX5_init_18 : decode cX5_init 18 = .ok (.bipush 10, 2) := by decide +kernel
theorem dX5_init_20 : decode cX5_init 20 = .ok (.newarray .int, 2) := by decide +kernel
theorem dX5_init_22 : decode cX5_init 22 = .ok (.putfield 19, 3) := by decide +kernel
theorem dX5_init_25 : decode cX5_init 25 = .ok (.aload_n 0, 1) := by decide +kernel
theorem dX5_init_26 : decode cX5_init 26 = .ok (.bipush 10, 2) := by decide +kernel
theorem dX5_init_28 : decode cX5_init 28 = .ok (.newarray .int, 2) := by decide +kernel
theorem dX5_init_30 : decode cX5_init 30 = .ok (.putfield 22, 3) := by decide +kernel
theorem dX5_init_33 : decode cX5_init 33 = .ok (.aload_n 0, 1) := by decide +kernel
theorem dX5_init_34 : decode cX5_init 34 = .ok (.bipush 100, 2) := by decide +kernel
theorem dX5_init_36 : decode cX5_init 36 = .ok (.newarray .int, 2) := by decide +kernel
theorem dX5_init_38 : decode cX5_init 38 = .ok (.putfield 25, 3) := by decide +kernel
theorem dX5_init_41 : decode cX5_init 41 = .ok (.return_, 1) := by decide +kernel
theorem dX8_init_0 : decode cX8_init 0 = .ok (.aload_n 0, 1) := by decide +kernel
theorem dX8_init_1 : decode cX8_init 1 = .ok (.invokespecial 3, 3) := by decide +kernel
theorem dX8_init_4 : decode cX8_init 4 = .ok (.aload_n 0, 1) := by decide +kernel
theorem dX8_init_5 : decode cX8_init 5 = .ok (.bipush 100, 2) := by decide +kernel
theorem dX8_init_7 : decode cX8_init 7 = .ok (.newarray .int, 2) := by decide +kernel
theorem dX8_init_9 : decode cX8_init 9 = .ok (.putfield 9, 3) := by decide +kernel
theorem dX8_init_12 : decode cX8_init 12 = .ok (.aload_n 0, 1) := by decide +kernel
theorem dX8_init_13 : decode cX8_init 13 = .ok (.new 15, 3) := by decide +kernel
theorem dX8_init_16 : decode cX8_init 16 = .ok (.dup, 1) := by decide +kernel
set_option maxRecDepth 20000 in
theorem ggX8_init_X5_init : GoodIn wsX8_init wsX5_init := goodIn_r _ [17, 18, 2, 3, 19, 4, 20, 21, 22, 23, 38, 39, 40, 41, 42, 43, 44, 45, 46, 47, 48] (by decide +kernel) (by decide +kernel)
theorem dX8_init_17 : decode cX8_init 17 = .ok (.invokespecial 17, 3) := by decide +kernel
theorem dX8_init_20 : decode cX8_init 20 = .ok (.putfield 18, 3) := by decide +kernel
theorem dX8_init_23 : decode cX8_init 23 = .ok (.aload_n 0, 1) := by decide +kernel
theorem dX8_init_24 : decode cX8_init 24 = .ok (.bipush 8, 2) := by decide +kernel
theorem dX8_init_26 : decode cX8_init 26 = .ok (.anewarray 22, 3) := by decide +kernel
theorem dX8_init_29 : decode cX8_init 29 = .ok (.putfield 24, 3) := by decide +kernel
theorem dX8_init_32 : decode cX8_init 32 = .ok (.aload_n 0, 1) := by decide +kernel
theorem dX8_init_33 : decode cX8_init 33 = .ok (.bipush 6, 2) := by decide +kernel
theorem dX8_init_35 : decode cX8_init 35 = .ok (.newarray .int, 2) := by decide +kernel
theorem dX8_init_37 : decode cX8_init 37 = .ok (.putfield 28, 3) := by decide +kernel
theorem dX8_init_40 : decode cX8_init 40 = .ok (.aload_n 0, 1) := by decide +kernel
theorem dX8_init_41 : decode cX8_init 41 = .ok (.bipush 12, 2) := by decide +kernel
theorem dX8_init_43 : decode cX8_init 43 = .ok (.newarray .int, 2) := by decide +kernel
theorem dX8_init_45 : decode cX8_init 45 = .ok (.putfield 31, 3) := by decide +kernel
theorem dX8_init_48 : decode cX8_init 48 = .ok (.aload_n 0, 1) := by decide +kernel
theorem dX8_init_49 : decode cX8_init 49 = .ok (.bipush 6, 2) := by decide +kernel
theorem dX8_init_51 : decode cX8_init 51 = .ok (.newarray .int, 2) := by decide +kernel
theorem dX8_init_53 : decode cX8_init 53 = .ok (.putfield 34, 3) := by decide +kernel
theorem dX8_init_56 : decode cX8_init 56 = .ok (.return_, 1) := by decide +kernel
/-- an array over arrays is known to the machine -/
def va_AOA (t : FieldType) (U : State) : Prop := (Cond.arrayOver (.array t)).before #[] U = true
theorem va_AOA.use {t : FieldType} {A : Array Value} {U : State} (h : va_AOA t U) : (Cond.arrayOver (.array t)).before A U = true := h

theorem va_AOA.moved {C : FieldType} {u U : State} (hvm : u.vm.Alike U.vm) (h : va_AOA C u) : va_AOA C U := by
  obtain ⟨comp, c, k, h1, h2, h3, h4, h5⟩ := Cond.arrayOver_spec h
  obtain ⟨k', hk', he⟩ := hvm.2.2 _ _ h3
  have hi : (U.vm.classes.findIdx? fun (x : Class) => match x.kind with | .array component _ => component == comp | _ => false) = some c := by
    rw [← va_idx_bare]
    first | rw [hvm.bare_eq] | rw [← hvm.bare_eq]
    rw [va_idx_bare]
    exact h2
  have hkind : k'.kind = .array comp (.array C) := by rw [he]; exact h4
  have f1 : U.vm.findClass (FieldType.array C).toString = some comp := by rw [hvm.findClass]; exact h1
  have f2 : U.vm.findClass ("[" ++ (FieldType.array C).toString) = some c := by rw [hvm.findClass]; exact h5
  unfold va_AOA Cond.before Cond.holds
  simp only [Cond.value]
  rw [f1, Option.bind_some]
  refine (congrArg (fun o : Option Nat => (o.bind (fun c => (U.vm.classes[c]?).map fun (k : Class) => match k.kind with | .array _ ty => decide (ty = FieldType.array C) && decide (U.vm.findClass ("[" ++ (FieldType.array C).toString) = some c) | _ => false) == some true)) hi).trans ?_
  simp [hk', hkind, f2]

/-! ===== BEGIN new T[n][m]: the outer array a place, the inner ones among the pooled ===== -/
/-- f, but v at every address of l -/
def vr_up {α : Type} (f : Nat → α) (l : List Nat) (v : α) : Nat → α := fun a => if a ∈ l then v else f a
theorem vr_up_in {α : Type} {f : Nat → α} {l : List Nat} {v : α} {a : Nat} (h : a ∈ l) : vr_up f l v a = v := if_pos h
theorem vr_up_ne {α : Type} {f : Nat → α} {l : List Nat} {v : α} {a : Nat} (h : a ∉ l) : vr_up f l v a = f a := if_neg h
theorem vr_rows {L l : List Nat} {f : Nat → va_E} {e : va_E} (h : ∀ a, a ∈ l → a ∉ L) : va_pl L f ++ l.map (fun a => (a, e)) = va_pl (L ++ l) (vr_up f l e) := by
  unfold va_pl
  rw [List.map_append]
  congr 1
  · apply List.map_congr_left
    intro a ha
    rw [vr_up_ne (fun q => h a q ha)]
  · apply List.map_congr_left
    intro a ha
    rw [vr_up_in ha]
theorem vr_lay {X rows : va_W} {x : Nat × va_E} {pl : va_W} {D : va_G} {cl : List vw_C} {H : Heap} (hP : va_P D cl (((X ++ pl) ++ [x]) ++ rows) H) : va_P D cl ((X ++ [x]) ++ (pl ++ rows)) H := by
  rw [List.append_assoc (X ++ pl)] at hP
  have h := va_P.swap hP
  rw [← List.append_assoc X] at h
  have h2 := va_P.swap h
  rw [List.append_assoc (X ++ [x])] at h2
  exact h2
theorem vr_layD {X rows : va_W} {x : Nat × va_E} {pl : va_W} {A : Nat → Prop} (hD : va_D A (((X ++ pl) ++ [x]) ++ rows)) : va_D A ((X ++ [x]) ++ (pl ++ rows)) := by
  rw [List.append_assoc (X ++ pl)] at hD
  have h := va_D.swap hD
  rw [← List.append_assoc X] at h
  have h2 := va_D.swap h
  rw [List.append_assoc (X ++ [x])] at h2
  exact h2
theorem vr_outer (c : ClassId) (N h0 : Nat) : ∀ i : Nat, Jvm.Free.Multi.outerC c N h0 i = arrV c N (fun j => va_rf (if j < i then some (h0 + 1 + j) else none))
  | 0 => by
    show ({ cls := c, slots := Array.replicate N .null, vm := .none } : Cell) = _
    rw [arrV_new]
    refine congrArg (arrV c N) (funext fun j => ?_)
    simp [va_rf]
  | i + 1 => by
    show (Jvm.Free.Multi.outerC c N h0 i).setSlot i (.ref (h0 + 1 + i)) = _
    rw [vr_outer c N h0 i, arrV_store]
    refine congrArg (arrV c N) (funext fun j => ?_)
    by_cases e : j = i
    · subst e
      simp [updV, va_rf]
    · by_cases h : j < i
      · simp [updV, e, h, Nat.lt_succ_of_lt h]
      · simp [updV, e, h, show ¬ j < i + 1 by omega]
section VGM
variable {p : Program} {l : Launch} {e : Env} {R : Room} {s : State} {m : MethodId} {args : Array Value} {below : List Frame} {meth : Method} {c : Code} {H : Heap} {locs : List Loc} {cells slots : Nat} {Q : State → Prop}
variable {cc : ByteArray} {pc : Nat} {ls : Array Slot} {rest : List Value} {D : va_G} {cl : List vw_C} {A : Nat → Prop} {a : Nat} {tys : List (ClassId × FieldType)} {ws : va_W} {H0 : Heap}
theorem va_mna {X : va_W} {L : List Nat} {f : Nat → va_E} {cc : ByteArray} (hexec : p.tables.exec = Jvm.exec) (hb : c.code = cc) {own : String} {index : Nat} {ty : FieldType} {cy : ClassId} (hown : s.vm.findClass own = some m.cls) (hclink : (Cond.classLink own index ("[" ++ (FieldType.array ty).toString)).before args s = true) (hover : va_AOA ty s) (harr : (Cond.arrayClass ty).before args s = true) (hcy : s.vm.findClass (FieldType.array ty).toString = some cy)
    (hK : va_K D cl tys s) (hP : va_P D cl (X ++ va_pl L f) H) (hD : va_D A (X ++ va_pl L f)) (hS : va_S A H0 H locs) (hA : ∀ q, H0.size ≤ q → A q) {n k : Int32} {N' K' : Nat} {z : vp_A} (hn : ¬ n < 0) (hk : ¬ k < 0) (hN : n.toNatClampNeg = N') (hM : k.toNatClampNeg = K')
    (hb1 : N' * 4 ≤ 536870912) (hb2 : K' * componentBytes ty ≤ 536870912) (hb3 : K' ≤ 536870912) (hdf : fits ty (defaultValue ty) = true) (hdd : (defaultValue ty).isDefault = true) (hcells : cells + (1 + N') ≤ R.cells) (hslots : slots + (N' + N' * K') ≤ R.slots) (hz : ∀ c : ClassId, Jvm.Free.Multi.innerC c K' (defaultValue ty) = vp_cell c z) (hdg : decode cc pc = .ok (.multianewarray index 2, 4))
    (kk : ∀ (q : Nat) (r : Nat → Nat) (cA : ClassId) (H1 : Heap), (∀ i j : Nat, i < N' → j < N' → r i = r j → i = j) → (∀ i : Nat, i < N' → r i ∉ L) → va_K D cl (tys ++ [(cA, .array ty)]) s →
      va_P D cl ((X ++ [(q, .inl (cA, N', .inr (.inr (.inr (.inr (fun i => if i < N' then some (r i) else none))))))]) ++ va_pl (L ++ (List.range N').map r) (vr_up f ((List.range N').map r) (.inl (cy, z)))) H1 → va_D A ((X ++ [(q, .inl (cA, N', .inr (.inr (.inr (.inr (fun i => if i < N' then some (r i) else none))))))]) ++ va_pl (L ++ (List.range N').map r) (vr_up f ((List.range N').map r) (.inl (cy, z)))) → va_S A H0 H1 locs →
      W p l e R s m args below meth c H1 locs (cells + 1 + N') (slots + N' + N' * K') Q (F0 m (pc + 4) ls (.ref q :: rest))) : W p l e R s m args below meth c H locs cells slots Q (F0 m pc ls (.int k :: .int n :: rest)) := by
  subst hN
  subst hM
  intro T hT Xs
  obtain ⟨vm₁, cA, comp, -, fA, fC, hO, -, X', step⟩ := Xs.multianewarray2F hexec hown hclink (va_AOA.use hover) harr (g := F0 m pc ls (.int k :: .int n :: rest)) rfl (by rw [hb]; exact hdg) rfl hn hk hb1 hb2 hb3 hdf hdd hcells hslots
  have ec : some cy = some comp := hcy.symm.trans fC
  cases ec
  generalize hF : Jvm.Free.Multi.fill (T.setVm vm₁) cA cy n.toNatClampNeg k.toNatClampNeg (defaultValue ty) n.toNatClampNeg = F at X' step
  have hTh : (T.setVm vm₁).heap = H := hT
  obtain ⟨f1, f2, -, -⟩ := Jvm.Free.Multi.fill_facts (T.setVm vm₁) cA cy n.toNatClampNeg k.toNatClampNeg (defaultValue ty) n.toNatClampNeg
  rw [hF, hTh] at f1 f2
  have hold : ∀ x : Nat, x < H.size → F.heap[x]? = H[x]? := fun x hx => by
    have := Jvm.Free.Multi.fill_old (T.setVm vm₁) cA cy n.toNatClampNeg k.toNatClampNeg (defaultValue ty) (a := x) (by rw [hTh]; exact hx) n.toNatClampNeg
    rw [hF, hTh] at this
    exact this
  have hrow : ∀ j : Nat, j < n.toNatClampNeg → F.heap[H.size + 1 + j]? = some (vp_cell cy z) := fun j hj => by
    have := Jvm.Free.Multi.fill_inner (T.setVm vm₁) cA cy n.toNatClampNeg k.toNatClampNeg (defaultValue ty) n.toNatClampNeg j hj
    rw [hF, hTh, hz] at this
    exact this
  have hout : Jvm.Free.Multi.outerC cA n.toNatClampNeg H.size n.toNatClampNeg = vp_cell cA (n.toNatClampNeg, .inr (.inr (.inr (.inr (fun i => if i < n.toNatClampNeg then some (H.size + 1 + i) else none))))) := by
    rw [vp_cell_q]
    exact vr_outer cA n.toNatClampNeg H.size n.toNatClampNeg
  rw [hout] at f2
  have hlt : ∀ a, a ∈ L → a < H.size := fun a ha => by
    obtain ⟨k9, hk9⟩ := va_pl_get (X := X) (f := f) ha
    exact (hP k9 _ hk9).lt
  have hnl : ∀ i : Nat, i < n.toNatClampNeg → H.size + 1 + i ∉ L := fun i _ h => by
    have := hlt _ h
    omega
  have hnm : ∀ a, a ∈ (List.range n.toNatClampNeg).map (fun i => H.size + 1 + i) → a ∉ L := fun a ha h => by
    obtain ⟨i, -, rfl⟩ := List.mem_map.mp ha
    have := hlt _ h
    omega
  have hP0 : va_P D cl (X ++ va_pl L f) F.heap := hP.kept (fun k9 x hx => hold x.1 ((hP k9 x hx).lt))
  have hP1 : va_P D cl ((X ++ va_pl L f) ++ [(H.size, .inl (cA, n.toNatClampNeg, .inr (.inr (.inr (.inr (fun i => if i < n.toNatClampNeg then some (H.size + 1 + i) else none))))))]) F.heap := hP0.app (fun k9 x hx => by
    have h0 : k9 < 1 := (List.getElem?_eq_some_iff.mp hx).1
    rw [show k9 = 0 by omega] at hx
    cases hx
    exact f2)
  have hP2 : va_P D cl (((X ++ va_pl L f) ++ [(H.size, .inl (cA, n.toNatClampNeg, .inr (.inr (.inr (.inr (fun i => if i < n.toNatClampNeg then some (H.size + 1 + i) else none))))))]) ++ ((List.range n.toNatClampNeg).map (fun i => H.size + 1 + i)).map (fun a => (a, .inl (cy, z)))) F.heap := hP1.app (fun k9 x hx => by
    obtain ⟨a, ha, rfl⟩ := List.mem_map.mp (List.mem_of_getElem? hx)
    obtain ⟨i, hi, rfl⟩ := List.mem_map.mp ha
    exact hrow i (List.mem_range.mp hi))
  have hD2 : va_D A (((X ++ va_pl L f) ++ [(H.size, .inl (cA, n.toNatClampNeg, .inr (.inr (.inr (.inr (fun i => if i < n.toNatClampNeg then some (H.size + 1 + i) else none))))))]) ++ ((List.range n.toNatClampNeg).map (fun i => H.size + 1 + i)).map (fun a => (a, .inl (cy, z)))) := by
    have hD1 := hD.push (e := .inl (cA, n.toNatClampNeg, .inr (.inr (.inr (.inr (fun i => if i < n.toNatClampNeg then some (H.size + 1 + i) else none)))))) hP rfl (hA _ hS.1)
    generalize hW1 : (X ++ va_pl L f) ++ [(H.size, .inl (cA, n.toNatClampNeg, .inr (.inr (.inr (.inr (fun i => if i < n.toNatClampNeg then some (H.size + 1 + i) else none))))))] = W1 at hD1 hP1 ⊢
    have hle : ∀ (k9 : Nat) (x : Nat × va_E), W1[k9]? = some x → x.1 ≤ H.size := fun k9 x hx => by
      rw [← hW1] at hx
      by_cases hl : k9 < (X ++ va_pl L f).length
      · rw [List.getElem?_append_left hl] at hx
        exact Nat.le_of_lt ((hP k9 x hx).lt)
      · rw [List.getElem?_append_right (by omega)] at hx
        have h0 : k9 - (X ++ va_pl L f).length < 1 := (List.getElem?_eq_some_iff.mp hx).1
        rw [show k9 - (X ++ va_pl L f).length = 0 by omega] at hx
        cases hx
        exact Nat.le_refl _
    have hr : ∀ (k9 : Nat) (x : Nat × va_E), (((List.range n.toNatClampNeg).map (fun i => H.size + 1 + i)).map (fun a => ((a, .inl (cy, z)) : Nat × va_E)))[k9]? = some x → x.1 = H.size + 1 + k9 := fun k9 x hx => by
      rw [List.getElem?_map, List.getElem?_map] at hx
      by_cases h9 : k9 < n.toNatClampNeg
      · rw [List.getElem?_range h9] at hx
        cases hx
        rfl
      · have hn0 : (List.range n.toNatClampNeg)[k9]? = none := List.getElem?_eq_none (by rw [List.length_range]; omega)
        rw [hn0] at hx
        cases hx
    refine ⟨fun i j x y hi hj hxy => ?_, fun k9 x hx => ?_⟩
    · by_cases h1 : i < W1.length <;> by_cases h2 : j < W1.length
      · rw [List.getElem?_append_left h1] at hi
        rw [List.getElem?_append_left h2] at hj
        exact hD1.1 i j x y hi hj hxy
      · rw [List.getElem?_append_left h1] at hi
        rw [List.getElem?_append_right (by omega)] at hj
        have := hle _ _ hi
        have := hr _ _ hj
        omega
      · rw [List.getElem?_append_right (by omega)] at hi
        rw [List.getElem?_append_left h2] at hj
        have := hle _ _ hj
        have := hr _ _ hi
        omega
      · rw [List.getElem?_append_right (by omega)] at hi hj
        have := hr _ _ hi
        have := hr _ _ hj
        omega
    · by_cases h1 : k9 < W1.length
      · rw [List.getElem?_append_left h1] at hx
        exact hD1.2 k9 x hx
      · rw [List.getElem?_append_right (by omega)] at hx
        have := hr _ _ hx
        exact hA _ (by have := hS.1; omega)
  have hAr : ArrOfT s cA (.array ty) := fun N9 z9 => by
    obtain ⟨-, k9, hk9, cm9, hkk9⟩ := (hO 0 0 0).1
    exact ⟨(fun q hq => by cases hq), k9, hk9, cm9, hkk9⟩
  have hK2 : va_K D cl (tys ++ [(cA, .array ty)]) s := ⟨hK.1, fun k9 x hx => by
    by_cases hl : k9 < tys.length
    · rw [List.getElem?_append_left hl] at hx
      exact hK.2 k9 x hx
    · rw [List.getElem?_append_right (by omega)] at hx
      have h0 : k9 - tys.length < 1 := (List.getElem?_eq_some_iff.mp hx).1
      rw [show k9 - tys.length = 0 by omega] at hx
      cases hx
      exact ⟨hAr, fA⟩⟩
  obtain ⟨t, a1, b1⟩ := kk H.size (fun i => H.size + 1 + i) cA F.heap (fun i j _ _ h => by have h9 : H.size + 1 + i = H.size + 1 + j := h; omega) hnl hK2 (by rw [← vr_rows hnm]; exact vr_lay hP2) (by rw [← vr_rows hnm]; exact vr_layD hD2) ⟨by rw [f1]; have := hS.1; omega, fun x h1 h2 => (hold x (Nat.lt_of_lt_of_le h1 hS.1)).trans (hS.2.1 x h1 h2), hS.2.2⟩ F rfl X'
  refine ⟨t, step t ?_, b1⟩
  have e : T.heap.size = H.size := by rw [hT]
  rw [e]
  exact a1
end VGM
/-! ===== END ===== -/

theorem arr_known {args : Array Value} {s : State} {ty : FieldType} (h : (Cond.arrayClass ty).before args s = true) : ∃ c : ClassId, s.vm.findClass ("[" ++ ty.toString) = some c ∧ ArrOfT s c ty := by
  obtain ⟨c, k, comp, h1, h2, h3⟩ := Cond.arrayClass_spec h
  exact ⟨c, h1, fun n z => ⟨fun q hq => by cases hq, k, h2, comp, h3⟩⟩
theorem mna_rows {f : Nat → va_E} {r : Nat → Nat} {e : va_E} {n : Nat} : va_pl ([] ++ (List.range n).map r) (vr_up f ((List.range n).map r) e) = (List.range n).map (fun i => (r i, e)) := by
  unfold va_pl
  rw [List.nil_append, List.map_map]
  apply List.map_congr_left
  intro i hi
  show (r i, vr_up f _ e (r i)) = (r i, e)
  rw [vr_up_in (List.mem_map.mpr ⟨i, hi, rfl⟩)]
theorem K_rep {D : va_G} {cl : List vw_C} {tys : List (ClassId × FieldType)} {s : State} {c : ClassId} {ty : FieldType} (hK : va_K D cl tys s) (h1 : ArrOfT s c ty) (h2 : va_RA s c ty) (n : Nat) : va_K D cl (List.replicate n (c, ty)) s := ⟨hK.1, fun k q h => by
  have e := List.eq_of_mem_replicate (List.mem_of_getElem? h)
  rw [e]
  exact ⟨h1, h2⟩⟩
def castW : List Cond := [.castable RX4 "MistHeaps$Heap", .castable RX6 "MistHeaps$Heap", .castable RX1 "MistHeaps$Heap", .castable RX10 "MistHeaps$Heap", .castable RX9 "MistHeaps$Heap", .castable RX7 "MistHeaps$Heap"]
theorem castW_tab : ∀ w ∈ castW, w.onTables = true := by decide +kernel
/-- what the constructors, and a heap's being set, take along -/
def Gc (bS : Nat) (A : Nat → Prop) (U : State) : Prop := va_AO "MistHeaps$Heap" U ∧ va_AOA .long U ∧ va_AOA .int U ∧ (∀ w ∈ castW, va_Nw w U) ∧ va_Z "java/util/ArrayList" "DEFAULTCAPACITY_EMPTY_ELEMENTDATA" "[Ljava/lang/Object;" (.ref bS) A U U.heap
theorem castW_warm {s U : State} (hW : s.WarmedH U.vm) (h : ∀ w ∈ castW, va_Nw w s) : ∀ w ∈ castW, va_Nw w U := by
  have k : ∀ w ∈ castW, ∃ (a b : String), w = .castable a b := by
    intro w hw
    simp only [castW, List.mem_cons, List.not_mem_nil, or_false] at hw
    rcases hw with rfl | rfl | rfl | rfl | rfl | rfl <;> exact ⟨_, _, rfl⟩
  intro w hw
  obtain ⟨a, b, rfl⟩ := k w hw
  exact va_Nw.warmC hW (h _ hw)
theorem Gc.same {bS : Nat} {A : Nat → Prop} {u U : State} (h : Gc bS A u) (hvm : u.vm = U.vm) (hh : U.heap = u.heap) : Gc bS A U := by
  obtain ⟨h1, h2, h3, h4, h5⟩ := h
  have hv : u.vm.Alike U.vm := by rw [hvm]; exact Vm.Alike.refl _
  refine ⟨h1.moved hv, h2.moved hv, h3.moved hv, fun w hw => va_Nw.same (castW_tab w hw) hvm (h4 w hw), ?_⟩
  rw [hh]; exact h5.moved hv
theorem Gc.call {bS : Nat} {A B : Nat → Prop} {s U : State} {H : Heap} {locs : List Loc} (h : Gc bS A s) (hS : va_S A s.heap H locs) (hU : U.heap = H) (hW : s.WarmedH U.vm) (hB : ∀ q, B q → A q) : Gc bS B U := by
  obtain ⟨h1, h2, h3, h4, h5⟩ := h
  refine ⟨h1.moved hW.alike, h2.moved hW.alike, h3.moved hW.alike, castW_warm hW h4, ?_⟩
  rw [hU]; exact ((h5.kept (H1 := H) hS.2.1).moved hW.alike).narrow hB
theorem Gc.castable {bS : Nat} {A : Nat → Prop} {U : State} (h : Gc bS A U) (w : Cond) (hw : w ∈ castW) : va_Nw w U := h.2.2.2.1 w hw

theorem kc_hillInit_0 : (.methodLink RX5 3 objectInit : Cond) ∈ wsX5_init := by decide +kernel
theorem kc_hillInit_1 : (.instanceMethod objectInit : Cond) ∈ wsX5_init := by decide +kernel
theorem kc_hillInit_2 : (.code objectInit ⟨#[0xb1]⟩ 1 none : Cond) ∈ wsX5_init := by decide +kernel
theorem kc_hillInit_3 : ∀ w ∈ wsX50, w ∈ wsX5_init := by decide +kernel
theorem kc_hillInit_4 : (.fieldLink RX5 11 "MistHeaps$Hill" "sight" "I" : Cond) ∈ wsX5_init := by decide +kernel
theorem kc_hillInit_5 : (.arrayClass .int : Cond) ∈ wsX5_init := by decide +kernel
theorem kc_hillInit_6 : (.fieldLink RX5 15 "MistHeaps$Hill" "words" "[I" : Cond) ∈ wsX5_init := by decide +kernel
theorem kc_hillInit_7 : (.fieldLink RX5 19 "MistHeaps$Hill" "amounts" "[I" : Cond) ∈ wsX5_init := by decide +kernel
theorem kc_hillInit_8 : (.fieldLink RX5 22 "MistHeaps$Hill" "ends" "[I" : Cond) ∈ wsX5_init := by decide +kernel
theorem kc_hillInit_9 : (.fieldLink RX5 25 "MistHeaps$Hill" "codes" "[I" : Cond) ∈ wsX5_init := by decide +kernel
set_option maxHeartbeats 4000000 in
set_option maxRecDepth 100000 in
theorem c_hillInit (l : Launch) (dC : Nat → ClassId) (dI : Nat → Nat → Nat) (a0 : Nat) (sz : Nat) : Met l yX5_init wsX5_init ({ frames := 1, cells := 4, slots := 130, locals := 12 } : Room) (va_Pc [.ref a0] (fun U => U.heap.size = sz ∧ va_P (dC, dI) vwCl [(a0, .inr (7, [.int 0, .int 0, .null, .null, .null, .null, .int 0, .null, .int 0, .int 0, .int 0]))] U.heap ∧ va_K (dC, dI) vwCl [] U ∧ va_D (fun _ => True) [(a0, .inr (7, [.int 0, .int 0, .null, .null, .null, .null, .int 0, .null, .int 0, .int 0, .int 0]))])) (va_Qv (fun (u : Unit) => match u with | () => True) (fun (u : Unit) (t : State) => match u with | () => ∃ bW : Nat, ∃ bA : Nat, ∃ bE : Nat, ∃ bC : Nat, va_P (dC, dI) vwCl [(a0, .inr (7, [.int 3, .int 0, .ref bW, .ref bA, .ref bE, .ref bC, .int 0, .null, .int 0, .int 0, .int 0]))] t.heap ∧ va_K (dC, dI) vwCl [] t ∧ va_D (va_A [(a0, .inr (7, [.int 0, .int 0, .null, .null, .null, .null, .int 0, .null, .int 0, .int 0, .int 0]))] sz) [(a0, .inr (7, [.int 3, .int 0, .ref bW, .ref bA, .ref bE, .ref bC, .int 0, .null, .int 0, .int 0, .int 0]))]) (va_A [(a0, .inr (7, [.int 0, .int 0, .null, .null, .null, .null, .int 0, .null, .int 0, .int 0, .int 0]))] sz)) 4 130 (va_A [(a0, .inr (7, [.int 0, .int 0, .null, .null, .null, .null, .int 0, .null, .int 0, .int 0, .int 0]))] sz) := by
  refine met_ofQ (cc := cX5_init) (maxL := 1) (ret := none) (by decide) rfl ?_
  intro p e s m args below meth c s₁ Q B hml hv hQ
  obtain ⟨rfl, hsz, hP, hK, hD0⟩ := hv
  have hx := B.exec
  have hb := B.bytes
  have hr := B.returns
  have hts := atoms_spec (ws := wsX5_init) B.pre
  have hown : s.vm.findClass RX5 = some m.cls := findClass_of_methodNamed B.named
  have hlocks := B.notSynchronized
  have hin : meth.name = "<init>" := (name_of_methodNamed B.named B.method).1
  subst hsz
  have hD := hD0.self (sz := s.heap.size)
  generalize hAe : va_A [(a0, .inr (7, [.int 0, .int 0, .null, .null, .null, .null, .int 0, .null, .int 0, .int 0, .int 0]))] s.heap.size = A at hD hQ ⊢
  have hA : ∀ q : Nat, s.heap.size ≤ q → A q := fun q h => by rw [← hAe]; exact Or.inr h
  have hS : va_S A s.heap s.heap [] := va_S.rf
  have hl := lv_entry [.ref a0] (n := 1) (Nat.le_of_ble_eq_true rfl)
  rw [lg_entry_eq]
  generalize (lg_sl [.ref a0] ++ List.replicate (1 - (lg_sl [.ref a0]).length) Slot.unset).toArray = ls at hl ⊢
  generalize hag : ([.ref a0] : List Value).toArray = args at hts hQ ⊢
  have hl : lv_has ls 1 [(0, .ref a0)] := hl
  obtain ⟨H, hH⟩ : ∃ H : Heap, H = s.heap := ⟨_, rfl⟩
  rw [← hH] at hP
  rw [← hH]
  have hS : va_S A s.heap H [] := by rw [hH]; exact hS
  obtain ⟨locs, hlo⟩ : ∃ L : List Loc, L = [] := ⟨_, rfl⟩
  rw [← hlo] at hS
  rw [← hlo]
  clear hH hlo
  refine lv_aload_n hx hb dX5_init_0 rfl (lv_at hl 0 rfl) ?_
  refine W.objInit hx hb hown (hts (.methodLink RX5 3 objectInit) kc_hillInit_0) (hts (.instanceMethod objectInit) kc_hillInit_1) (hts (.code objectInit ⟨#[0xb1]⟩ 1 none) kc_hillInit_2) rfl (by rw [hml]; exact hl.1) rfl dX5_init_1 (Nat.le_of_ble_eq_true rfl) (Nat.le_of_ble_eq_true rfl) ?_
  refine W.eq (g2 := F0 m 4 ls []) rfl ?_
  refine lv_aload_n hx hb dX5_init_4 rfl (lv_at hl 0 rfl) ?_
  refine lv_iconst (v := 3) hx hb dX5_init_5 (by decide) ?_
  refine va_put (D := (dC, dI)) (ci := 7) (v := .int 3) (ty := .int) (C := RX5) (T := TX5) (N := 11) hx hb hts kc_hillInit_3 tyX5 tyX5_ok nmX5 hown hK hP hD hS 0 rfl rfl 0 (by decide) (hts (.fieldLink RX5 11 "MistHeaps$Hill" "sight" "I") kc_hillInit_4) (fun _ h9 => h9) rfl (by decide +kernel) rfl rfl (Nat.le_of_ble_eq_true rfl) dX5_init_6 (fun H locs hP hD hS => ?_)
  have hP : va_P (dC, dI) vwCl [(a0, .inr (7, [.int 3, .int 0, .null, .null, .null, .null, .int 0, .null, .int 0, .int 0, .int 0]))] H := hP
  have hD : va_D A [(a0, .inr (7, [.int 3, .int 0, .null, .null, .null, .null, .int 0, .null, .int 0, .int 0, .int 0]))] := hD
  refine lv_aload_n hx hb dX5_init_9 rfl (lv_at hl 0 rfl) ?_
  refine lv_bipush (v := 10) hx hb dX5_init_10 (by decide) ?_
  refine va_newa (ty := .int) (N' := 10) (a0 := (10, .inl (fun _ => 0))) hx hb (hts (.arrayClass .int) kc_hillInit_5) rfl hK hP hD hS hA (fun _ => rfl) (by decide) (by decide) (by decide) (Nat.le_of_ble_eq_true rfl) (Nat.le_of_ble_eq_true rfl) dX5_init_12 (fun q_1 ca_2 H hK hP hD hS => ?_)
  have hP : va_P (dC, dI) vwCl [(a0, .inr (7, [.int 3, .int 0, .null, .null, .null, .null, .int 0, .null, .int 0, .int 0, .int 0])), (q_1, .inl (ca_2, 10, .inl (fun _ => 0)))] H := hP
  have hD : va_D A [(a0, .inr (7, [.int 3, .int 0, .null, .null, .null, .null, .int 0, .null, .int 0, .int 0, .int 0])), (q_1, .inl (ca_2, 10, .inl (fun _ => 0)))] := hD
  have hK : va_K (dC, dI) vwCl [(ca_2, .int)] s := hK
  refine W.widen (k := 1) (n := 10) (by omega) (by omega) ?_
  refine va_putF (D := (dC, dI)) (ci := 7) (v := .ref q_1) (ty := .array .int) (C := RX5) (T := TX5) (N := 11) hx hb hts kc_hillInit_3 tyX5 tyX5_ok nmX5 hown hK hP hD hS 0 rfl rfl 2 (by decide) (hts (.fieldLink RX5 15 "MistHeaps$Hill" "words" "[I") kc_hillInit_6) (fun _ h9 => h9) rfl hin rfl (by decide +kernel) rfl rfl (Nat.le_of_ble_eq_true rfl) dX5_init_14 (fun H locs hP hD hS => ?_)
  have hP : va_P (dC, dI) vwCl [(a0, .inr (7, [.int 3, .int 0, .ref q_1, .null, .null, .null, .int 0, .null, .int 0, .int 0, .int 0])), (q_1, .inl (ca_2, 10, .inl (fun _ => 0)))] H := hP
  have hD : va_D A [(a0, .inr (7, [.int 3, .int 0, .ref q_1, .null, .null, .null, .int 0, .null, .int 0, .int 0, .int 0])), (q_1, .inl (ca_2, 10, .inl (fun _ => 0)))] := hD
  refine lv_aload_n hx hb dX5_init_17 rfl (lv_at hl 0 rfl) ?_
  refine lv_bipush (v := 10) hx hb dX5_init_18 (by decide) ?_
  refine va_newa (ty := .int) (N' := 10) (a0 := (10, .inl (fun _ => 0))) hx hb (hts (.arrayClass .int) kc_hillInit_5) rfl hK hP hD hS hA (fun _ => rfl) (by decide) (by decide) (by decide) (Nat.le_of_ble_eq_true rfl) (Nat.le_of_ble_eq_true rfl) dX5_init_20 (fun q_3 ca_4 H hK hP hD hS => ?_)
  have hP : va_P (dC, dI) vwCl [(a0, .inr (7, [.int 3, .int 0, .ref q_1, .null, .null, .null, .int 0, .null, .int 0, .int 0, .int 0])), (q_1, .inl (ca_2, 10, .inl (fun _ => 0))), (q_3, .inl (ca_4, 10, .inl (fun _ => 0)))] H := hP
  have hD : va_D A [(a0, .inr (7, [.int 3, .int 0, .ref q_1, .null, .null, .null, .int 0, .null, .int 0, .int 0, .int 0])), (q_1, .inl (ca_2, 10, .inl (fun _ => 0))), (q_3, .inl (ca_4, 10, .inl (fun _ => 0)))] := hD
  have hK : va_K (dC, dI) vwCl [(ca_2, .int), (ca_4, .int)] s := hK
  refine W.widen (k := 2) (n := 20) (by omega) (by omega) ?_
  refine va_putF (D := (dC, dI)) (ci := 7) (v := .ref q_3) (ty := .array .int) (C := RX5) (T := TX5) (N := 11) hx hb hts kc_hillInit_3 tyX5 tyX5_ok nmX5 hown hK hP hD hS 0 rfl rfl 3 (by decide) (hts (.fieldLink RX5 19 "MistHeaps$Hill" "amounts" "[I") kc_hillInit_7) (fun _ h9 => h9) rfl hin rfl (by decide +kernel) rfl rfl (Nat.le_of_ble_eq_true rfl) dX5_init_22 (fun H locs hP hD hS => ?_)
  have hP : va_P (dC, dI) vwCl [(a0, .inr (7, [.int 3, .int 0, .ref q_1, .ref q_3, .null, .null, .int 0, .null, .int 0, .int 0, .int 0])), (q_1, .inl (ca_2, 10, .inl (fun _ => 0))), (q_3, .inl (ca_4, 10, .inl (fun _ => 0)))] H := hP
  have hD : va_D A [(a0, .inr (7, [.int 3, .int 0, .ref q_1, .ref q_3, .null, .null, .int 0, .null, .int 0, .int 0, .int 0])), (q_1, .inl (ca_2, 10, .inl (fun _ => 0))), (q_3, .inl (ca_4, 10, .inl (fun _ => 0)))] := hD
  refine lv_aload_n hx hb dX5_init_25 rfl (lv_at hl 0 rfl) ?_
  refine lv_bipush (v := 10) hx hb dX5_init_26 (by decide) ?_
  refine va_newa (ty := .int) (N' := 10) (a0 := (10, .inl (fun _ => 0))) hx hb (hts (.arrayClass .int) kc_hillInit_5) rfl hK hP hD hS hA (fun _ => rfl) (by decide) (by decide) (by decide) (Nat.le_of_ble_eq_true rfl) (Nat.le_of_ble_eq_true rfl) dX5_init_28 (fun q_5 ca_6 H hK hP hD hS => ?_)
  have hP : va_P (dC, dI) vwCl [(a0, .inr (7, [.int 3, .int 0, .ref q_1, .ref q_3, .null, .null, .int 0, .null, .int 0, .int 0, .int 0])), (q_1, .inl (ca_2, 10, .inl (fun _ => 0))), (q_3, .inl (ca_4, 10, .inl (fun _ => 0))), (q_5, .inl (ca_6, 10, .inl (fun _ => 0)))] H := hP
  have hD : va_D A [(a0, .inr (7, [.int 3, .int 0, .ref q_1, .ref q_3, .null, .null, .int 0, .null, .int 0, .int 0, .int 0])), (q_1, .inl (ca_2, 10, .inl (fun _ => 0))), (q_3, .inl (ca_4, 10, .inl (fun _ => 0))), (q_5, .inl (ca_6, 10, .inl (fun _ => 0)))] := hD
  have hK : va_K (dC, dI) vwCl [(ca_2, .int), (ca_4, .int), (ca_6, .int)] s := hK
  refine W.widen (k := 3) (n := 30) (by omega) (by omega) ?_
  refine va_putF (D := (dC, dI)) (ci := 7) (v := .ref q_5) (ty := .array .int) (C := RX5) (T := TX5) (N := 11) hx hb hts kc_hillInit_3 tyX5 tyX5_ok nmX5 hown hK hP hD hS 0 rfl rfl 4 (by decide) (hts (.fieldLink RX5 22 "MistHeaps$Hill" "ends" "[I") kc_hillInit_8) (fun _ h9 => h9) rfl hin rfl (by decide +kernel) rfl rfl (Nat.le_of_ble_eq_true rfl) dX5_init_30 (fun H locs hP hD hS => ?_)
  have hP : va_P (dC, dI) vwCl [(a0, .inr (7, [.int 3, .int 0, .ref q_1, .ref q_3, .ref q_5, .null, .int 0, .null, .int 0, .int 0, .int 0])), (q_1, .inl (ca_2, 10, .inl (fun _ => 0))), (q_3, .inl (ca_4, 10, .inl (fun _ => 0))), (q_5, .inl (ca_6, 10, .inl (fun _ => 0)))] H := hP
  have hD : va_D A [(a0, .inr (7, [.int 3, .int 0, .ref q_1, .ref q_3, .ref q_5, .null, .int 0, .null, .int 0, .int 0, .int 0])), (q_1, .inl (ca_2, 10, .inl (fun _ => 0))), (q_3, .inl (ca_4, 10, .inl (fun _ => 0))), (q_5, .inl (ca_6, 10, .inl (fun _ => 0)))] := hD
  refine lv_aload_n hx hb dX5_init_33 rfl (lv_at hl 0 rfl) ?_
  refine lv_bipush (v := 100) hx hb dX5_init_34 (by decide) ?_
  refine va_newa (ty := .int) (N' := 100) (a0 := (100, .inl (fun _ => 0))) hx hb (hts (.arrayClass .int) kc_hillInit_5) rfl hK hP hD hS hA (fun _ => rfl) (by decide) (by decide) (by decide) (Nat.le_of_ble_eq_true rfl) (Nat.le_of_ble_eq_true rfl) dX5_init_36 (fun q_7 ca_8 H hK hP hD hS => ?_)
  have hP : va_P (dC, dI) vwCl [(a0, .inr (7, [.int 3, .int 0, .ref q_1, .ref q_3, .ref q_5, .null, .int 0, .null, .int 0, .int 0, .int 0])), (q_1, .inl (ca_2, 10, .inl (fun _ => 0))), (q_3, .inl (ca_4, 10, .inl (fun _ => 0))), (q_5, .inl (ca_6, 10, .inl (fun _ => 0))), (q_7, .inl (ca_8, 100, .inl (fun _ => 0)))] H := hP
  have hD : va_D A [(a0, .inr (7, [.int 3, .int 0, .ref q_1, .ref q_3, .ref q_5, .null, .int 0, .null, .int 0, .int 0, .int 0])), (q_1, .inl (ca_2, 10, .inl (fun _ => 0))), (q_3, .inl (ca_4, 10, .inl (fun _ => 0))), (q_5, .inl (ca_6, 10, .inl (fun _ => 0))), (q_7, .inl (ca_8, 100, .inl (fun _ => 0)))] := hD
  have hK : va_K (dC, dI) vwCl [(ca_2, .int), (ca_4, .int), (ca_6, .int), (ca_8, .int)] s := hK
  refine W.widen (k := 4) (n := 130) (by omega) (by omega) ?_
  refine va_putF (D := (dC, dI)) (ci := 7) (v := .ref q_7) (ty := .array .int) (C := RX5) (T := TX5) (N := 11) hx hb hts kc_hillInit_3 tyX5 tyX5_ok nmX5 hown hK hP hD hS 0 rfl rfl 5 (by decide) (hts (.fieldLink RX5 25 "MistHeaps$Hill" "codes" "[I") kc_hillInit_9) (fun _ h9 => h9) rfl hin rfl (by decide +kernel) rfl rfl (Nat.le_of_ble_eq_true rfl) dX5_init_38 (fun H locs hP hD hS => ?_)
  have hP : va_P (dC, dI) vwCl [(a0, .inr (7, [.int 3, .int 0, .ref q_1, .ref q_3, .ref q_5, .ref q_7, .int 0, .null, .int 0, .int 0, .int 0])), (q_1, .inl (ca_2, 10, .inl (fun _ => 0))), (q_3, .inl (ca_4, 10, .inl (fun _ => 0))), (q_5, .inl (ca_6, 10, .inl (fun _ => 0))), (q_7, .inl (ca_8, 100, .inl (fun _ => 0)))] H := hP
  have hD : va_D A [(a0, .inr (7, [.int 3, .int 0, .ref q_1, .ref q_3, .ref q_5, .ref q_7, .int 0, .null, .int 0, .int 0, .int 0])), (q_1, .inl (ca_2, 10, .inl (fun _ => 0))), (q_3, .inl (ca_4, 10, .inl (fun _ => 0))), (q_5, .inl (ca_6, 10, .inl (fun _ => 0))), (q_7, .inl (ca_8, 100, .inl (fun _ => 0)))] := hD
  rw [hQ]
  have hP9 := hP.sub (ws' := [(a0, .inr (7, [.int 3, .int 0, .ref q_1, .ref q_3, .ref q_5, .ref q_7, .int 0, .null, .int 0, .int 0, .int 0]))]) [0] rfl
  have hD9 := hD.sub (ws' := [(a0, .inr (7, [.int 3, .int 0, .ref q_1, .ref q_3, .ref q_5, .ref q_7, .int 0, .null, .int 0, .int 0, .int 0]))]) [0] (by decide) rfl
  have hK9 := hK.sub (tys' := []) [] rfl
  exact W.vret hx hb hr (fun tQ htQ hWQ => ⟨⟨(), rfl, trivial, q_1, q_3, q_5, q_7, by rw [htQ]; exact hP9, va_K.moved hWQ.alike hK9, hD9⟩, hS.F htQ⟩) hS.2.2 dX5_init_41

theorem kc_sceneInit_0 : (.methodLink RX8 3 objectInit : Cond) ∈ wsX8_init := by decide +kernel
theorem kc_sceneInit_1 : (.instanceMethod objectInit : Cond) ∈ wsX8_init := by decide +kernel
theorem kc_sceneInit_2 : (.code objectInit ⟨#[0xb1]⟩ 1 none : Cond) ∈ wsX8_init := by decide +kernel
theorem kc_sceneInit_3 : (.arrayClass .int : Cond) ∈ wsX8_init := by decide +kernel
theorem kc_sceneInit_4 : ∀ w ∈ wsX80, w ∈ wsX8_init := by decide +kernel
theorem kc_sceneInit_5 : (.fieldLink RX8 9 "MistHeaps$Scene" "tape" "[I" : Cond) ∈ wsX8_init := by decide +kernel
theorem kc_sceneInit_6 : ∀ w ∈ wsX50, w ∈ wsX8_init := by decide +kernel
theorem kc_sceneInit_7 : (.classLink RX8 15 RX5 : Cond) ∈ wsX8_init := by decide +kernel
theorem kc_sceneInit_8 : (.instantiable RX5 11 : Cond) ∈ wsX8_init := by decide +kernel
theorem kc_sceneInit_9 : (.initialized RX5 : Cond) ∈ wsX8_init := by decide +kernel
theorem kc_sceneInit_10 : (.methodLink RX8 17 yX5_init : Cond) ∈ wsX8_init := by decide +kernel
theorem kc_sceneInit_11 : (.instanceMethod yX5_init : Cond) ∈ wsX8_init := by decide +kernel
theorem kc_sceneInit_12 : (.fieldLink RX8 18 "MistHeaps$Scene" "hill" "LMistHeaps$Hill;" : Cond) ∈ wsX8_init := by decide +kernel
theorem kc_sceneInit_13 : (.classLink RX8 22 RX3 : Cond) ∈ wsX8_init := by decide +kernel
theorem kc_sceneInit_14 : (.fieldLink RX8 24 "MistHeaps$Scene" "heaps" "[LMistHeaps$Heap;" : Cond) ∈ wsX8_init := by decide +kernel
theorem kc_sceneInit_15 : (.fieldLink RX8 28 "MistHeaps$Scene" "walk" "[I" : Cond) ∈ wsX8_init := by decide +kernel
theorem kc_sceneInit_16 : (.fieldLink RX8 31 "MistHeaps$Scene" "book" "[I" : Cond) ∈ wsX8_init := by decide +kernel
theorem kc_sceneInit_17 : (.fieldLink RX8 34 "MistHeaps$Scene" "facts" "[I" : Cond) ∈ wsX8_init := by decide +kernel
set_option maxHeartbeats 4000000 in
set_option maxRecDepth 100000 in
theorem c_sceneInit (l : Launch) (dC : Nat → ClassId) (dI : Nat → Nat → Nat) (bS : Nat) (a0 : Nat) (sz : Nat) : Met l yX8_init wsX8_init ({ frames := 2, cells := 10, slots := 273, locals := 32 } : Room) (va_Pc [.ref a0] (fun U => U.heap.size = sz ∧ va_P (dC, dI) vwCl [(a0, .inr (10, [.null, .int 0, .null, .int 0, .long 0, .int 0, .int 0, .null, .int 0, .null, .int 0, .null, .int 0, .null]))] U.heap ∧ va_K (dC, dI) vwCl [] U ∧ va_D (fun _ => True) [(a0, .inr (10, [.null, .int 0, .null, .int 0, .long 0, .int 0, .int 0, .null, .int 0, .null, .int 0, .null, .int 0, .null]))] ∧ Gc bS (va_A [(a0, .inr (10, [.null, .int 0, .null, .int 0, .long 0, .int 0, .int 0, .null, .int 0, .null, .int 0, .null, .int 0, .null]))] sz) U)) (va_Qv (fun (u : Unit) => match u with | () => True) (fun (u : Unit) (t : State) => match u with | () => ∃ aTp : Nat, ∃ cTp : ClassId, ∃ aHl : Nat, ∃ bW : Nat, ∃ bA : Nat, ∃ bE : Nat, ∃ bC : Nat, ∃ aHs : Nat, ∃ cHs : ClassId, ∃ aWk : Nat, ∃ cWk : ClassId, ∃ aBk : Nat, ∃ cBk : ClassId, ∃ aFc : Nat, ∃ cFc : ClassId, va_P (dC, dI) vwCl [(a0, .inr (10, [.ref aTp, .int 0, .ref aHl, .int 0, .long 0, .int 0, .int 0, .ref aHs, .int 0, .ref aWk, .int 0, .ref aBk, .int 0, .ref aFc])), (aTp, .inl (cTp, 100, .inl (fun _ => 0))), (aHl, .inr (7, [.int 3, .int 0, .ref bW, .ref bA, .ref bE, .ref bC, .int 0, .null, .int 0, .int 0, .int 0])), (aHs, .inl (cHs, 8, .inr (.inr (.inr (.inr (fun _ => none)))))), (aWk, .inl (cWk, 6, .inl (fun _ => 0))), (aBk, .inl (cBk, 12, .inl (fun _ => 0))), (aFc, .inl (cFc, 6, .inl (fun _ => 0)))] t.heap ∧ va_K (dC, dI) vwCl [(cTp, .int), (cHs, .object "MistHeaps$Heap"), (cWk, .int), (cBk, .int), (cFc, .int)] t ∧ va_D (va_A [(a0, .inr (10, [.null, .int 0, .null, .int 0, .long 0, .int 0, .int 0, .null, .int 0, .null, .int 0, .null, .int 0, .null]))] sz) [(a0, .inr (10, [.ref aTp, .int 0, .ref aHl, .int 0, .long 0, .int 0, .int 0, .ref aHs, .int 0, .ref aWk, .int 0, .ref aBk, .int 0, .ref aFc])), (aTp, .inl (cTp, 100, .inl (fun _ => 0))), (aHl, .inr (7, [.int 3, .int 0, .ref bW, .ref bA, .ref bE, .ref bC, .int 0, .null, .int 0, .int 0, .int 0])), (aHs, .inl (cHs, 8, .inr (.inr (.inr (.inr (fun _ => none)))))), (aWk, .inl (cWk, 6, .inl (fun _ => 0))), (aBk, .inl (cBk, 12, .inl (fun _ => 0))), (aFc, .inl (cFc, 6, .inl (fun _ => 0)))]) (va_A [(a0, .inr (10, [.null, .int 0, .null, .int 0, .long 0, .int 0, .int 0, .null, .int 0, .null, .int 0, .null, .int 0, .null]))] sz)) 10 273 (va_A [(a0, .inr (10, [.null, .int 0, .null, .int 0, .long 0, .int 0, .int 0, .null, .int 0, .null, .int 0, .null, .int 0, .null]))] sz) := by
  refine met_ofQ (cc := cX8_init) (maxL := 1) (ret := none) (by decide) rfl ?_
  intro p e s m args below meth c s₁ Q B hml hv hQ
  obtain ⟨rfl, hsz, hP, hK, hD0, hC⟩ := hv
  have hx := B.exec
  have hb := B.bytes
  have hr := B.returns
  have hts := atoms_spec (ws := wsX8_init) B.pre
  have hown : s.vm.findClass RX8 = some m.cls := findClass_of_methodNamed B.named
  have hlocks := B.notSynchronized
  have hin : meth.name = "<init>" := (name_of_methodNamed B.named B.method).1
  subst hsz
  have hD := hD0.self (sz := s.heap.size)
  generalize hAe : va_A [(a0, .inr (10, [.null, .int 0, .null, .int 0, .long 0, .int 0, .int 0, .null, .int 0, .null, .int 0, .null, .int 0, .null]))] s.heap.size = A at hD hQ hC ⊢
  have hA : ∀ q : Nat, s.heap.size ≤ q → A q := fun q h => by rw [← hAe]; exact Or.inr h
  have hS : va_S A s.heap s.heap [] := va_S.rf
  have hl := lv_entry [.ref a0] (n := 1) (Nat.le_of_ble_eq_true rfl)
  rw [lg_entry_eq]
  generalize (lg_sl [.ref a0] ++ List.replicate (1 - (lg_sl [.ref a0]).length) Slot.unset).toArray = ls at hl ⊢
  generalize hag : ([.ref a0] : List Value).toArray = args at hts hQ ⊢
  have hl : lv_has ls 1 [(0, .ref a0)] := hl
  obtain ⟨H, hH⟩ : ∃ H : Heap, H = s.heap := ⟨_, rfl⟩
  rw [← hH] at hP
  rw [← hH]
  have hS : va_S A s.heap H [] := by rw [hH]; exact hS
  obtain ⟨locs, hlo⟩ : ∃ L : List Loc, L = [] := ⟨_, rfl⟩
  rw [← hlo] at hS
  rw [← hlo]
  clear hH hlo
  refine lv_aload_n hx hb dX8_init_0 rfl (lv_at hl 0 rfl) ?_
  refine W.objInit hx hb hown (hts (.methodLink RX8 3 objectInit) kc_sceneInit_0) (hts (.instanceMethod objectInit) kc_sceneInit_1) (hts (.code objectInit ⟨#[0xb1]⟩ 1 none) kc_sceneInit_2) rfl (by rw [hml]; exact hl.1) rfl dX8_init_1 (Nat.le_of_ble_eq_true rfl) (Nat.le_of_ble_eq_true rfl) ?_
  refine W.eq (g2 := F0 m 4 ls []) rfl ?_
  refine lv_aload_n hx hb dX8_init_4 rfl (lv_at hl 0 rfl) ?_
  refine lv_bipush (v := 100) hx hb dX8_init_5 (by decide) ?_
  refine va_newa (ty := .int) (N' := 100) (a0 := (100, .inl (fun _ => 0))) hx hb (hts (.arrayClass .int) kc_sceneInit_3) rfl hK hP hD hS hA (fun _ => rfl) (by decide) (by decide) (by decide) (Nat.le_of_ble_eq_true rfl) (Nat.le_of_ble_eq_true rfl) dX8_init_7 (fun q_1 ca_2 H hK hP hD hS => ?_)
  have hP : va_P (dC, dI) vwCl [(a0, .inr (10, [.null, .int 0, .null, .int 0, .long 0, .int 0, .int 0, .null, .int 0, .null, .int 0, .null, .int 0, .null])), (q_1, .inl (ca_2, 100, .inl (fun _ => 0)))] H := hP
  have hD : va_D A [(a0, .inr (10, [.null, .int 0, .null, .int 0, .long 0, .int 0, .int 0, .null, .int 0, .null, .int 0, .null, .int 0, .null])), (q_1, .inl (ca_2, 100, .inl (fun _ => 0)))] := hD
  have hK : va_K (dC, dI) vwCl [(ca_2, .int)] s := hK
  refine W.widen (k := 1) (n := 100) (by omega) (by omega) ?_
  refine va_putF (D := (dC, dI)) (ci := 10) (v := .ref q_1) (ty := .array .int) (C := RX8) (T := TX8) (N := 14) hx hb hts kc_sceneInit_4 tyX8 tyX8_ok nmX8 hown hK hP hD hS 0 rfl rfl 0 (by decide) (hts (.fieldLink RX8 9 "MistHeaps$Scene" "tape" "[I") kc_sceneInit_5) (fun _ h9 => h9) rfl hin rfl (by decide +kernel) rfl rfl (Nat.le_of_ble_eq_true rfl) dX8_init_9 (fun H locs hP hD hS => ?_)
  have hP : va_P (dC, dI) vwCl [(a0, .inr (10, [.ref q_1, .int 0, .null, .int 0, .long 0, .int 0, .int 0, .null, .int 0, .null, .int 0, .null, .int 0, .null])), (q_1, .inl (ca_2, 100, .inl (fun _ => 0)))] H := hP
  have hD : va_D A [(a0, .inr (10, [.ref q_1, .int 0, .null, .int 0, .long 0, .int 0, .int 0, .null, .int 0, .null, .int 0, .null, .int 0, .null])), (q_1, .inl (ca_2, 100, .inl (fun _ => 0)))] := hD
  refine lv_aload_n hx hb dX8_init_12 rfl (lv_at hl 0 rfl) ?_
  refine va_new (ci := 7) (fs := [.int 0, .int 0, .null, .null, .null, .null, .int 0, .null, .int 0, .int 0, .int 0]) (C := RX5) (T := TX5) (N := 11) hx hb hts kc_sceneInit_6 tyX5 tyX5_ok hown (hts (.classLink RX8 15 RX5) kc_sceneInit_7) (hts (.instantiable RX5 11) kc_sceneInit_8) (hts (.initialized RX5) kc_sceneInit_9) hK hP hD hS hA rfl (fun j hj => by rcases (show j = 0 ∨ j = 1 ∨ j = 2 ∨ j = 3 ∨ j = 4 ∨ j = 5 ∨ j = 6 ∨ j = 7 ∨ j = 8 ∨ j = 9 ∨ j = 10 by omega) with rfl | rfl | rfl | rfl | rfl | rfl | rfl | rfl | rfl | rfl | rfl <;> rfl) (Nat.le_of_ble_eq_true rfl) (Nat.le_of_ble_eq_true rfl) dX8_init_13 (fun q_3 H hP hD hS => ?_)
  have hP : va_P (dC, dI) vwCl [(a0, .inr (10, [.ref q_1, .int 0, .null, .int 0, .long 0, .int 0, .int 0, .null, .int 0, .null, .int 0, .null, .int 0, .null])), (q_1, .inl (ca_2, 100, .inl (fun _ => 0))), (q_3, .inr (7, [.int 0, .int 0, .null, .null, .null, .null, .int 0, .null, .int 0, .int 0, .int 0]))] H := hP
  have hD : va_D A [(a0, .inr (10, [.ref q_1, .int 0, .null, .int 0, .long 0, .int 0, .int 0, .null, .int 0, .null, .int 0, .null, .int 0, .null])), (q_1, .inl (ca_2, 100, .inl (fun _ => 0))), (q_3, .inr (7, [.int 0, .int 0, .null, .null, .null, .null, .int 0, .null, .int 0, .int 0, .int 0]))] := hD
  refine W.widen (k := 2) (n := 111) (by omega) (by omega) ?_
  refine lv_dup hx hb dX8_init_16 rfl ?_
  have hPc := hP.sub (ws' := [(q_3, .inr (7, [.int 0, .int 0, .null, .null, .null, .null, .int 0, .null, .int 0, .int 0, .int 0]))]) [2] rfl
  have hDc := hD.sub (ws' := [(q_3, .inr (7, [.int 0, .int 0, .null, .null, .null, .null, .int 0, .null, .int 0, .int 0, .int 0]))]) [2] (by decide) rfl
  have hKc := hK.sub (tys' := []) [] rfl
  have hFc := va_free (wc := [(q_3, .inr (7, [.int 0, .int 0, .null, .null, .null, .null, .int 0, .null, .int 0, .int 0, .int 0]))]) hD hS hA [2] rfl
  refine va_callv (va_runI (As := []) (rest := [.ref q_3, .ref a0]) ⟨hx, hb, hml, hown, hts⟩ (c_hillInit l dC dI q_3 H.size) (cwI 0 hts ggX8_init_X5_init rfl rfl rfl (hts (.initialized RX5) kc_sceneInit_9) (hts (.methodLink RX8 17 yX5_init) kc_sceneInit_10) (hts (.instanceMethod yX5_init) kc_sceneInit_11) rfl (by decide +kernel) ⟨Nat.le_of_ble_eq_true rfl, Nat.le_of_ble_eq_true rfl⟩) ⟨fun a U g mk q => by obtain ⟨q0, q1, qP, qK, qD⟩ := q; exact ⟨q0, q1, qP, va_K.moved (u := U) (U := U.calling g mk a) (Vm.Alike.refl U.vm) qK, qD⟩, fun U hU hW => ⟨rfl, by rw [hU], by rw [hU]; exact hPc, va_K.moved hW.alike hKc, hDc.weaken (fun _ _ _ _ => trivial)⟩⟩ rfl rfl hl.1 rfl (lv_room (Nat.le_of_ble_eq_true rfl)) dX8_init_17 ⟨Nat.le_of_ble_eq_true rfl, Nat.le_of_ble_eq_true rfl⟩) hS (fun q _ h => hFc q h) hFc (fun u tC H1 locs htC hvm hw_5 hB hz1 hk1 hS => ?_)
  obtain ⟨⟩ := u
  try dsimp only at hw_5 hB
  obtain ⟨bW_6, bA_7, bE_8, bC_9, hP1, hK1, hD1⟩ := hB
  rw [htC] at hP1
  have hK1 := va_K.moved hvm.symm hK1
  obtain ⟨hP, hD⟩ := va_join (wr := [(a0, .inr (10, [.ref q_1, .int 0, .null, .int 0, .long 0, .int 0, .int 0, .null, .int 0, .null, .int 0, .null, .int 0, .null])), (q_1, .inl (ca_2, 100, .inl (fun _ => 0)))]) (w1 := [(q_3, .inr (7, [.int 3, .int 0, .ref bW_6, .ref bA_7, .ref bE_8, .ref bC_9, .int 0, .null, .int 0, .int 0, .int 0]))]) hP hD [2] [0, 1] rfl rfl (by decide) (by decide) hk1 hFc hP1 hD1
  have hK := (hK.sub (tys' := [(ca_2, .int)]) [0] rfl).app hK1
  generalize H1 = H at hP hS ⊢
  have hP : va_P (dC, dI) vwCl [(a0, .inr (10, [.ref q_1, .int 0, .null, .int 0, .long 0, .int 0, .int 0, .null, .int 0, .null, .int 0, .null, .int 0, .null])), (q_1, .inl (ca_2, 100, .inl (fun _ => 0))), (q_3, .inr (7, [.int 3, .int 0, .ref bW_6, .ref bA_7, .ref bE_8, .ref bC_9, .int 0, .null, .int 0, .int 0, .int 0]))] H := hP
  have hD : va_D A [(a0, .inr (10, [.ref q_1, .int 0, .null, .int 0, .long 0, .int 0, .int 0, .null, .int 0, .null, .int 0, .null, .int 0, .null])), (q_1, .inl (ca_2, 100, .inl (fun _ => 0))), (q_3, .inr (7, [.int 3, .int 0, .ref bW_6, .ref bA_7, .ref bE_8, .ref bC_9, .int 0, .null, .int 0, .int 0, .int 0]))] := hD
  have hK : va_K (dC, dI) vwCl [(ca_2, .int)] s := hK
  refine W.widen (k := 6) (n := 241) (by omega) (by omega) ?_
  refine va_put (D := (dC, dI)) (ci := 10) (v := .ref q_3) (ty := .object "MistHeaps$Hill") (C := RX8) (T := TX8) (N := 14) hx hb hts kc_sceneInit_4 tyX8 tyX8_ok nmX8 hown hK hP hD hS 0 rfl rfl 2 (by decide) (hts (.fieldLink RX8 18 "MistHeaps$Scene" "hill" "LMistHeaps$Hill;") kc_sceneInit_12) (fun _ h9 => h9) rfl (by decide +kernel) rfl rfl (Nat.le_of_ble_eq_true rfl) dX8_init_20 (fun H locs hP hD hS => ?_)
  have hP : va_P (dC, dI) vwCl [(a0, .inr (10, [.ref q_1, .int 0, .ref q_3, .int 0, .long 0, .int 0, .int 0, .null, .int 0, .null, .int 0, .null, .int 0, .null])), (q_1, .inl (ca_2, 100, .inl (fun _ => 0))), (q_3, .inr (7, [.int 3, .int 0, .ref bW_6, .ref bA_7, .ref bE_8, .ref bC_9, .int 0, .null, .int 0, .int 0, .int 0]))] H := hP
  have hD : va_D A [(a0, .inr (10, [.ref q_1, .int 0, .ref q_3, .int 0, .long 0, .int 0, .int 0, .null, .int 0, .null, .int 0, .null, .int 0, .null])), (q_1, .inl (ca_2, 100, .inl (fun _ => 0))), (q_3, .inr (7, [.int 3, .int 0, .ref bW_6, .ref bA_7, .ref bE_8, .ref bC_9, .int 0, .null, .int 0, .int 0, .int 0]))] := hD
  refine lv_aload_n hx hb dX8_init_23 rfl (lv_at hl 0 rfl) ?_
  refine lv_bipush (v := 8) hx hb dX8_init_24 (by decide) ?_
  refine va_newq (C := "MistHeaps$Heap") (N' := 8) hx hb hown (hts (.classLink RX8 22 RX3) kc_sceneInit_13) hC.1 hK hP hD hS hA (by decide) (by decide) (by decide) (Nat.le_of_ble_eq_true rfl) (Nat.le_of_ble_eq_true rfl) dX8_init_26 (fun q_10 ca_11 H hK hP hD hS => ?_)
  have hP : va_P (dC, dI) vwCl [(a0, .inr (10, [.ref q_1, .int 0, .ref q_3, .int 0, .long 0, .int 0, .int 0, .null, .int 0, .null, .int 0, .null, .int 0, .null])), (q_1, .inl (ca_2, 100, .inl (fun _ => 0))), (q_3, .inr (7, [.int 3, .int 0, .ref bW_6, .ref bA_7, .ref bE_8, .ref bC_9, .int 0, .null, .int 0, .int 0, .int 0])), (q_10, .inl (ca_11, 8, .inr (.inr (.inr (.inr (fun _ => none))))))] H := hP
  have hD : va_D A [(a0, .inr (10, [.ref q_1, .int 0, .ref q_3, .int 0, .long 0, .int 0, .int 0, .null, .int 0, .null, .int 0, .null, .int 0, .null])), (q_1, .inl (ca_2, 100, .inl (fun _ => 0))), (q_3, .inr (7, [.int 3, .int 0, .ref bW_6, .ref bA_7, .ref bE_8, .ref bC_9, .int 0, .null, .int 0, .int 0, .int 0])), (q_10, .inl (ca_11, 8, .inr (.inr (.inr (.inr (fun _ => none))))))] := hD
  have hK : va_K (dC, dI) vwCl [(ca_2, .int), (ca_11, .object "MistHeaps$Heap")] s := hK
  refine W.widen (k := 7) (n := 249) (by omega) (by omega) ?_
  refine va_putF (D := (dC, dI)) (ci := 10) (v := .ref q_10) (ty := .array (.object "MistHeaps$Heap")) (C := RX8) (T := TX8) (N := 14) hx hb hts kc_sceneInit_4 tyX8 tyX8_ok nmX8 hown hK hP hD hS 0 rfl rfl 7 (by decide) (hts (.fieldLink RX8 24 "MistHeaps$Scene" "heaps" "[LMistHeaps$Heap;") kc_sceneInit_14) (fun _ h9 => h9) rfl hin rfl (by decide +kernel) rfl rfl (Nat.le_of_ble_eq_true rfl) dX8_init_29 (fun H locs hP hD hS => ?_)
  have hP : va_P (dC, dI) vwCl [(a0, .inr (10, [.ref q_1, .int 0, .ref q_3, .int 0, .long 0, .int 0, .int 0, .ref q_10, .int 0, .null, .int 0, .null, .int 0, .null])), (q_1, .inl (ca_2, 100, .inl (fun _ => 0))), (q_3, .inr (7, [.int 3, .int 0, .ref bW_6, .ref bA_7, .ref bE_8, .ref bC_9, .int 0, .null, .int 0, .int 0, .int 0])), (q_10, .inl (ca_11, 8, .inr (.inr (.inr (.inr (fun _ => none))))))] H := hP
  have hD : va_D A [(a0, .inr (10, [.ref q_1, .int 0, .ref q_3, .int 0, .long 0, .int 0, .int 0, .ref q_10, .int 0, .null, .int 0, .null, .int 0, .null])), (q_1, .inl (ca_2, 100, .inl (fun _ => 0))), (q_3, .inr (7, [.int 3, .int 0, .ref bW_6, .ref bA_7, .ref bE_8, .ref bC_9, .int 0, .null, .int 0, .int 0, .int 0])), (q_10, .inl (ca_11, 8, .inr (.inr (.inr (.inr (fun _ => none))))))] := hD
  refine lv_aload_n hx hb dX8_init_32 rfl (lv_at hl 0 rfl) ?_
  refine lv_bipush (v := 6) hx hb dX8_init_33 (by decide) ?_
  refine va_newa (ty := .int) (N' := 6) (a0 := (6, .inl (fun _ => 0))) hx hb (hts (.arrayClass .int) kc_sceneInit_3) rfl hK hP hD hS hA (fun _ => rfl) (by decide) (by decide) (by decide) (Nat.le_of_ble_eq_true rfl) (Nat.le_of_ble_eq_true rfl) dX8_init_35 (fun q_12 ca_13 H hK hP hD hS => ?_)
  have hP : va_P (dC, dI) vwCl [(a0, .inr (10, [.ref q_1, .int 0, .ref q_3, .int 0, .long 0, .int 0, .int 0, .ref q_10, .int 0, .null, .int 0, .null, .int 0, .null])), (q_1, .inl (ca_2, 100, .inl (fun _ => 0))), (q_3, .inr (7, [.int 3, .int 0, .ref bW_6, .ref bA_7, .ref bE_8, .ref bC_9, .int 0, .null, .int 0, .int 0, .int 0])), (q_10, .inl (ca_11, 8, .inr (.inr (.inr (.inr (fun _ => none)))))), (q_12, .inl (ca_13, 6, .inl (fun _ => 0)))] H := hP
  have hD : va_D A [(a0, .inr (10, [.ref q_1, .int 0, .ref q_3, .int 0, .long 0, .int 0, .int 0, .ref q_10, .int 0, .null, .int 0, .null, .int 0, .null])), (q_1, .inl (ca_2, 100, .inl (fun _ => 0))), (q_3, .inr (7, [.int 3, .int 0, .ref bW_6, .ref bA_7, .ref bE_8, .ref bC_9, .int 0, .null, .int 0, .int 0, .int 0])), (q_10, .inl (ca_11, 8, .inr (.inr (.inr (.inr (fun _ => none)))))), (q_12, .inl (ca_13, 6, .inl (fun _ => 0)))] := hD
  have hK : va_K (dC, dI) vwCl [(ca_2, .int), (ca_11, .object "MistHeaps$Heap"), (ca_13, .int)] s := hK
  refine W.widen (k := 8) (n := 255) (by omega) (by omega) ?_
  refine va_putF (D := (dC, dI)) (ci := 10) (v := .ref q_12) (ty := .array .int) (C := RX8) (T := TX8) (N := 14) hx hb hts kc_sceneInit_4 tyX8 tyX8_ok nmX8 hown hK hP hD hS 0 rfl rfl 9 (by decide) (hts (.fieldLink RX8 28 "MistHeaps$Scene" "walk" "[I") kc_sceneInit_15) (fun _ h9 => h9) rfl hin rfl (by decide +kernel) rfl rfl (Nat.le_of_ble_eq_true rfl) dX8_init_37 (fun H locs hP hD hS => ?_)
  have hP : va_P (dC, dI) vwCl [(a0, .inr (10, [.ref q_1, .int 0, .ref q_3, .int 0, .long 0, .int 0, .int 0, .ref q_10, .int 0, .ref q_12, .int 0, .null, .int 0, .null])), (q_1, .inl (ca_2, 100, .inl (fun _ => 0))), (q_3, .inr (7, [.int 3, .int 0, .ref bW_6, .ref bA_7, .ref bE_8, .ref bC_9, .int 0, .null, .int 0, .int 0, .int 0])), (q_10, .inl (ca_11, 8, .inr (.inr (.inr (.inr (fun _ => none)))))), (q_12, .inl (ca_13, 6, .inl (fun _ => 0)))] H := hP
  have hD : va_D A [(a0, .inr (10, [.ref q_1, .int 0, .ref q_3, .int 0, .long 0, .int 0, .int 0, .ref q_10, .int 0, .ref q_12, .int 0, .null, .int 0, .null])), (q_1, .inl (ca_2, 100, .inl (fun _ => 0))), (q_3, .inr (7, [.int 3, .int 0, .ref bW_6, .ref bA_7, .ref bE_8, .ref bC_9, .int 0, .null, .int 0, .int 0, .int 0])), (q_10, .inl (ca_11, 8, .inr (.inr (.inr (.inr (fun _ => none)))))), (q_12, .inl (ca_13, 6, .inl (fun _ => 0)))] := hD
  refine lv_aload_n hx hb dX8_init_40 rfl (lv_at hl 0 rfl) ?_
  refine lv_bipush (v := 12) hx hb dX8_init_41 (by decide) ?_
  refine va_newa (ty := .int) (N' := 12) (a0 := (12, .inl (fun _ => 0))) hx hb (hts (.arrayClass .int) kc_sceneInit_3) rfl hK hP hD hS hA (fun _ => rfl) (by decide) (by decide) (by decide) (Nat.le_of_ble_eq_true rfl) (Nat.le_of_ble_eq_true rfl) dX8_init_43 (fun q_14 ca_15 H hK hP hD hS => ?_)
  have hP : va_P (dC, dI) vwCl [(a0, .inr (10, [.ref q_1, .int 0, .ref q_3, .int 0, .long 0, .int 0, .int 0, .ref q_10, .int 0, .ref q_12, .int 0, .null, .int 0, .null])), (q_1, .inl (ca_2, 100, .inl (fun _ => 0))), (q_3, .inr (7, [.int 3, .int 0, .ref bW_6, .ref bA_7, .ref bE_8, .ref bC_9, .int 0, .null, .int 0, .int 0, .int 0])), (q_10, .inl (ca_11, 8, .inr (.inr (.inr (.inr (fun _ => none)))))), (q_12, .inl (ca_13, 6, .inl (fun _ => 0))), (q_14, .inl (ca_15, 12, .inl (fun _ => 0)))] H := hP
  have hD : va_D A [(a0, .inr (10, [.ref q_1, .int 0, .ref q_3, .int 0, .long 0, .int 0, .int 0, .ref q_10, .int 0, .ref q_12, .int 0, .null, .int 0, .null])), (q_1, .inl (ca_2, 100, .inl (fun _ => 0))), (q_3, .inr (7, [.int 3, .int 0, .ref bW_6, .ref bA_7, .ref bE_8, .ref bC_9, .int 0, .null, .int 0, .int 0, .int 0])), (q_10, .inl (ca_11, 8, .inr (.inr (.inr (.inr (fun _ => none)))))), (q_12, .inl (ca_13, 6, .inl (fun _ => 0))), (q_14, .inl (ca_15, 12, .inl (fun _ => 0)))] := hD
  have hK : va_K (dC, dI) vwCl [(ca_2, .int), (ca_11, .object "MistHeaps$Heap"), (ca_13, .int), (ca_15, .int)] s := hK
  refine W.widen (k := 9) (n := 267) (by omega) (by omega) ?_
  refine va_putF (D := (dC, dI)) (ci := 10) (v := .ref q_14) (ty := .array .int) (C := RX8) (T := TX8) (N := 14) hx hb hts kc_sceneInit_4 tyX8 tyX8_ok nmX8 hown hK hP hD hS 0 rfl rfl 11 (by decide) (hts (.fieldLink RX8 31 "MistHeaps$Scene" "book" "[I") kc_sceneInit_16) (fun _ h9 => h9) rfl hin rfl (by decide +kernel) rfl rfl (Nat.le_of_ble_eq_true rfl) dX8_init_45 (fun H locs hP hD hS => ?_)
  have hP : va_P (dC, dI) vwCl [(a0, .inr (10, [.ref q_1, .int 0, .ref q_3, .int 0, .long 0, .int 0, .int 0, .ref q_10, .int 0, .ref q_12, .int 0, .ref q_14, .int 0, .null])), (q_1, .inl (ca_2, 100, .inl (fun _ => 0))), (q_3, .inr (7, [.int 3, .int 0, .ref bW_6, .ref bA_7, .ref bE_8, .ref bC_9, .int 0, .null, .int 0, .int 0, .int 0])), (q_10, .inl (ca_11, 8, .inr (.inr (.inr (.inr (fun _ => none)))))), (q_12, .inl (ca_13, 6, .inl (fun _ => 0))), (q_14, .inl (ca_15, 12, .inl (fun _ => 0)))] H := hP
  have hD : va_D A [(a0, .inr (10, [.ref q_1, .int 0, .ref q_3, .int 0, .long 0, .int 0, .int 0, .ref q_10, .int 0, .ref q_12, .int 0, .ref q_14, .int 0, .null])), (q_1, .inl (ca_2, 100, .inl (fun _ => 0))), (q_3, .inr (7, [.int 3, .int 0, .ref bW_6, .ref bA_7, .ref bE_8, .ref bC_9, .int 0, .null, .int 0, .int 0, .int 0])), (q_10, .inl (ca_11, 8, .inr (.inr (.inr (.inr (fun _ => none)))))), (q_12, .inl (ca_13, 6, .inl (fun _ => 0))), (q_14, .inl (ca_15, 12, .inl (fun _ => 0)))] := hD
  refine lv_aload_n hx hb dX8_init_48 rfl (lv_at hl 0 rfl) ?_
  refine lv_bipush (v := 6) hx hb dX8_init_49 (by decide) ?_
  refine va_newa (ty := .int) (N' := 6) (a0 := (6, .inl (fun _ => 0))) hx hb (hts (.arrayClass .int) kc_sceneInit_3) rfl hK hP hD hS hA (fun _ => rfl) (by decide) (by decide) (by decide) (Nat.le_of_ble_eq_true rfl) (Nat.le_of_ble_eq_true rfl) dX8_init_51 (fun q_16 ca_17 H hK hP hD hS => ?_)
  have hP : va_P (dC, dI) vwCl [(a0, .inr (10, [.ref q_1, .int 0, .ref q_3, .int 0, .long 0, .int 0, .int 0, .ref q_10, .int 0, .ref q_12, .int 0, .ref q_14, .int 0, .null])), (q_1, .inl (ca_2, 100, .inl (fun _ => 0))), (q_3, .inr (7, [.int 3, .int 0, .ref bW_6, .ref bA_7, .ref bE_8, .ref bC_9, .int 0, .null, .int 0, .int 0, .int 0])), (q_10, .inl (ca_11, 8, .inr (.inr (.inr (.inr (fun _ => none)))))), (q_12, .inl (ca_13, 6, .inl (fun _ => 0))), (q_14, .inl (ca_15, 12, .inl (fun _ => 0))), (q_16, .inl (ca_17, 6, .inl (fun _ => 0)))] H := hP
  have hD : va_D A [(a0, .inr (10, [.ref q_1, .int 0, .ref q_3, .int 0, .long 0, .int 0, .int 0, .ref q_10, .int 0, .ref q_12, .int 0, .ref q_14, .int 0, .null])), (q_1, .inl (ca_2, 100, .inl (fun _ => 0))), (q_3, .inr (7, [.int 3, .int 0, .ref bW_6, .ref bA_7, .ref bE_8, .ref bC_9, .int 0, .null, .int 0, .int 0, .int 0])), (q_10, .inl (ca_11, 8, .inr (.inr (.inr (.inr (fun _ => none)))))), (q_12, .inl (ca_13, 6, .inl (fun _ => 0))), (q_14, .inl (ca_15, 12, .inl (fun _ => 0))), (q_16, .inl (ca_17, 6, .inl (fun _ => 0)))] := hD
  have hK : va_K (dC, dI) vwCl [(ca_2, .int), (ca_11, .object "MistHeaps$Heap"), (ca_13, .int), (ca_15, .int), (ca_17, .int)] s := hK
  refine W.widen (k := 10) (n := 273) (by omega) (by omega) ?_
  refine va_putF (D := (dC, dI)) (ci := 10) (v := .ref q_16) (ty := .array .int) (C := RX8) (T := TX8) (N := 14) hx hb hts kc_sceneInit_4 tyX8 tyX8_ok nmX8 hown hK hP hD hS 0 rfl rfl 13 (by decide) (hts (.fieldLink RX8 34 "MistHeaps$Scene" "facts" "[I") kc_sceneInit_17) (fun _ h9 => h9) rfl hin rfl (by decide +kernel) rfl rfl (Nat.le_of_ble_eq_true rfl) dX8_init_53 (fun H locs hP hD hS => ?_)
  have hP : va_P (dC, dI) vwCl [(a0, .inr (10, [.ref q_1, .int 0, .ref q_3, .int 0, .long 0, .int 0, .int 0, .ref q_10, .int 0, .ref q_12, .int 0, .ref q_14, .int 0, .ref q_16])), (q_1, .inl (ca_2, 100, .inl (fun _ => 0))), (q_3, .inr (7, [.int 3, .int 0, .ref bW_6, .ref bA_7, .ref bE_8, .ref bC_9, .int 0, .null, .int 0, .int 0, .int 0])), (q_10, .inl (ca_11, 8, .inr (.inr (.inr (.inr (fun _ => none)))))), (q_12, .inl (ca_13, 6, .inl (fun _ => 0))), (q_14, .inl (ca_15, 12, .inl (fun _ => 0))), (q_16, .inl (ca_17, 6, .inl (fun _ => 0)))] H := hP
  have hD : va_D A [(a0, .inr (10, [.ref q_1, .int 0, .ref q_3, .int 0, .long 0, .int 0, .int 0, .ref q_10, .int 0, .ref q_12, .int 0, .ref q_14, .int 0, .ref q_16])), (q_1, .inl (ca_2, 100, .inl (fun _ => 0))), (q_3, .inr (7, [.int 3, .int 0, .ref bW_6, .ref bA_7, .ref bE_8, .ref bC_9, .int 0, .null, .int 0, .int 0, .int 0])), (q_10, .inl (ca_11, 8, .inr (.inr (.inr (.inr (fun _ => none)))))), (q_12, .inl (ca_13, 6, .inl (fun _ => 0))), (q_14, .inl (ca_15, 12, .inl (fun _ => 0))), (q_16, .inl (ca_17, 6, .inl (fun _ => 0)))] := hD
  rw [hQ]
  have hP9 := hP.sub (ws' := [(a0, .inr (10, [.ref q_1, .int 0, .ref q_3, .int 0, .long 0, .int 0, .int 0, .ref q_10, .int 0, .ref q_12, .int 0, .ref q_14, .int 0, .ref q_16])), (q_1, .inl (ca_2, 100, .inl (fun _ => 0))), (q_3, .inr (7, [.int 3, .int 0, .ref bW_6, .ref bA_7, .ref bE_8, .ref bC_9, .int 0, .null, .int 0, .int 0, .int 0])), (q_10, .inl (ca_11, 8, .inr (.inr (.inr (.inr (fun _ => none)))))), (q_12, .inl (ca_13, 6, .inl (fun _ => 0))), (q_14, .inl (ca_15, 12, .inl (fun _ => 0))), (q_16, .inl (ca_17, 6, .inl (fun _ => 0)))]) [0, 1, 2, 3, 4, 5, 6] rfl
  have hD9 := hD.sub (ws' := [(a0, .inr (10, [.ref q_1, .int 0, .ref q_3, .int 0, .long 0, .int 0, .int 0, .ref q_10, .int 0, .ref q_12, .int 0, .ref q_14, .int 0, .ref q_16])), (q_1, .inl (ca_2, 100, .inl (fun _ => 0))), (q_3, .inr (7, [.int 3, .int 0, .ref bW_6, .ref bA_7, .ref bE_8, .ref bC_9, .int 0, .null, .int 0, .int 0, .int 0])), (q_10, .inl (ca_11, 8, .inr (.inr (.inr (.inr (fun _ => none)))))), (q_12, .inl (ca_13, 6, .inl (fun _ => 0))), (q_14, .inl (ca_15, 12, .inl (fun _ => 0))), (q_16, .inl (ca_17, 6, .inl (fun _ => 0)))]) [0, 1, 2, 3, 4, 5, 6] (by decide) rfl
  have hK9 := hK.sub (tys' := [(ca_2, .int), (ca_11, .object "MistHeaps$Heap"), (ca_13, .int), (ca_15, .int), (ca_17, .int)]) [0, 1, 2, 3, 4] rfl
  exact W.vret hx hb hr (fun tQ htQ hWQ => ⟨⟨(), rfl, trivial, q_1, ca_2, q_3, bW_6, bA_7, bE_8, bC_9, q_10, ca_11, q_12, ca_13, q_14, ca_15, q_16, ca_17, by rw [htQ]; exact hP9, va_K.moved hWQ.alike hK9, hD9⟩, hS.F htQ⟩) hS.2.2 dX8_init_56
