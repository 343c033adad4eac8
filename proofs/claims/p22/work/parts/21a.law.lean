
section
variable {dC : Nat → ClassId} {dI : Nat → Nat → Nat} {ad : Nat → Nat} {bS : Nat} {Y : Nat → Prop} {s : State} {A : Nat → Prop} {h0 m0 : Nat}
theorem FzX.keptY {ws X : va_W} {H H1 : Heap} (h : FzX dC dI ws X Y H) (hk : ∀ q : Nat, q < H.size → ¬ Y q → H1[q]? = H[q]?) : FzX dC dI ws X Y H1 := ⟨h.1.kept (fun k q hq => hk q.1 (h.1 k q hq).lt (h.2 q (List.mem_of_getElem? hq)).2), h.2⟩
theorem HsX.keptY {n : Nat} {hx ha : Nat → Nat} {hk' hv hc : Nat → Int32} {X : va_W} {H H1 : Heap} (h : HsX dC dI n hx ha hk' hv hc X Y H) (hk : ∀ q : Nat, q < H.size → ¬ Y q → H1[q]? = H[q]?) : HsX dC dI n hx ha hk' hv hc X Y H1 := fun i hi => ⟨(h i hi).1, (h i hi).2.keptY hk⟩
set_option maxHeartbeats 4000000 in
set_option maxRecDepth 100000 in
theorem XI.kept {ik : Int32} {vs kvs : VS} {tl : List Nat} {T : List (ClassId × FieldType)} {X : va_W} {H H1 : Heap} (h : XI dC dI ad bS Y ik vs kvs tl T h0 X H) (hX : ∀ c ∈ X, ¬ Y c.1) (hk : ∀ q : Nat, q < H.size → ¬ Y q → H1[q]? = H[q]?) : XI dC dI ad bS Y ik vs kvs tl T h0 X H1 := fun M9 k9 => h M9 (fun sc kp bl go ch bo aTp ts aHl nh ee mi sn aHs n aWk wz aBk bz aFc cTp fTp cHs fHs cWk fWk cBk fBk cFc fFc kTp kts kHl knh kee kmi ksn kHs kn kWk kwz kBk kbz kFc kcTp kfTp kcHs kfHs kcWk kfWk kcBk kfBk kcFc kfFc esg ecl eW eA eE eC cdd etv szz att em ceW feW ceA feA ceE feE ceC feC gR gO lk gS cR fR cO fO i0 scl ft fr dr tO hO cD fD cTO rt cT ft0 ft1 ft2 cHO rh cH g0 g1 g2 g3 g4 g5 g6 g7 sg cl bW bA bE bC hcd tpv hsz hat nmb cbW fbW cbA fbA cbE fbE cbC fbC ksg kcl kbW kbA kbE kbC khcd ktpv khsz khat knmb kcbW kfbW kcbA kfbA kcbE kfbE kcbC kfbC yi ya yk yv yc kyi kya kyk kyv kyc tc ktc hC khC LB w1_ w2_ hP w4_ w5_ w6_ w7_ w8_ w9_ w10_ w11_ w12_ w13_ hZ hZk hHs hHk hvs hkv => k9 sc kp bl go ch bo aTp ts aHl nh ee mi sn aHs n aWk wz aBk bz aFc cTp fTp cHs fHs cWk fWk cBk fBk cFc fFc kTp kts kHl knh kee kmi ksn kHs kn kWk kwz kBk kbz kFc kcTp kfTp kcHs kfHs kcWk kfWk kcBk kfBk kcFc kfFc esg ecl eW eA eE eC cdd etv szz att em ceW feW ceA feA ceE feE ceC feC gR gO lk gS cR fR cO fO i0 scl ft fr dr tO hO cD fD cTO rt cT ft0 ft1 ft2 cHO rh cH g0 g1 g2 g3 g4 g5 g6 g7 sg cl bW bA bE bC hcd tpv hsz hat nmb cbW fbW cbA fbA cbE fbE cbC fbC ksg kcl kbW kbA kbE kbC khcd ktpv khsz khat knmb kcbW kfbW kcbA kfbA kcbE kfbE kcbC kfbC yi ya yk yv yc kyi kya kyk kyv kyc tc ktc hC khC LB w1_ w2_ (hP.kept (fun k q hq => hk q.1 (hP k q hq).lt (hX q (List.mem_of_getElem? hq)))) w4_ w5_ w6_ w7_ w8_ w9_ w10_ w11_ w12_ w13_ (hZ.keptY hk) (hZk.keptY hk) (hHs.keptY hk) (hHk.keptY hk) hvs hkv)
set_option maxHeartbeats 4000000 in
set_option maxRecDepth 100000 in
theorem XI.recv {ik : Int32} {vs kvs : VS} {tl : List Nat} {T : List (ClassId × FieldType)} {X : va_W} {H : Heap} (h : XI dC dI ad bS Y ik vs kvs tl T h0 X H) (hK : va_K (dC, dI) vwCl T s) : ∃ cell : Cell, H[h0]? = some cell ∧ cell.vm.isStatics = false ∧ s.vm.findClass RX11 = some cell.cls := h _ (fun sc kp bl go ch bo aTp ts aHl nh ee mi sn aHs n aWk wz aBk bz aFc cTp fTp cHs fHs cWk fWk cBk fBk cFc fFc kTp kts kHl knh kee kmi ksn kHs kn kWk kwz kBk kbz kFc kcTp kfTp kcHs kfHs kcWk kfWk kcBk kfBk kcFc kfFc esg ecl eW eA eE eC cdd etv szz att em ceW feW ceA feA ceE feE ceC feC gR gO lk gS cR fR cO fO i0 scl ft fr dr tO hO cD fD cTO rt cT ft0 ft1 ft2 cHO rh cH g0 g1 g2 g3 g4 g5 g6 g7 sg cl bW bA bE bC hcd tpv hsz hat nmb cbW fbW cbA fbA cbE fbE cbC fbC ksg kcl kbW kbA kbE kbC khcd ktpv khsz khat knmb kcbW kfbW kcbA kfbA kcbE kfbE kcbC kfbC yi ya yk yv yc kyi kya kyk kyv kyc tc ktc hC khC LB hX w2_ hP w4_ w5_ w6_ w7_ w8_ w9_ w10_ w11_ w12_ w13_ hZ hZk hHs hHk hvs hkv => by
  subst hX
  exact va_recv (K_mem hK w5_) hP (ci := 13) (q := (RX11, TX11, 7)) (q0 := 0) rfl rfl)
set_option maxHeartbeats 4000000 in
set_option maxRecDepth 100000 in
theorem MI.kept {im : Int32} {vm kvm : VS} {tm : List Nat} {T : List (ClassId × FieldType)} {M : va_W} {H H1 : Heap} (h : MI dC dI im vm kvm tm T m0 M H) (hk : ∀ c ∈ M, H1[c.1]? = H[c.1]?) : MI dC dI im vm kvm tm T m0 M H1 := fun M9 k9 => h M9 (fun aS aI aB aT aG aO aN aD aY th ac sp en wg op se dn rn kd nu tv bv cS cI cB cT cG cO cN cD cY fS fI fB fT fG fO fN fD fY w1_ hP w3_ w4_ w5_ w6_ w7_ => k9 aS aI aB aT aG aO aN aD aY th ac sp en wg op se dn rn kd nu tv bv cS cI cB cT cG cO cN cD cY fS fI fB fT fG fO fN fD fY w1_ (hP.kept (fun k q hq => hk q (List.mem_of_getElem? hq))) w3_ w4_ w5_ w6_ w7_)
set_option maxHeartbeats 4000000 in
set_option maxRecDepth 100000 in
theorem MI.recv {im : Int32} {vm kvm : VS} {tm : List Nat} {T : List (ClassId × FieldType)} {M : va_W} {H : Heap} (h : MI dC dI im vm kvm tm T m0 M H) (hK : va_K (dC, dI) vwCl T s) : ∃ cell : Cell, H[m0]? = some cell ∧ cell.vm.isStatics = false ∧ s.vm.findClass RX12 = some cell.cls := h _ (fun aS aI aB aT aG aO aN aD aY th ac sp en wg op se dn rn kd nu tv bv cS cI cB cT cG cO cN cD cY fS fI fB fT fG fO fN fD fY hM hP w3_ w4_ w5_ w6_ w7_ => by
  subst hM
  exact va_recv (K_mem hK w4_) hP (ci := 14) (q := (RX12, TX12, 23)) (q0 := 0) rfl rfl)
/-- both objects, side by side -/
def Lst (dC : Nat → ClassId) (dI : Nat → Nat → Nat) (ad : Nat → Nat) (bS : Nat) (Y : Nat → Prop) (s : State) (A : Nat → Prop) (h0 m0 : Nat) (ik : Int32) (vs kvs : VS) (tl : List Nat) (im : Int32) (vm kvm : VS) (tm : List Nat) (X : va_W) (T : List (ClassId × FieldType)) (M : va_W) (T2 : List (ClassId × FieldType)) (H : Heap) : Prop := XI dC dI ad bS Y ik vs kvs tl T h0 X H ∧ MI dC dI im vm kvm tm T2 m0 M H ∧ va_K (dC, dI) vwCl T s ∧ va_K (dC, dI) vwCl T2 s ∧ va_D A X ∧ va_D A M ∧ (∀ c ∈ X, ¬ Y c.1) ∧ (∀ c ∈ M, Y c.1) ∧ ∀ q, Y q → q < H.size
theorem K_new {T T1 : List (ClassId × FieldType)} {t : State} (hK : va_K (dC, dI) vwCl T s) (hvm : s.vm.Alike t.vm) (h : ∀ p ∈ T1, p ∈ T ∨ va_K (dC, dI) vwCl [p] t) : va_K (dC, dI) vwCl T1 s := ⟨hK.1, fun k q hq => by
  rcases h q (List.mem_of_getElem? hq) with h1 | h1
  · obtain ⟨i, hi⟩ := List.getElem?_of_mem h1
    exact hK.2 i q hi
  · exact (va_K.moved hvm.symm h1).2 0 q rfl⟩
theorem bl_in {X : va_W} {H : Heap} {locs : List Loc} (hD : va_D A X) (hS : va_S A s.heap H locs) (hA : ∀ q, s.heap.size ≤ q → A q) : ∀ q, va_A X H.size q → A q := by
  intro q h
  rcases h with ⟨k, e, hk⟩ | h
  · exact hD.2 k _ hk
  · exact hA q (Nat.le_trans hS.1 h)
variable {p : Program} {l : Launch} {e : Env} {R : Room} {m : MethodId} {args : Array Value} {below : List Frame} {meth : Method} {c : Code} {H : Heap} {locs : List Loc} {cells slots : Nat} {Q : State → Prop} {pc : Nat} {ls : Array Slot} {rest st0 : List Value} {a : Array Value} {mc ms : Nat} {ik im : Int32} {vs kvs vm kvm : VS} {tl tm : List Nat} {X M : va_W} {T T2 : List (ClassId × FieldType)}
theorem lx_i {post : Int32 → Int32 × VS × VS × List Nat → Prop} (hr : va_Run p l e R s m args below meth c H locs cells slots mc ms (F0 m pc ls st0) rest (va_Qi post (fun (u : Int32 × VS × VS × List Nat) (t : State) => ∃ (X1 : va_W) (T1 : List (ClassId × FieldType)), XI dC dI ad bS Y u.1 u.2.1 u.2.2.1 u.2.2.2 T1 h0 X1 t.heap ∧ va_D (va_A X H.size) X1 ∧ ∀ p ∈ T1, p ∈ T ∨ va_K (dC, dI) vwCl [p] t) (va_A X H.size) a) (va_A X H.size)) (hLS : Lst dC dI ad bS Y s A h0 m0 ik vs kvs tl im vm kvm tm X T M T2 H) (hS : va_S A s.heap H locs) (hA : ∀ q, s.heap.size ≤ q → A q)
    (kk : ∀ (r : Int32) (u : Int32 × VS × VS × List Nat) (H1 : Heap) (locs1 : List Loc) (X1 : va_W) (T1 : List (ClassId × FieldType)), post r u → Lst dC dI ad bS Y s A h0 m0 u.1 u.2.1 u.2.2.1 u.2.2.2 im vm kvm tm X1 T1 M T2 H1 → va_S A s.heap H1 locs1 → W p l e R s m args below meth c H1 locs1 (cells + mc) (slots + ms) Q (F0 m (pc + 3) ls (.int r :: rest))) : W p l e R s m args below meth c H locs cells slots Q (F0 m pc ls st0) := by
  obtain ⟨hXI, hMI, hK, hK2, hDX, hDM, hX, hM, hY⟩ := hLS
  have hin := bl_in hDX hS hA
  refine va_calli hr hS (fun q _ h => hin q h) hin (fun r u t H1 locs1 ht hvm hpost hB hz hk hS1 => ?_)
  obtain ⟨X1, T1, h1, h2, h3⟩ := hB
  rw [ht] at h1
  refine kk r u H1 locs1 X1 T1 hpost ⟨h1, hMI.kept (fun c hc => hk c.1 (hY c.1 (hM c hc)) (fun h => ?_)), K_new hK hvm h3, hK2, h2.weaken (fun k q _ h => hin q.1 h), hDM, fun c hc => ?_, hM, fun q hq => Nat.lt_of_lt_of_le (hY q hq) hz⟩ hS1
  · rcases h with ⟨k, e9, hk9⟩ | h
    · exact hX _ (List.mem_of_getElem? hk9) (hM c hc)
    · exact absurd (hY c.1 (hM c hc)) (Nat.not_lt.mpr h)
  · rcases D_mem h2 c hc with ⟨k, e9, hk9⟩ | h
    · exact hX (c.1, e9) (List.mem_of_getElem? hk9)
    · exact fun hy => absurd (hY c.1 hy) (Nat.not_lt.mpr h)
theorem lm_i {post : Int32 → Int32 × VS × VS × List Nat → Prop} (hr : va_Run p l e R s m args below meth c H locs cells slots mc ms (F0 m pc ls st0) rest (va_Qi post (fun (u : Int32 × VS × VS × List Nat) (t : State) => ∃ M1 : va_W, MI dC dI u.1 u.2.1 u.2.2.1 u.2.2.2 T2 m0 M1 t.heap ∧ va_D (va_A M H.size) M1 ∧ M1.map (fun c => c.1) = M.map (fun c => c.1)) (va_A M H.size) a) (va_A M H.size)) (hLS : Lst dC dI ad bS Y s A h0 m0 ik vs kvs tl im vm kvm tm X T M T2 H) (hS : va_S A s.heap H locs) (hA : ∀ q, s.heap.size ≤ q → A q)
    (kk : ∀ (r : Int32) (u : Int32 × VS × VS × List Nat) (H1 : Heap) (locs1 : List Loc) (M1 : va_W), post r u → Lst dC dI ad bS Y s A h0 m0 ik vs kvs tl u.1 u.2.1 u.2.2.1 u.2.2.2 X T M1 T2 H1 → va_S A s.heap H1 locs1 → W p l e R s m args below meth c H1 locs1 (cells + mc) (slots + ms) Q (F0 m (pc + 3) ls (.int r :: rest))) : W p l e R s m args below meth c H locs cells slots Q (F0 m pc ls st0) := by
  obtain ⟨hXI, hMI, hK, hK2, hDX, hDM, hX, hM, hY⟩ := hLS
  have hin := bl_in hDM hS hA
  refine va_calli hr hS (fun q _ h => hin q h) hin (fun r u t H1 locs1 ht hvm hpost hB hz hk hS1 => ?_)
  obtain ⟨M1, h1, h2, h3⟩ := hB
  rw [ht] at h1
  refine kk r u H1 locs1 M1 hpost ⟨hXI.kept hX (fun q hq hny => hk q hq (fun h => ?_)), h1, hK, hK2, hDX, h2.weaken (fun k q _ h => hin q.1 h), hX, fun c hc => ?_, fun q hq => Nat.lt_of_lt_of_le (hY q hq) hz⟩ hS1
  · rcases h with ⟨k, e9, hk9⟩ | h
    · exact hny (hM _ (List.mem_of_getElem? hk9))
    · exact absurd hq (Nat.not_lt.mpr h)
  · have hm : c.1 ∈ M1.map (fun c => c.1) := List.mem_map.mpr ⟨c, hc, rfl⟩
    rw [h3] at hm
    obtain ⟨d, hd, e9⟩ := List.mem_map.mp hm
    rw [← e9]
    exact hM d hd
theorem lx_l {post : Int64 → Int32 × VS × VS × List Nat → Prop} (hr : va_Run p l e R s m args below meth c H locs cells slots mc ms (F0 m pc ls st0) rest (va_Ql post (fun (u : Int32 × VS × VS × List Nat) (t : State) => ∃ (X1 : va_W) (T1 : List (ClassId × FieldType)), XI dC dI ad bS Y u.1 u.2.1 u.2.2.1 u.2.2.2 T1 h0 X1 t.heap ∧ va_D (va_A X H.size) X1 ∧ ∀ p ∈ T1, p ∈ T ∨ va_K (dC, dI) vwCl [p] t) (va_A X H.size) a) (va_A X H.size)) (hLS : Lst dC dI ad bS Y s A h0 m0 ik vs kvs tl im vm kvm tm X T M T2 H) (hS : va_S A s.heap H locs) (hA : ∀ q, s.heap.size ≤ q → A q)
    (kk : ∀ (r : Int64) (u : Int32 × VS × VS × List Nat) (H1 : Heap) (locs1 : List Loc) (X1 : va_W) (T1 : List (ClassId × FieldType)), post r u → Lst dC dI ad bS Y s A h0 m0 u.1 u.2.1 u.2.2.1 u.2.2.2 im vm kvm tm X1 T1 M T2 H1 → va_S A s.heap H1 locs1 → W p l e R s m args below meth c H1 locs1 (cells + mc) (slots + ms) Q (F0 m (pc + 3) ls (.long r :: rest))) : W p l e R s m args below meth c H locs cells slots Q (F0 m pc ls st0) := by
  obtain ⟨hXI, hMI, hK, hK2, hDX, hDM, hX, hM, hY⟩ := hLS
  have hin := bl_in hDX hS hA
  refine va_calll hr hS (fun q _ h => hin q h) hin (fun r u t H1 locs1 ht hvm hpost hB hz hk hS1 => ?_)
  obtain ⟨X1, T1, h1, h2, h3⟩ := hB
  rw [ht] at h1
  refine kk r u H1 locs1 X1 T1 hpost ⟨h1, hMI.kept (fun c hc => hk c.1 (hY c.1 (hM c hc)) (fun h => ?_)), K_new hK hvm h3, hK2, h2.weaken (fun k q _ h => hin q.1 h), hDM, fun c hc => ?_, hM, fun q hq => Nat.lt_of_lt_of_le (hY q hq) hz⟩ hS1
  · rcases h with ⟨k, e9, hk9⟩ | h
    · exact hX _ (List.mem_of_getElem? hk9) (hM c hc)
    · exact absurd (hY c.1 (hM c hc)) (Nat.not_lt.mpr h)
  · rcases D_mem h2 c hc with ⟨k, e9, hk9⟩ | h
    · exact hX (c.1, e9) (List.mem_of_getElem? hk9)
    · exact fun hy => absurd (hY c.1 hy) (Nat.not_lt.mpr h)
theorem lm_l {post : Int64 → Int32 × VS × VS × List Nat → Prop} (hr : va_Run p l e R s m args below meth c H locs cells slots mc ms (F0 m pc ls st0) rest (va_Ql post (fun (u : Int32 × VS × VS × List Nat) (t : State) => ∃ M1 : va_W, MI dC dI u.1 u.2.1 u.2.2.1 u.2.2.2 T2 m0 M1 t.heap ∧ va_D (va_A M H.size) M1 ∧ M1.map (fun c => c.1) = M.map (fun c => c.1)) (va_A M H.size) a) (va_A M H.size)) (hLS : Lst dC dI ad bS Y s A h0 m0 ik vs kvs tl im vm kvm tm X T M T2 H) (hS : va_S A s.heap H locs) (hA : ∀ q, s.heap.size ≤ q → A q)
    (kk : ∀ (r : Int64) (u : Int32 × VS × VS × List Nat) (H1 : Heap) (locs1 : List Loc) (M1 : va_W), post r u → Lst dC dI ad bS Y s A h0 m0 ik vs kvs tl u.1 u.2.1 u.2.2.1 u.2.2.2 X T M1 T2 H1 → va_S A s.heap H1 locs1 → W p l e R s m args below meth c H1 locs1 (cells + mc) (slots + ms) Q (F0 m (pc + 3) ls (.long r :: rest))) : W p l e R s m args below meth c H locs cells slots Q (F0 m pc ls st0) := by
  obtain ⟨hXI, hMI, hK, hK2, hDX, hDM, hX, hM, hY⟩ := hLS
  have hin := bl_in hDM hS hA
  refine va_calll hr hS (fun q _ h => hin q h) hin (fun r u t H1 locs1 ht hvm hpost hB hz hk hS1 => ?_)
  obtain ⟨M1, h1, h2, h3⟩ := hB
  rw [ht] at h1
  refine kk r u H1 locs1 M1 hpost ⟨hXI.kept hX (fun q hq hny => hk q hq (fun h => ?_)), h1, hK, hK2, hDX, h2.weaken (fun k q _ h => hin q.1 h), hX, fun c hc => ?_, fun q hq => Nat.lt_of_lt_of_le (hY q hq) hz⟩ hS1
  · rcases h with ⟨k, e9, hk9⟩ | h
    · exact hny (hM _ (List.mem_of_getElem? hk9))
    · exact absurd hq (Nat.not_lt.mpr h)
  · have hm : c.1 ∈ M1.map (fun c => c.1) := List.mem_map.mpr ⟨c, hc, rfl⟩
    rw [h3] at hm
    obtain ⟨d, hd, e9⟩ := List.mem_map.mp hm
    rw [← e9]
    exact hM d hd
end
