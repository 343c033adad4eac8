
set_option maxHeartbeats 4000000 in
set_option maxRecDepth 100000 in
theorem v_odds (l : Launch) (dC : Nat → ClassId) (dI : Nat → Nat → Nat) (sK sV : Nat → Nat) (im : Int32) (vm kvm : VS) (tm : List Nat) (T : List (ClassId × FieldType)) (m0 : Nat) (M : va_W) (x : Int32) (y : Int32) (z : Int32) (sz : Nat) : Met l yX12_odds wsX12_odds ({ frames := 4, cells := 0, slots := 0, locals := 101 } : Room) (va_Pc [.ref m0, .int x, .int y, .int z] (fun U => U.heap.size = sz ∧ MI dC dI im vm kvm tm T m0 M U.heap ∧ va_K (dC, dI) vwCl T U ∧ Gs sK sV (va_A M sz) U)) (va_Ql (fun (r : Int64) (u : Int32 × VS × VS × List Nat) => u = (im, vm, kvm, tm)) (fun (u : Int32 × VS × VS × List Nat) (t : State) => ∃ M1 : va_W, MI dC dI u.1 u.2.1 u.2.2.1 u.2.2.2 T m0 M1 t.heap ∧ va_D (va_A M sz) M1 ∧ M1.map (fun c => c.1) = M.map (fun c => c.1)) (va_A M sz)) 0 0 (va_A M sz) := by
  obtain ⟨n, wk, kb, mi, sn, yk, yv, yc, hl, tp, tc, hC, ee⟩ := vm
  refine met_wrap (fun args s hPc => ?_)
  obtain ⟨rfl, rfl, hMM, hK, hE⟩ := hPc
  have hMM0 := hMM
  refine hMM _ (fun aS aI aB aT aG aO aN aD aY th ac sp en wg op se dn rn kd nu tv bv cS cI cB cT cG cO cN cD cY fS fI fB fT fG fO fN fD fY hM hP hD hTM hMS hMI hrn => ?_)
  have hMV : MV fS n mi sn yk yv yc ee := hMS.2.2
  have hMH : MH fS hl tp tc hC := hMS.2.1
  have hMS : MOK fS n wk kb hl tp := hMS.1
  obtain ⟨hn, zn, h5, z1, hw6, zw, hk12, zk, zb, ht, zt, hHd⟩ := id hMS
  obtain ⟨hrq, rfl, hYm⟩ := hrn
  subst hM
  have hP : va_P (dC, dI) vwCl ([(zo14irriiiiiirriirrrrlriiii m0 th aS aI im ac sp en wg op aB aT se dn aG aO aN aD bv aY (nI tm.length) kd nu tv), (zaI aS cS 901 fS), (zaI aI cI 901 fI), (zaI aB cB 6 fB), (zaI aT cT 64 fT), (zaI aG cG 9 fG), (zaL aO cO 36 fO), (zaL aN cN 36 fN), (zaI aD cD 36 fD), (zaI aY cY 20 fY)] ++ []) s.heap := hP
  have hD : va_D (fun _ => True) ([(zo14irriiiiiirriirrrrlriiii m0 th aS aI im ac sp en wg op aB aT se dn aG aO aN aD bv aY (nI tm.length) kd nu tv), (zaI aS cS 901 fS), (zaI aI cI 901 fI), (zaI aB cB 6 fB), (zaI aT cT 64 fT), (zaI aG cG 9 fG), (zaL aO cO 36 fO), (zaL aN cN 36 fN), (zaI aD cD 36 fD), (zaI aY cY 20 fY)] ++ []) := hD
  have hwc := bl_mem (G := [(zo14irriiiiiirriirrrrlriiii m0 th aS aI im ac sp en wg op aB aT se dn aG aO aN aD bv aY (nI tm.length) kd nu tv), (zaI aS cS 901 fS), (zaI aI cI 901 fI), (zaI aB cB 6 fB), (zaI aT cT 64 fT), (zaI aG cG 9 fG), (zaL aO cO 36 fO), (zaL aN cN 36 fN), (zaI aD cD 36 fD), (zaI aY cY 20 fY)]) (F := [(zo14irriiiiiirriirrrrlriiii m0 th aS aI im ac sp en wg op aB aT se dn aG aO aN aD bv aY (nI tm.length) kd nu tv), (zaI aS cS 901 fS), (zaI aB cB 6 fB), (zaI aT cT 64 fT), (zaL aO cO 36 fO), (zaL aN cN 36 fN), (zaI aD cD 36 fD)]) (T := []) [0, 1, 3, 4, 6, 7, 8] rfl
  have hPc := bl_sub (F := [(zo14irriiiiiirriirrrrlriiii m0 th aS aI im ac sp en wg op aB aT se dn aG aO aN aD bv aY (nI tm.length) kd nu tv), (zaI aS cS 901 fS), (zaI aB cB 6 fB), (zaI aT cT 64 fT), (zaL aO cO 36 fO), (zaL aN cN 36 fN), (zaI aD cD 36 fD)]) hP [0, 1, 3, 4, 6, 7, 8] rfl
  refine ⟨_, _, _, c_mOdds l dC dI m0 aS aI aB aT aG aO aN aD aY th im ac sp en wg op se dn (nI tm.length) kd nu tv bv cS cB cT cO cN cD fS fB fT fO fN fD n wk x y z hC s.heap.size zn hn (MH_hol hHd hMH h5) zw hw6, ⟨rfl, rfl, hPc, (K_mem hK hTM).sub [0, 2, 3, 5, 6, 7] rfl, bl_Dsub hD [0, 1, 3, 4, 6, 7, 8] (by decide) rfl⟩, fun o t hQ => ?_, fun q hq => bl_A hwc q hq⟩
  obtain ⟨⟨r, u9, rfl, hpost, hB⟩, hz, hkp⟩ := hQ
  obtain ⟨fB9, fT9, se9, dn9, fD9, fO9, fN9⟩ := u9
  try dsimp only at hpost hB
  obtain ⟨hP1, hK1, hD1⟩ := hB
  have hJ := bl_gen (F' := [(zo14irriiiiiirriirrrrlriiii m0 th aS aI im ac sp en wg op aB aT se9 dn9 aG aO aN aD bv aY (nI tm.length) kd nu tv), (zaI aS cS 901 fS), (zaI aI cI 901 fI), (zaI aB cB 6 fB9), (zaI aT cT 64 fT9), (zaI aG cG 9 fG), (zaL aO cO 36 fO9), (zaL aN cN 36 fN9), (zaI aD cD 36 fD9), (zaI aY cY 20 fY)]) hP hD [0, 1, 3, 4, 6, 7, 8] rfl hkp hP1 hD1 [some 0, some 1, none, some 2, some 3, none, some 4, some 5, some 6, none] [0, 1, 3, 4, 6, 7, 8] rfl (Or.inl rfl) rfl
  exact ⟨⟨r, (im, (n, wk, kb, mi, sn, yk, yv, yc, hl, tp, tc, hC, ee), kvm, tm), rfl, rfl, _, (fun M9 k9 => k9 aS aI aB aT aG aO aN aD aY th ac sp en wg op (se9) (dn9) ((nI tm.length)) kd nu tv bv cS cI cB cT cG cO cN cD cY fS fI (fB9) (fT9) fG (fO9) (fN9) (fD9) fY rfl hJ.1 ⟨hJ.2.1, fun _ _ _ => trivial⟩ hTM ⟨(show MOK fS n wk kb hl tp from hMS), (show MH fS hl tp tc hC from hMH), (show MV fS n mi sn yk yv yc ee from hMV)⟩ ((show im = 0 ∨ (MOK fI (kvm.1) (kvm.2.1) (kvm.2.2.1) (kvm.2.2.2.2.2.2.2.2.1) (kvm.2.2.2.2.2.2.2.2.2.1) ∧ MH fI (kvm.2.2.2.2.2.2.2.2.1) (kvm.2.2.2.2.2.2.2.2.2.1) (kvm.2.2.2.2.2.2.2.2.2.2.1) (kvm.2.2.2.2.2.2.2.2.2.2.2.1) ∧ MV fI (kvm.1) (kvm.2.2.2.1) (kvm.2.2.2.2.1) (kvm.2.2.2.2.2.1) (kvm.2.2.2.2.2.2.1) (kvm.2.2.2.2.2.2.2.1) (kvm.2.2.2.2.2.2.2.2.2.2.2.2)) from hMI)) (⟨hrq, rfl, hYm⟩)), hJ.2, rfl⟩, hz, fun q h1 h2 => hkp q h1 (fun h => h2 (bl_A hwc _ h))⟩

set_option maxHeartbeats 4000000 in
set_option maxRecDepth 100000 in
theorem v_best (l : Launch) (dC : Nat → ClassId) (dI : Nat → Nat → Nat) (sK sV : Nat → Nat) (im : Int32) (vm kvm : VS) (tm : List Nat) (T : List (ClassId × FieldType)) (m0 : Nat) (M : va_W) (x : Int32) (y : Int32) (z : Int32) (u : Int32) (sz : Nat) : Met l yX12_best wsX12_best ({ frames := 6, cells := 0, slots := 0, locals := 142 } : Room) (va_Pc [.ref m0, .int x, .int y, .int z, .int u] (fun U => U.heap.size = sz ∧ MI dC dI im vm kvm tm T m0 M U.heap ∧ va_K (dC, dI) vwCl T U ∧ Gs sK sV (va_A M sz) U)) (va_Qi (fun (r : Int32) (u : Int32 × VS × VS × List Nat) => u = (im, vm, kvm, tm)) (fun (u : Int32 × VS × VS × List Nat) (t : State) => ∃ M1 : va_W, MI dC dI u.1 u.2.1 u.2.2.1 u.2.2.2 T m0 M1 t.heap ∧ va_D (va_A M sz) M1 ∧ M1.map (fun c => c.1) = M.map (fun c => c.1)) (va_A M sz)) 0 0 (va_A M sz) := by
  obtain ⟨n, wk, kb, mi, sn, yk, yv, yc, hl, tp, tc, hC, ee⟩ := vm
  refine met_wrap (fun args s hPc => ?_)
  obtain ⟨rfl, rfl, hMM, hK, hE⟩ := hPc
  have hMM0 := hMM
  refine hMM _ (fun aS aI aB aT aG aO aN aD aY th ac sp en wg op se dn rn kd nu tv bv cS cI cB cT cG cO cN cD cY fS fI fB fT fG fO fN fD fY hM hP hD hTM hMS hMI hrn => ?_)
  have hMV : MV fS n mi sn yk yv yc ee := hMS.2.2
  have hMH : MH fS hl tp tc hC := hMS.2.1
  have hMS : MOK fS n wk kb hl tp := hMS.1
  obtain ⟨hn, zn, h5, z1, hw6, zw, hk12, zk, zb, ht, zt, hHd⟩ := id hMS
  obtain ⟨hrq, rfl, hYm⟩ := hrn
  subst hM
  have hP : va_P (dC, dI) vwCl ([(zo14irriiiiiirriirrrrlriiii m0 th aS aI im ac sp en wg op aB aT se dn aG aO aN aD bv aY (nI tm.length) kd nu tv), (zaI aS cS 901 fS), (zaI aI cI 901 fI), (zaI aB cB 6 fB), (zaI aT cT 64 fT), (zaI aG cG 9 fG), (zaL aO cO 36 fO), (zaL aN cN 36 fN), (zaI aD cD 36 fD), (zaI aY cY 20 fY)] ++ []) s.heap := hP
  have hD : va_D (fun _ => True) ([(zo14irriiiiiirriirrrrlriiii m0 th aS aI im ac sp en wg op aB aT se dn aG aO aN aD bv aY (nI tm.length) kd nu tv), (zaI aS cS 901 fS), (zaI aI cI 901 fI), (zaI aB cB 6 fB), (zaI aT cT 64 fT), (zaI aG cG 9 fG), (zaL aO cO 36 fO), (zaL aN cN 36 fN), (zaI aD cD 36 fD), (zaI aY cY 20 fY)] ++ []) := hD
  have hwc := bl_mem (G := [(zo14irriiiiiirriirrrrlriiii m0 th aS aI im ac sp en wg op aB aT se dn aG aO aN aD bv aY (nI tm.length) kd nu tv), (zaI aS cS 901 fS), (zaI aI cI 901 fI), (zaI aB cB 6 fB), (zaI aT cT 64 fT), (zaI aG cG 9 fG), (zaL aO cO 36 fO), (zaL aN cN 36 fN), (zaI aD cD 36 fD), (zaI aY cY 20 fY)]) (F := [(zo14irriiiiiirriirrrrlriiii m0 th aS aI im ac sp en wg op aB aT se dn aG aO aN aD bv aY (nI tm.length) kd nu tv), (zaI aS cS 901 fS), (zaI aB cB 6 fB), (zaI aT cT 64 fT), (zaL aO cO 36 fO), (zaL aN cN 36 fN), (zaI aD cD 36 fD)]) (T := []) [0, 1, 3, 4, 6, 7, 8] rfl
  have hPc := bl_sub (F := [(zo14irriiiiiirriirrrrlriiii m0 th aS aI im ac sp en wg op aB aT se dn aG aO aN aD bv aY (nI tm.length) kd nu tv), (zaI aS cS 901 fS), (zaI aB cB 6 fB), (zaI aT cT 64 fT), (zaL aO cO 36 fO), (zaL aN cN 36 fN), (zaI aD cD 36 fD)]) hP [0, 1, 3, 4, 6, 7, 8] rfl
  refine ⟨_, _, _, c_mBest l dC dI m0 aS aI aB aT aG aO aN aD aY th im ac sp en wg op se dn (nI tm.length) kd nu tv bv cS cB cT cO cN cD fS fB fT fO fN fD x y z u hC s.heap.size (MH_hol hHd hMH h5), ⟨rfl, rfl, hPc, (K_mem hK hTM).sub [0, 2, 3, 5, 6, 7] rfl, bl_Dsub hD [0, 1, 3, 4, 6, 7, 8] (by decide) rfl⟩, fun o t hQ => ?_, fun q hq => bl_A hwc q hq⟩
  obtain ⟨⟨r, u9, rfl, hpost, hB⟩, hz, hkp⟩ := hQ
  obtain ⟨fB9, fT9, se9, dn9, fD9, fO9, fN9, bv9⟩ := u9
  try dsimp only at hpost hB
  obtain ⟨hP1, hK1, hD1⟩ := hB
  have hJ := bl_gen (F' := [(zo14irriiiiiirriirrrrlriiii m0 th aS aI im ac sp en wg op aB aT se9 dn9 aG aO aN aD bv9 aY (nI tm.length) kd nu tv), (zaI aS cS 901 fS), (zaI aI cI 901 fI), (zaI aB cB 6 fB9), (zaI aT cT 64 fT9), (zaI aG cG 9 fG), (zaL aO cO 36 fO9), (zaL aN cN 36 fN9), (zaI aD cD 36 fD9), (zaI aY cY 20 fY)]) hP hD [0, 1, 3, 4, 6, 7, 8] rfl hkp hP1 hD1 [some 0, some 1, none, some 2, some 3, none, some 4, some 5, some 6, none] [0, 1, 3, 4, 6, 7, 8] rfl (Or.inl rfl) rfl
  exact ⟨⟨r, (im, (n, wk, kb, mi, sn, yk, yv, yc, hl, tp, tc, hC, ee), kvm, tm), rfl, rfl, _, (fun M9 k9 => k9 aS aI aB aT aG aO aN aD aY th ac sp en wg op (se9) (dn9) ((nI tm.length)) kd nu tv (bv9) cS cI cB cT cG cO cN cD cY fS fI (fB9) (fT9) fG (fO9) (fN9) (fD9) fY rfl hJ.1 ⟨hJ.2.1, fun _ _ _ => trivial⟩ hTM ⟨(show MOK fS n wk kb hl tp from hMS), (show MH fS hl tp tc hC from hMH), (show MV fS n mi sn yk yv yc ee from hMV)⟩ ((show im = 0 ∨ (MOK fI (kvm.1) (kvm.2.1) (kvm.2.2.1) (kvm.2.2.2.2.2.2.2.2.1) (kvm.2.2.2.2.2.2.2.2.2.1) ∧ MH fI (kvm.2.2.2.2.2.2.2.2.1) (kvm.2.2.2.2.2.2.2.2.2.1) (kvm.2.2.2.2.2.2.2.2.2.2.1) (kvm.2.2.2.2.2.2.2.2.2.2.2.1) ∧ MV fI (kvm.1) (kvm.2.2.2.1) (kvm.2.2.2.2.1) (kvm.2.2.2.2.2.1) (kvm.2.2.2.2.2.2.1) (kvm.2.2.2.2.2.2.2.1) (kvm.2.2.2.2.2.2.2.2.2.2.2.2)) from hMI)) (⟨hrq, rfl, hYm⟩)), hJ.2, rfl⟩, hz, fun q h1 h2 => hkp q h1 (fun h => h2 (bl_A hwc _ h))⟩

set_option maxHeartbeats 4000000 in
set_option maxRecDepth 100000 in
theorem v_bestOdds (l : Launch) (dC : Nat → ClassId) (dI : Nat → Nat → Nat) (sK sV : Nat → Nat) (im : Int32) (vm kvm : VS) (tm : List Nat) (T : List (ClassId × FieldType)) (m0 : Nat) (M : va_W) (x : Int32) (y : Int32) (z : Int32) (u : Int32) (sz : Nat) : Met l yX12_bestOdds wsX12_bestOdds ({ frames := 6, cells := 0, slots := 0, locals := 142 } : Room) (va_Pc [.ref m0, .int x, .int y, .int z, .int u] (fun U => U.heap.size = sz ∧ MI dC dI im vm kvm tm T m0 M U.heap ∧ va_K (dC, dI) vwCl T U ∧ Gs sK sV (va_A M sz) U)) (va_Ql (fun (r : Int64) (u : Int32 × VS × VS × List Nat) => u = (im, vm, kvm, tm)) (fun (u : Int32 × VS × VS × List Nat) (t : State) => ∃ M1 : va_W, MI dC dI u.1 u.2.1 u.2.2.1 u.2.2.2 T m0 M1 t.heap ∧ va_D (va_A M sz) M1 ∧ M1.map (fun c => c.1) = M.map (fun c => c.1)) (va_A M sz)) 0 0 (va_A M sz) := by
  obtain ⟨n, wk, kb, mi, sn, yk, yv, yc, hl, tp, tc, hC, ee⟩ := vm
  refine met_wrap (fun args s hPc => ?_)
  obtain ⟨rfl, rfl, hMM, hK, hE⟩ := hPc
  have hMM0 := hMM
  refine hMM _ (fun aS aI aB aT aG aO aN aD aY th ac sp en wg op se dn rn kd nu tv bv cS cI cB cT cG cO cN cD cY fS fI fB fT fG fO fN fD fY hM hP hD hTM hMS hMI hrn => ?_)
  have hMV : MV fS n mi sn yk yv yc ee := hMS.2.2
  have hMH : MH fS hl tp tc hC := hMS.2.1
  have hMS : MOK fS n wk kb hl tp := hMS.1
  obtain ⟨hn, zn, h5, z1, hw6, zw, hk12, zk, zb, ht, zt, hHd⟩ := id hMS
  obtain ⟨hrq, rfl, hYm⟩ := hrn
  subst hM
  have hP : va_P (dC, dI) vwCl ([(zo14irriiiiiirriirrrrlriiii m0 th aS aI im ac sp en wg op aB aT se dn aG aO aN aD bv aY (nI tm.length) kd nu tv), (zaI aS cS 901 fS), (zaI aI cI 901 fI), (zaI aB cB 6 fB), (zaI aT cT 64 fT), (zaI aG cG 9 fG), (zaL aO cO 36 fO), (zaL aN cN 36 fN), (zaI aD cD 36 fD), (zaI aY cY 20 fY)] ++ []) s.heap := hP
  have hD : va_D (fun _ => True) ([(zo14irriiiiiirriirrrrlriiii m0 th aS aI im ac sp en wg op aB aT se dn aG aO aN aD bv aY (nI tm.length) kd nu tv), (zaI aS cS 901 fS), (zaI aI cI 901 fI), (zaI aB cB 6 fB), (zaI aT cT 64 fT), (zaI aG cG 9 fG), (zaL aO cO 36 fO), (zaL aN cN 36 fN), (zaI aD cD 36 fD), (zaI aY cY 20 fY)] ++ []) := hD
  have hwc := bl_mem (G := [(zo14irriiiiiirriirrrrlriiii m0 th aS aI im ac sp en wg op aB aT se dn aG aO aN aD bv aY (nI tm.length) kd nu tv), (zaI aS cS 901 fS), (zaI aI cI 901 fI), (zaI aB cB 6 fB), (zaI aT cT 64 fT), (zaI aG cG 9 fG), (zaL aO cO 36 fO), (zaL aN cN 36 fN), (zaI aD cD 36 fD), (zaI aY cY 20 fY)]) (F := [(zo14irriiiiiirriirrrrlriiii m0 th aS aI im ac sp en wg op aB aT se dn aG aO aN aD bv aY (nI tm.length) kd nu tv), (zaI aS cS 901 fS), (zaI aB cB 6 fB), (zaI aT cT 64 fT), (zaL aO cO 36 fO), (zaL aN cN 36 fN), (zaI aD cD 36 fD)]) (T := []) [0, 1, 3, 4, 6, 7, 8] rfl
  have hPc := bl_sub (F := [(zo14irriiiiiirriirrrrlriiii m0 th aS aI im ac sp en wg op aB aT se dn aG aO aN aD bv aY (nI tm.length) kd nu tv), (zaI aS cS 901 fS), (zaI aB cB 6 fB), (zaI aT cT 64 fT), (zaL aO cO 36 fO), (zaL aN cN 36 fN), (zaI aD cD 36 fD)]) hP [0, 1, 3, 4, 6, 7, 8] rfl
  refine ⟨_, _, _, c_mBestOdds l dC dI m0 aS aI aB aT aG aO aN aD aY th im ac sp en wg op se dn (nI tm.length) kd nu tv bv cS cB cT cO cN cD fS fB fT fO fN fD x y z u hC s.heap.size (MH_hol hHd hMH h5), ⟨rfl, rfl, hPc, (K_mem hK hTM).sub [0, 2, 3, 5, 6, 7] rfl, bl_Dsub hD [0, 1, 3, 4, 6, 7, 8] (by decide) rfl⟩, fun o t hQ => ?_, fun q hq => bl_A hwc q hq⟩
  obtain ⟨⟨r, u9, rfl, hpost, hB⟩, hz, hkp⟩ := hQ
  obtain ⟨fB9, fT9, se9, dn9, fD9, fO9, fN9, bv9⟩ := u9
  try dsimp only at hpost hB
  obtain ⟨hP1, hK1, hD1⟩ := hB
  have hJ := bl_gen (F' := [(zo14irriiiiiirriirrrrlriiii m0 th aS aI im ac sp en wg op aB aT se9 dn9 aG aO aN aD bv9 aY (nI tm.length) kd nu tv), (zaI aS cS 901 fS), (zaI aI cI 901 fI), (zaI aB cB 6 fB9), (zaI aT cT 64 fT9), (zaI aG cG 9 fG), (zaL aO cO 36 fO9), (zaL aN cN 36 fN9), (zaI aD cD 36 fD9), (zaI aY cY 20 fY)]) hP hD [0, 1, 3, 4, 6, 7, 8] rfl hkp hP1 hD1 [some 0, some 1, none, some 2, some 3, none, some 4, some 5, some 6, none] [0, 1, 3, 4, 6, 7, 8] rfl (Or.inl rfl) rfl
  exact ⟨⟨r, (im, (n, wk, kb, mi, sn, yk, yv, yc, hl, tp, tc, hC, ee), kvm, tm), rfl, rfl, _, (fun M9 k9 => k9 aS aI aB aT aG aO aN aD aY th ac sp en wg op (se9) (dn9) ((nI tm.length)) kd nu tv (bv9) cS cI cB cT cG cO cN cD cY fS fI (fB9) (fT9) fG (fO9) (fN9) (fD9) fY rfl hJ.1 ⟨hJ.2.1, fun _ _ _ => trivial⟩ hTM ⟨(show MOK fS n wk kb hl tp from hMS), (show MH fS hl tp tc hC from hMH), (show MV fS n mi sn yk yv yc ee from hMV)⟩ ((show im = 0 ∨ (MOK fI (kvm.1) (kvm.2.1) (kvm.2.2.1) (kvm.2.2.2.2.2.2.2.2.1) (kvm.2.2.2.2.2.2.2.2.2.1) ∧ MH fI (kvm.2.2.2.2.2.2.2.2.1) (kvm.2.2.2.2.2.2.2.2.2.1) (kvm.2.2.2.2.2.2.2.2.2.2.1) (kvm.2.2.2.2.2.2.2.2.2.2.2.1) ∧ MV fI (kvm.1) (kvm.2.2.2.1) (kvm.2.2.2.2.1) (kvm.2.2.2.2.2.1) (kvm.2.2.2.2.2.2.1) (kvm.2.2.2.2.2.2.2.1) (kvm.2.2.2.2.2.2.2.2.2.2.2.2)) from hMI)) (⟨hrq, rfl, hYm⟩)), hJ.2, rfl⟩, hz, fun q h1 h2 => hkp q h1 (fun h => h2 (bl_A hwc _ h))⟩

set_option maxHeartbeats 4000000 in
set_option maxRecDepth 100000 in
theorem v_safe (l : Launch) (dC : Nat → ClassId) (dI : Nat → Nat → Nat) (sK sV : Nat → Nat) (im : Int32) (vm kvm : VS) (tm : List Nat) (T : List (ClassId × FieldType)) (m0 : Nat) (M : va_W) (x : Int32) (y : Int32) (z : Int32) (sz : Nat) : Met l yX12_safe wsX12_safe ({ frames := 6, cells := 0, slots := 0, locals := 142 } : Room) (va_Pc [.ref m0, .int x, .int y, .int z] (fun U => U.heap.size = sz ∧ MI dC dI im vm kvm tm T m0 M U.heap ∧ va_K (dC, dI) vwCl T U ∧ Gs sK sV (va_A M sz) U)) (va_Qi (fun (r : Int32) (u : Int32 × VS × VS × List Nat) => u = (im, vm, kvm, tm)) (fun (u : Int32 × VS × VS × List Nat) (t : State) => ∃ M1 : va_W, MI dC dI u.1 u.2.1 u.2.2.1 u.2.2.2 T m0 M1 t.heap ∧ va_D (va_A M sz) M1 ∧ M1.map (fun c => c.1) = M.map (fun c => c.1)) (va_A M sz)) 0 0 (va_A M sz) := by
  obtain ⟨n, wk, kb, mi, sn, yk, yv, yc, hl, tp, tc, hC, ee⟩ := vm
  refine met_wrap (fun args s hPc => ?_)
  obtain ⟨rfl, rfl, hMM, hK, hE⟩ := hPc
  have hMM0 := hMM
  refine hMM _ (fun aS aI aB aT aG aO aN aD aY th ac sp en wg op se dn rn kd nu tv bv cS cI cB cT cG cO cN cD cY fS fI fB fT fG fO fN fD fY hM hP hD hTM hMS hMI hrn => ?_)
  have hMV : MV fS n mi sn yk yv yc ee := hMS.2.2
  have hMH : MH fS hl tp tc hC := hMS.2.1
  have hMS : MOK fS n wk kb hl tp := hMS.1
  obtain ⟨hn, zn, h5, z1, hw6, zw, hk12, zk, zb, ht, zt, hHd⟩ := id hMS
  obtain ⟨hrq, rfl, hYm⟩ := hrn
  subst hM
  have hP : va_P (dC, dI) vwCl ([(zo14irriiiiiirriirrrrlriiii m0 th aS aI im ac sp en wg op aB aT se dn aG aO aN aD bv aY (nI tm.length) kd nu tv), (zaI aS cS 901 fS), (zaI aI cI 901 fI), (zaI aB cB 6 fB), (zaI aT cT 64 fT), (zaI aG cG 9 fG), (zaL aO cO 36 fO), (zaL aN cN 36 fN), (zaI aD cD 36 fD), (zaI aY cY 20 fY)] ++ []) s.heap := hP
  have hD : va_D (fun _ => True) ([(zo14irriiiiiirriirrrrlriiii m0 th aS aI im ac sp en wg op aB aT se dn aG aO aN aD bv aY (nI tm.length) kd nu tv), (zaI aS cS 901 fS), (zaI aI cI 901 fI), (zaI aB cB 6 fB), (zaI aT cT 64 fT), (zaI aG cG 9 fG), (zaL aO cO 36 fO), (zaL aN cN 36 fN), (zaI aD cD 36 fD), (zaI aY cY 20 fY)] ++ []) := hD
  have hwc := bl_mem (G := [(zo14irriiiiiirriirrrrlriiii m0 th aS aI im ac sp en wg op aB aT se dn aG aO aN aD bv aY (nI tm.length) kd nu tv), (zaI aS cS 901 fS), (zaI aI cI 901 fI), (zaI aB cB 6 fB), (zaI aT cT 64 fT), (zaI aG cG 9 fG), (zaL aO cO 36 fO), (zaL aN cN 36 fN), (zaI aD cD 36 fD), (zaI aY cY 20 fY)]) (F := [(zo14irriiiiiirriirrrrlriiii m0 th aS aI im ac sp en wg op aB aT se dn aG aO aN aD bv aY (nI tm.length) kd nu tv), (zaI aS cS 901 fS), (zaI aB cB 6 fB), (zaI aT cT 64 fT), (zaL aO cO 36 fO), (zaL aN cN 36 fN), (zaI aD cD 36 fD)]) (T := []) [0, 1, 3, 4, 6, 7, 8] rfl
  have hPc := bl_sub (F := [(zo14irriiiiiirriirrrrlriiii m0 th aS aI im ac sp en wg op aB aT se dn aG aO aN aD bv aY (nI tm.length) kd nu tv), (zaI aS cS 901 fS), (zaI aB cB 6 fB), (zaI aT cT 64 fT), (zaL aO cO 36 fO), (zaL aN cN 36 fN), (zaI aD cD 36 fD)]) hP [0, 1, 3, 4, 6, 7, 8] rfl
  refine ⟨_, _, _, c_mSafe l dC dI m0 aS aI aB aT aG aO aN aD aY th im ac sp en wg op se dn (nI tm.length) kd nu tv bv cS cB cT cO cN cD fS fB fT fO fN fD x y z hC s.heap.size (MH_hol hHd hMH h5), ⟨rfl, rfl, hPc, (K_mem hK hTM).sub [0, 2, 3, 5, 6, 7] rfl, bl_Dsub hD [0, 1, 3, 4, 6, 7, 8] (by decide) rfl⟩, fun o t hQ => ?_, fun q hq => bl_A hwc q hq⟩
  obtain ⟨⟨r, u9, rfl, hpost, hB⟩, hz, hkp⟩ := hQ
  obtain ⟨fB9, fT9, se9, dn9, fD9, fO9, fN9, bv9⟩ := u9
  try dsimp only at hpost hB
  obtain ⟨hP1, hK1, hD1⟩ := hB
  have hJ := bl_gen (F' := [(zo14irriiiiiirriirrrrlriiii m0 th aS aI im ac sp en wg op aB aT se9 dn9 aG aO aN aD bv9 aY (nI tm.length) kd nu tv), (zaI aS cS 901 fS), (zaI aI cI 901 fI), (zaI aB cB 6 fB9), (zaI aT cT 64 fT9), (zaI aG cG 9 fG), (zaL aO cO 36 fO9), (zaL aN cN 36 fN9), (zaI aD cD 36 fD9), (zaI aY cY 20 fY)]) hP hD [0, 1, 3, 4, 6, 7, 8] rfl hkp hP1 hD1 [some 0, some 1, none, some 2, some 3, none, some 4, some 5, some 6, none] [0, 1, 3, 4, 6, 7, 8] rfl (Or.inl rfl) rfl
  exact ⟨⟨r, (im, (n, wk, kb, mi, sn, yk, yv, yc, hl, tp, tc, hC, ee), kvm, tm), rfl, rfl, _, (fun M9 k9 => k9 aS aI aB aT aG aO aN aD aY th ac sp en wg op (se9) (dn9) ((nI tm.length)) kd nu tv (bv9) cS cI cB cT cG cO cN cD cY fS fI (fB9) (fT9) fG (fO9) (fN9) (fD9) fY rfl hJ.1 ⟨hJ.2.1, fun _ _ _ => trivial⟩ hTM ⟨(show MOK fS n wk kb hl tp from hMS), (show MH fS hl tp tc hC from hMH), (show MV fS n mi sn yk yv yc ee from hMV)⟩ ((show im = 0 ∨ (MOK fI (kvm.1) (kvm.2.1) (kvm.2.2.1) (kvm.2.2.2.2.2.2.2.2.1) (kvm.2.2.2.2.2.2.2.2.2.1) ∧ MH fI (kvm.2.2.2.2.2.2.2.2.1) (kvm.2.2.2.2.2.2.2.2.2.1) (kvm.2.2.2.2.2.2.2.2.2.2.1) (kvm.2.2.2.2.2.2.2.2.2.2.2.1) ∧ MV fI (kvm.1) (kvm.2.2.2.1) (kvm.2.2.2.2.1) (kvm.2.2.2.2.2.1) (kvm.2.2.2.2.2.2.1) (kvm.2.2.2.2.2.2.2.1) (kvm.2.2.2.2.2.2.2.2.2.2.2.2)) from hMI)) (⟨hrq, rfl, hYm⟩)), hJ.2, rfl⟩, hz, fun q h1 h2 => hkp q h1 (fun h => h2 (bl_A hwc _ h))⟩

set_option maxHeartbeats 4000000 in
set_option maxRecDepth 100000 in
theorem v_looked (l : Launch) (dC : Nat → ClassId) (dI : Nat → Nat → Nat) (sK sV : Nat → Nat) (im : Int32) (vm kvm : VS) (tm : List Nat) (T : List (ClassId × FieldType)) (m0 : Nat) (M : va_W)  (sz : Nat) : Met l yX12_looked wsX12_looked ({ frames := 4, cells := 0, slots := 0, locals := 103 } : Room) (va_Pc [.ref m0] (fun U => U.heap.size = sz ∧ MI dC dI im vm kvm tm T m0 M U.heap ∧ va_K (dC, dI) vwCl T U ∧ Gs sK sV (va_A M sz) U)) (va_Qi (fun (r : Int32) (u : Int32 × VS × VS × List Nat) => u = (im, vm, kvm, tm)) (fun (u : Int32 × VS × VS × List Nat) (t : State) => ∃ M1 : va_W, MI dC dI u.1 u.2.1 u.2.2.1 u.2.2.2 T m0 M1 t.heap ∧ va_D (va_A M sz) M1 ∧ M1.map (fun c => c.1) = M.map (fun c => c.1)) (va_A M sz)) 0 0 (va_A M sz) := by
  obtain ⟨n, wk, kb, mi, sn, yk, yv, yc, hl, tp, tc, hC, ee⟩ := vm
  refine met_wrap (fun args s hPc => ?_)
  obtain ⟨rfl, rfl, hMM, hK, hE⟩ := hPc
  have hMM0 := hMM
  refine hMM _ (fun aS aI aB aT aG aO aN aD aY th ac sp en wg op se dn rn kd nu tv bv cS cI cB cT cG cO cN cD cY fS fI fB fT fG fO fN fD fY hM hP hD hTM hMS hMI hrn => ?_)
  have hMV : MV fS n mi sn yk yv yc ee := hMS.2.2
  have hMH : MH fS hl tp tc hC := hMS.2.1
  have hMS : MOK fS n wk kb hl tp := hMS.1
  obtain ⟨hn, zn, h5, z1, hw6, zw, hk12, zk, zb, ht, zt, hHd⟩ := id hMS
  obtain ⟨hrq, rfl, hYm⟩ := hrn
  subst hM
  have hP : va_P (dC, dI) vwCl ([(zo14irriiiiiirriirrrrlriiii m0 th aS aI im ac sp en wg op aB aT se dn aG aO aN aD bv aY (nI tm.length) kd nu tv), (zaI aS cS 901 fS), (zaI aI cI 901 fI), (zaI aB cB 6 fB), (zaI aT cT 64 fT), (zaI aG cG 9 fG), (zaL aO cO 36 fO), (zaL aN cN 36 fN), (zaI aD cD 36 fD), (zaI aY cY 20 fY)] ++ []) s.heap := hP
  have hD : va_D (fun _ => True) ([(zo14irriiiiiirriirrrrlriiii m0 th aS aI im ac sp en wg op aB aT se dn aG aO aN aD bv aY (nI tm.length) kd nu tv), (zaI aS cS 901 fS), (zaI aI cI 901 fI), (zaI aB cB 6 fB), (zaI aT cT 64 fT), (zaI aG cG 9 fG), (zaL aO cO 36 fO), (zaL aN cN 36 fN), (zaI aD cD 36 fD), (zaI aY cY 20 fY)] ++ []) := hD
  have hwc := bl_mem (G := [(zo14irriiiiiirriirrrrlriiii m0 th aS aI im ac sp en wg op aB aT se dn aG aO aN aD bv aY (nI tm.length) kd nu tv), (zaI aS cS 901 fS), (zaI aI cI 901 fI), (zaI aB cB 6 fB), (zaI aT cT 64 fT), (zaI aG cG 9 fG), (zaL aO cO 36 fO), (zaL aN cN 36 fN), (zaI aD cD 36 fD), (zaI aY cY 20 fY)]) (F := [(zo14irriiiiiirriirrrrlriiii m0 th aS aI im ac sp en wg op aB aT se dn aG aO aN aD bv aY (nI tm.length) kd nu tv), (zaI aS cS 901 fS), (zaI aB cB 6 fB), (zaI aT cT 64 fT)]) (T := []) [0, 1, 3, 4] rfl
  have hPc := bl_sub (F := [(zo14irriiiiiirriirrrrlriiii m0 th aS aI im ac sp en wg op aB aT se dn aG aO aN aD bv aY (nI tm.length) kd nu tv), (zaI aS cS 901 fS), (zaI aB cB 6 fB), (zaI aT cT 64 fT)]) hP [0, 1, 3, 4] rfl
  refine ⟨_, _, _, c_mLooked l dC dI m0 aS aI aB aT aG aO aN aD aY th im ac sp en wg op se dn (nI tm.length) kd nu tv bv cS cB cT fS fB fT kb hC s.heap.size (MH_hol hHd hMH h5) zk hk12 zb, ⟨rfl, rfl, hPc, (K_mem hK hTM).sub [0, 2, 3] rfl, bl_Dsub hD [0, 1, 3, 4] (by decide) rfl⟩, fun o t hQ => ?_, fun q hq => bl_A hwc q hq⟩
  obtain ⟨⟨r, u9, rfl, hpost, hB⟩, hz, hkp⟩ := hQ
  obtain ⟨fB9, fT9, se9, dn9⟩ := u9
  try dsimp only at hpost hB
  obtain ⟨hP1, hK1, hD1⟩ := hB
  have hJ := bl_gen (F' := [(zo14irriiiiiirriirrrrlriiii m0 th aS aI im ac sp en wg op aB aT se9 dn9 aG aO aN aD bv aY (nI tm.length) kd nu tv), (zaI aS cS 901 fS), (zaI aI cI 901 fI), (zaI aB cB 6 fB9), (zaI aT cT 64 fT9), (zaI aG cG 9 fG), (zaL aO cO 36 fO), (zaL aN cN 36 fN), (zaI aD cD 36 fD), (zaI aY cY 20 fY)]) hP hD [0, 1, 3, 4] rfl hkp hP1 hD1 [some 0, some 1, none, some 2, some 3, none, none, none, none, none] [0, 1, 3, 4] rfl (Or.inl rfl) rfl
  exact ⟨⟨r, (im, (n, wk, kb, mi, sn, yk, yv, yc, hl, tp, tc, hC, ee), kvm, tm), rfl, rfl, _, (fun M9 k9 => k9 aS aI aB aT aG aO aN aD aY th ac sp en wg op (se9) (dn9) ((nI tm.length)) kd nu tv bv cS cI cB cT cG cO cN cD cY fS fI (fB9) (fT9) fG fO fN fD fY rfl hJ.1 ⟨hJ.2.1, fun _ _ _ => trivial⟩ hTM ⟨(show MOK fS n wk kb hl tp from hMS), (show MH fS hl tp tc hC from hMH), (show MV fS n mi sn yk yv yc ee from hMV)⟩ ((show im = 0 ∨ (MOK fI (kvm.1) (kvm.2.1) (kvm.2.2.1) (kvm.2.2.2.2.2.2.2.2.1) (kvm.2.2.2.2.2.2.2.2.2.1) ∧ MH fI (kvm.2.2.2.2.2.2.2.2.1) (kvm.2.2.2.2.2.2.2.2.2.1) (kvm.2.2.2.2.2.2.2.2.2.2.1) (kvm.2.2.2.2.2.2.2.2.2.2.2.1) ∧ MV fI (kvm.1) (kvm.2.2.2.1) (kvm.2.2.2.2.1) (kvm.2.2.2.2.2.1) (kvm.2.2.2.2.2.2.1) (kvm.2.2.2.2.2.2.2.1) (kvm.2.2.2.2.2.2.2.2.2.2.2.2)) from hMI)) (⟨hrq, rfl, hYm⟩)), hJ.2, rfl⟩, hz, fun q h1 h2 => hkp q h1 (fun h => h2 (bl_A hwc _ h))⟩

set_option maxHeartbeats 4000000 in
set_option maxRecDepth 100000 in
theorem v_of (l : Launch) (dC : Nat → ClassId) (dI : Nat → Nat → Nat) (sK sV : Nat → Nat) (im : Int32) (vm kvm : VS) (tm : List Nat) (T : List (ClassId × FieldType)) (m0 : Nat) (M : va_W) (x : Int32) (y : Int32) (sz : Nat) : Met l yX12_of wsX12_of ({ frames := 2, cells := 0, slots := 0, locals := 55 } : Room) (va_Pc [.ref m0, .int x, .int y] (fun U => U.heap.size = sz ∧ MI dC dI im vm kvm tm T m0 M U.heap ∧ va_K (dC, dI) vwCl T U ∧ Gs sK sV (va_A M sz) U)) (va_Qi (fun (r : Int32) (u : Int32 × VS × VS × List Nat) => r = ofR vm.1 vm.2.2.2.2.2.1 vm.2.2.2.2.2.2.1 vm.2.2.2.2.2.2.2.1 vm.2.2.2.2.2.2.2.2.2.2.2.1 vm.2.2.2.1 vm.2.2.2.2.1 x y ∧ u = (im, vm, kvm, tm)) (fun (u : Int32 × VS × VS × List Nat) (t : State) => ∃ M1 : va_W, MI dC dI u.1 u.2.1 u.2.2.1 u.2.2.2 T m0 M1 t.heap ∧ va_D (va_A M sz) M1 ∧ M1.map (fun c => c.1) = M.map (fun c => c.1)) (va_A M sz)) 0 0 (va_A M sz) := by
  obtain ⟨n, wk, kb, mi, sn, yk, yv, yc, hl, tp, tc, hC, ee⟩ := vm
  refine met_wrap (fun args s hPc => ?_)
  obtain ⟨rfl, rfl, hMM, hK, hE⟩ := hPc
  have hMM0 := hMM
  refine hMM _ (fun aS aI aB aT aG aO aN aD aY th ac sp en wg op se dn rn kd nu tv bv cS cI cB cT cG cO cN cD cY fS fI fB fT fG fO fN fD fY hM hP hD hTM hMS hMI hrn => ?_)
  have hMV : MV fS n mi sn yk yv yc ee := hMS.2.2
  have hMH : MH fS hl tp tc hC := hMS.2.1
  have hMS : MOK fS n wk kb hl tp := hMS.1
  obtain ⟨hn, zn, h5, z1, hw6, zw, hk12, zk, zb, ht, zt, hHd⟩ := id hMS
  obtain ⟨hrq, rfl, hYm⟩ := hrn
  subst hM
  have hP : va_P (dC, dI) vwCl ([(zo14irriiiiiirriirrrrlriiii m0 th aS aI im ac sp en wg op aB aT se dn aG aO aN aD bv aY (nI tm.length) kd nu tv), (zaI aS cS 901 fS), (zaI aI cI 901 fI), (zaI aB cB 6 fB), (zaI aT cT 64 fT), (zaI aG cG 9 fG), (zaL aO cO 36 fO), (zaL aN cN 36 fN), (zaI aD cD 36 fD), (zaI aY cY 20 fY)] ++ []) s.heap := hP
  have hD : va_D (fun _ => True) ([(zo14irriiiiiirriirrrrlriiii m0 th aS aI im ac sp en wg op aB aT se dn aG aO aN aD bv aY (nI tm.length) kd nu tv), (zaI aS cS 901 fS), (zaI aI cI 901 fI), (zaI aB cB 6 fB), (zaI aT cT 64 fT), (zaI aG cG 9 fG), (zaL aO cO 36 fO), (zaL aN cN 36 fN), (zaI aD cD 36 fD), (zaI aY cY 20 fY)] ++ []) := hD
  have hwc := bl_mem (G := [(zo14irriiiiiirriirrrrlriiii m0 th aS aI im ac sp en wg op aB aT se dn aG aO aN aD bv aY (nI tm.length) kd nu tv), (zaI aS cS 901 fS), (zaI aI cI 901 fI), (zaI aB cB 6 fB), (zaI aT cT 64 fT), (zaI aG cG 9 fG), (zaL aO cO 36 fO), (zaL aN cN 36 fN), (zaI aD cD 36 fD), (zaI aY cY 20 fY)]) (F := [(zo14irriiiiiirriirrrrlriiii m0 th aS aI im ac sp en wg op aB aT se dn aG aO aN aD bv aY (nI tm.length) kd nu tv), (zaI aS cS 901 fS), (zaI aB cB 6 fB), (zaI aT cT 64 fT)]) (T := []) [0, 1, 3, 4] rfl
  have hPc := bl_sub (F := [(zo14irriiiiiirriirrrrlriiii m0 th aS aI im ac sp en wg op aB aT se dn aG aO aN aD bv aY (nI tm.length) kd nu tv), (zaI aS cS 901 fS), (zaI aB cB 6 fB), (zaI aT cT 64 fT)]) hP [0, 1, 3, 4] rfl
  refine ⟨_, _, _, c_mOf l dC dI m0 aS aI aB aT aG aO aN aD aY th im ac sp en wg op se dn (nI tm.length) kd nu tv bv cS cB cT fS fB fT n yk yv yc mi sn x y hC s.heap.size zn hn (MH_hol hHd hMH h5) hMV.2.2.1 hMV.2.2.2.1 hMV.2.2.2.2.1 hMV.1 hMV.2.1, ⟨rfl, rfl, hPc, (K_mem hK hTM).sub [0, 2, 3] rfl, bl_Dsub hD [0, 1, 3, 4] (by decide) rfl⟩, fun o t hQ => ?_, fun q hq => bl_A hwc q hq⟩
  obtain ⟨⟨r, u9, rfl, hpost, hB⟩, hz, hkp⟩ := hQ
  obtain ⟨fB9, fT9, se9, dn9⟩ := u9
  try dsimp only at hpost hB
  obtain ⟨hP1, hK1, hD1⟩ := hB
  have hJ := bl_gen (F' := [(zo14irriiiiiirriirrrrlriiii m0 th aS aI im ac sp en wg op aB aT se9 dn9 aG aO aN aD bv aY (nI tm.length) kd nu tv), (zaI aS cS 901 fS), (zaI aI cI 901 fI), (zaI aB cB 6 fB9), (zaI aT cT 64 fT9), (zaI aG cG 9 fG), (zaL aO cO 36 fO), (zaL aN cN 36 fN), (zaI aD cD 36 fD), (zaI aY cY 20 fY)]) hP hD [0, 1, 3, 4] rfl hkp hP1 hD1 [some 0, some 1, none, some 2, some 3, none, none, none, none, none] [0, 1, 3, 4] rfl (Or.inl rfl) rfl
  exact ⟨⟨r, (im, (n, wk, kb, mi, sn, yk, yv, yc, hl, tp, tc, hC, ee), kvm, tm), rfl, ⟨hpost, rfl⟩, _, (fun M9 k9 => k9 aS aI aB aT aG aO aN aD aY th ac sp en wg op (se9) (dn9) ((nI tm.length)) kd nu tv bv cS cI cB cT cG cO cN cD cY fS fI (fB9) (fT9) fG fO fN fD fY rfl hJ.1 ⟨hJ.2.1, fun _ _ _ => trivial⟩ hTM ⟨(show MOK fS n wk kb hl tp from hMS), (show MH fS hl tp tc hC from hMH), (show MV fS n mi sn yk yv yc ee from hMV)⟩ ((show im = 0 ∨ (MOK fI (kvm.1) (kvm.2.1) (kvm.2.2.1) (kvm.2.2.2.2.2.2.2.2.1) (kvm.2.2.2.2.2.2.2.2.2.1) ∧ MH fI (kvm.2.2.2.2.2.2.2.2.1) (kvm.2.2.2.2.2.2.2.2.2.1) (kvm.2.2.2.2.2.2.2.2.2.2.1) (kvm.2.2.2.2.2.2.2.2.2.2.2.1) ∧ MV fI (kvm.1) (kvm.2.2.2.1) (kvm.2.2.2.2.1) (kvm.2.2.2.2.2.1) (kvm.2.2.2.2.2.2.1) (kvm.2.2.2.2.2.2.2.1) (kvm.2.2.2.2.2.2.2.2.2.2.2.2)) from hMI)) (⟨hrq, rfl, hYm⟩)), hJ.2, rfl⟩, hz, fun q h1 h2 => hkp q h1 (fun h => h2 (bl_A hwc _ h))⟩

set_option maxHeartbeats 4000000 in
set_option maxRecDepth 100000 in
theorem v_sees (l : Launch) (dC : Nat → ClassId) (dI : Nat → Nat → Nat) (sK sV : Nat → Nat) (im : Int32) (vm kvm : VS) (tm : List Nat) (T : List (ClassId × FieldType)) (m0 : Nat) (M : va_W) (x : Int32) (sz : Nat) : Met l yX12_sees wsX12_sees ({ frames := 4, cells := 0, slots := 0, locals := 100 } : Room) (va_Pc [.ref m0, .int x] (fun U => U.heap.size = sz ∧ MI dC dI im vm kvm tm T m0 M U.heap ∧ va_K (dC, dI) vwCl T U ∧ Gs sK sV (va_A M sz) U)) (va_Qi (fun (r : Int32) (u : Int32 × VS × VS × List Nat) => r = seR vm.1 vm.2.2.2.2.2.1 vm.2.2.2.2.2.2.1 vm.2.2.2.2.2.2.2.1 vm.2.2.2.2.2.2.2.2.2.2.2.1 vm.2.2.2.1 vm.2.2.2.2.1 x ∧ u = (im, vm, kvm, tm)) (fun (u : Int32 × VS × VS × List Nat) (t : State) => ∃ M1 : va_W, MI dC dI u.1 u.2.1 u.2.2.1 u.2.2.2 T m0 M1 t.heap ∧ va_D (va_A M sz) M1 ∧ M1.map (fun c => c.1) = M.map (fun c => c.1)) (va_A M sz)) 0 0 (va_A M sz) := by
  obtain ⟨n, wk, kb, mi, sn, yk, yv, yc, hl, tp, tc, hC, ee⟩ := vm
  refine met_wrap (fun args s hPc => ?_)
  obtain ⟨rfl, rfl, hMM, hK, hE⟩ := hPc
  have hMM0 := hMM
  refine hMM _ (fun aS aI aB aT aG aO aN aD aY th ac sp en wg op se dn rn kd nu tv bv cS cI cB cT cG cO cN cD cY fS fI fB fT fG fO fN fD fY hM hP hD hTM hMS hMI hrn => ?_)
  have hMV : MV fS n mi sn yk yv yc ee := hMS.2.2
  have hMH : MH fS hl tp tc hC := hMS.2.1
  have hMS : MOK fS n wk kb hl tp := hMS.1
  obtain ⟨hn, zn, h5, z1, hw6, zw, hk12, zk, zb, ht, zt, hHd⟩ := id hMS
  obtain ⟨hrq, rfl, hYm⟩ := hrn
  subst hM
  have hP : va_P (dC, dI) vwCl ([(zo14irriiiiiirriirrrrlriiii m0 th aS aI im ac sp en wg op aB aT se dn aG aO aN aD bv aY (nI tm.length) kd nu tv), (zaI aS cS 901 fS), (zaI aI cI 901 fI), (zaI aB cB 6 fB), (zaI aT cT 64 fT), (zaI aG cG 9 fG), (zaL aO cO 36 fO), (zaL aN cN 36 fN), (zaI aD cD 36 fD), (zaI aY cY 20 fY)] ++ []) s.heap := hP
  have hD : va_D (fun _ => True) ([(zo14irriiiiiirriirrrrlriiii m0 th aS aI im ac sp en wg op aB aT se dn aG aO aN aD bv aY (nI tm.length) kd nu tv), (zaI aS cS 901 fS), (zaI aI cI 901 fI), (zaI aB cB 6 fB), (zaI aT cT 64 fT), (zaI aG cG 9 fG), (zaL aO cO 36 fO), (zaL aN cN 36 fN), (zaI aD cD 36 fD), (zaI aY cY 20 fY)] ++ []) := hD
  have hwc := bl_mem (G := [(zo14irriiiiiirriirrrrlriiii m0 th aS aI im ac sp en wg op aB aT se dn aG aO aN aD bv aY (nI tm.length) kd nu tv), (zaI aS cS 901 fS), (zaI aI cI 901 fI), (zaI aB cB 6 fB), (zaI aT cT 64 fT), (zaI aG cG 9 fG), (zaL aO cO 36 fO), (zaL aN cN 36 fN), (zaI aD cD 36 fD), (zaI aY cY 20 fY)]) (F := [(zo14irriiiiiirriirrrrlriiii m0 th aS aI im ac sp en wg op aB aT se dn aG aO aN aD bv aY (nI tm.length) kd nu tv), (zaI aS cS 901 fS), (zaI aB cB 6 fB), (zaI aT cT 64 fT)]) (T := []) [0, 1, 3, 4] rfl
  have hPc := bl_sub (F := [(zo14irriiiiiirriirrrrlriiii m0 th aS aI im ac sp en wg op aB aT se dn aG aO aN aD bv aY (nI tm.length) kd nu tv), (zaI aS cS 901 fS), (zaI aB cB 6 fB), (zaI aT cT 64 fT)]) hP [0, 1, 3, 4] rfl
  refine ⟨_, _, _, c_mSees l dC dI m0 aS aI aB aT aG aO aN aD aY th im ac sp en wg op se dn (nI tm.length) kd nu tv bv cS cB cT fS fB fT n yk yv yc mi sn x hC s.heap.size zn hn (MH_hol hHd hMH h5) hMV.2.2.1 hMV.2.2.2.1 hMV.2.2.2.2.1 hMV.1 hMV.2.1, ⟨rfl, rfl, hPc, (K_mem hK hTM).sub [0, 2, 3] rfl, bl_Dsub hD [0, 1, 3, 4] (by decide) rfl⟩, fun o t hQ => ?_, fun q hq => bl_A hwc q hq⟩
  obtain ⟨⟨r, u9, rfl, hpost, hB⟩, hz, hkp⟩ := hQ
  obtain ⟨fB9, fT9, se9, dn9⟩ := u9
  try dsimp only at hpost hB
  obtain ⟨hP1, hK1, hD1⟩ := hB
  have hJ := bl_gen (F' := [(zo14irriiiiiirriirrrrlriiii m0 th aS aI im ac sp en wg op aB aT se9 dn9 aG aO aN aD bv aY (nI tm.length) kd nu tv), (zaI aS cS 901 fS), (zaI aI cI 901 fI), (zaI aB cB 6 fB9), (zaI aT cT 64 fT9), (zaI aG cG 9 fG), (zaL aO cO 36 fO), (zaL aN cN 36 fN), (zaI aD cD 36 fD), (zaI aY cY 20 fY)]) hP hD [0, 1, 3, 4] rfl hkp hP1 hD1 [some 0, some 1, none, some 2, some 3, none, none, none, none, none] [0, 1, 3, 4] rfl (Or.inl rfl) rfl
  exact ⟨⟨r, (im, (n, wk, kb, mi, sn, yk, yv, yc, hl, tp, tc, hC, ee), kvm, tm), rfl, ⟨hpost, rfl⟩, _, (fun M9 k9 => k9 aS aI aB aT aG aO aN aD aY th ac sp en wg op (se9) (dn9) ((nI tm.length)) kd nu tv bv cS cI cB cT cG cO cN cD cY fS fI (fB9) (fT9) fG fO fN fD fY rfl hJ.1 ⟨hJ.2.1, fun _ _ _ => trivial⟩ hTM ⟨(show MOK fS n wk kb hl tp from hMS), (show MH fS hl tp tc hC from hMH), (show MV fS n mi sn yk yv yc ee from hMV)⟩ ((show im = 0 ∨ (MOK fI (kvm.1) (kvm.2.1) (kvm.2.2.1) (kvm.2.2.2.2.2.2.2.2.1) (kvm.2.2.2.2.2.2.2.2.2.1) ∧ MH fI (kvm.2.2.2.2.2.2.2.2.1) (kvm.2.2.2.2.2.2.2.2.2.1) (kvm.2.2.2.2.2.2.2.2.2.2.1) (kvm.2.2.2.2.2.2.2.2.2.2.2.1) ∧ MV fI (kvm.1) (kvm.2.2.2.1) (kvm.2.2.2.2.1) (kvm.2.2.2.2.2.1) (kvm.2.2.2.2.2.2.1) (kvm.2.2.2.2.2.2.2.1) (kvm.2.2.2.2.2.2.2.2.2.2.2.2)) from hMI)) (⟨hrq, rfl, hYm⟩)), hJ.2, rfl⟩, hz, fun q h1 h2 => hkp q h1 (fun h => h2 (bl_A hwc _ h))⟩

set_option maxHeartbeats 4000000 in
set_option maxRecDepth 100000 in
theorem v_where (l : Launch) (dC : Nat → ClassId) (dI : Nat → Nat → Nat) (sK sV : Nat → Nat) (im : Int32) (vm kvm : VS) (tm : List Nat) (T : List (ClassId × FieldType)) (m0 : Nat) (M : va_W) (x : Int32) (sz : Nat) : Met l yX12_where wsX12_where ({ frames := 4, cells := 0, slots := 0, locals := 100 } : Room) (va_Pc [.ref m0, .int x] (fun U => U.heap.size = sz ∧ MI dC dI im vm kvm tm T m0 M U.heap ∧ va_K (dC, dI) vwCl T U ∧ Gs sK sV (va_A M sz) U)) (va_Ql (fun (r : Int64) (u : Int32 × VS × VS × List Nat) => r = whR vm.1 vm.2.2.2.2.2.1 vm.2.2.2.2.2.2.1 vm.2.2.2.2.2.2.2.1 vm.2.2.2.2.2.2.2.2.2.2.2.1 vm.2.2.2.1 vm.2.2.2.2.1 x ∧ u = (im, vm, kvm, tm)) (fun (u : Int32 × VS × VS × List Nat) (t : State) => ∃ M1 : va_W, MI dC dI u.1 u.2.1 u.2.2.1 u.2.2.2 T m0 M1 t.heap ∧ va_D (va_A M sz) M1 ∧ M1.map (fun c => c.1) = M.map (fun c => c.1)) (va_A M sz)) 0 0 (va_A M sz) := by
  obtain ⟨n, wk, kb, mi, sn, yk, yv, yc, hl, tp, tc, hC, ee⟩ := vm
  refine met_wrap (fun args s hPc => ?_)
  obtain ⟨rfl, rfl, hMM, hK, hE⟩ := hPc
  have hMM0 := hMM
  refine hMM _ (fun aS aI aB aT aG aO aN aD aY th ac sp en wg op se dn rn kd nu tv bv cS cI cB cT cG cO cN cD cY fS fI fB fT fG fO fN fD fY hM hP hD hTM hMS hMI hrn => ?_)
  have hMV : MV fS n mi sn yk yv yc ee := hMS.2.2
  have hMH : MH fS hl tp tc hC := hMS.2.1
  have hMS : MOK fS n wk kb hl tp := hMS.1
  obtain ⟨hn, zn, h5, z1, hw6, zw, hk12, zk, zb, ht, zt, hHd⟩ := id hMS
  obtain ⟨hrq, rfl, hYm⟩ := hrn
  subst hM
  have hP : va_P (dC, dI) vwCl ([(zo14irriiiiiirriirrrrlriiii m0 th aS aI im ac sp en wg op aB aT se dn aG aO aN aD bv aY (nI tm.length) kd nu tv), (zaI aS cS 901 fS), (zaI aI cI 901 fI), (zaI aB cB 6 fB), (zaI aT cT 64 fT), (zaI aG cG 9 fG), (zaL aO cO 36 fO), (zaL aN cN 36 fN), (zaI aD cD 36 fD), (zaI aY cY 20 fY)] ++ []) s.heap := hP
  have hD : va_D (fun _ => True) ([(zo14irriiiiiirriirrrrlriiii m0 th aS aI im ac sp en wg op aB aT se dn aG aO aN aD bv aY (nI tm.length) kd nu tv), (zaI aS cS 901 fS), (zaI aI cI 901 fI), (zaI aB cB 6 fB), (zaI aT cT 64 fT), (zaI aG cG 9 fG), (zaL aO cO 36 fO), (zaL aN cN 36 fN), (zaI aD cD 36 fD), (zaI aY cY 20 fY)] ++ []) := hD
  have hwc := bl_mem (G := [(zo14irriiiiiirriirrrrlriiii m0 th aS aI im ac sp en wg op aB aT se dn aG aO aN aD bv aY (nI tm.length) kd nu tv), (zaI aS cS 901 fS), (zaI aI cI 901 fI), (zaI aB cB 6 fB), (zaI aT cT 64 fT), (zaI aG cG 9 fG), (zaL aO cO 36 fO), (zaL aN cN 36 fN), (zaI aD cD 36 fD), (zaI aY cY 20 fY)]) (F := [(zo14irriiiiiirriirrrrlriiii m0 th aS aI im ac sp en wg op aB aT se dn aG aO aN aD bv aY (nI tm.length) kd nu tv), (zaI aS cS 901 fS), (zaI aB cB 6 fB), (zaI aT cT 64 fT)]) (T := []) [0, 1, 3, 4] rfl
  have hPc := bl_sub (F := [(zo14irriiiiiirriirrrrlriiii m0 th aS aI im ac sp en wg op aB aT se dn aG aO aN aD bv aY (nI tm.length) kd nu tv), (zaI aS cS 901 fS), (zaI aB cB 6 fB), (zaI aT cT 64 fT)]) hP [0, 1, 3, 4] rfl
  refine ⟨_, _, _, c_mWhere l dC dI m0 aS aI aB aT aG aO aN aD aY th im ac sp en wg op se dn (nI tm.length) kd nu tv bv cS cB cT fS fB fT n yk yv yc mi sn x hC s.heap.size zn hn (MH_hol hHd hMH h5) hMV.2.2.1 hMV.2.2.2.1 hMV.2.2.2.2.1 hMV.1 hMV.2.1, ⟨rfl, rfl, hPc, (K_mem hK hTM).sub [0, 2, 3] rfl, bl_Dsub hD [0, 1, 3, 4] (by decide) rfl⟩, fun o t hQ => ?_, fun q hq => bl_A hwc q hq⟩
  obtain ⟨⟨r, u9, rfl, hpost, hB⟩, hz, hkp⟩ := hQ
  obtain ⟨fB9, fT9, se9, dn9⟩ := u9
  try dsimp only at hpost hB
  obtain ⟨hP1, hK1, hD1⟩ := hB
  have hJ := bl_gen (F' := [(zo14irriiiiiirriirrrrlriiii m0 th aS aI im ac sp en wg op aB aT se9 dn9 aG aO aN aD bv aY (nI tm.length) kd nu tv), (zaI aS cS 901 fS), (zaI aI cI 901 fI), (zaI aB cB 6 fB9), (zaI aT cT 64 fT9), (zaI aG cG 9 fG), (zaL aO cO 36 fO), (zaL aN cN 36 fN), (zaI aD cD 36 fD), (zaI aY cY 20 fY)]) hP hD [0, 1, 3, 4] rfl hkp hP1 hD1 [some 0, some 1, none, some 2, some 3, none, none, none, none, none] [0, 1, 3, 4] rfl (Or.inl rfl) rfl
  exact ⟨⟨r, (im, (n, wk, kb, mi, sn, yk, yv, yc, hl, tp, tc, hC, ee), kvm, tm), rfl, ⟨hpost, rfl⟩, _, (fun M9 k9 => k9 aS aI aB aT aG aO aN aD aY th ac sp en wg op (se9) (dn9) ((nI tm.length)) kd nu tv bv cS cI cB cT cG cO cN cD cY fS fI (fB9) (fT9) fG fO fN fD fY rfl hJ.1 ⟨hJ.2.1, fun _ _ _ => trivial⟩ hTM ⟨(show MOK fS n wk kb hl tp from hMS), (show MH fS hl tp tc hC from hMH), (show MV fS n mi sn yk yv yc ee from hMV)⟩ ((show im = 0 ∨ (MOK fI (kvm.1) (kvm.2.1) (kvm.2.2.1) (kvm.2.2.2.2.2.2.2.2.1) (kvm.2.2.2.2.2.2.2.2.2.1) ∧ MH fI (kvm.2.2.2.2.2.2.2.2.1) (kvm.2.2.2.2.2.2.2.2.2.1) (kvm.2.2.2.2.2.2.2.2.2.2.1) (kvm.2.2.2.2.2.2.2.2.2.2.2.1) ∧ MV fI (kvm.1) (kvm.2.2.2.1) (kvm.2.2.2.2.1) (kvm.2.2.2.2.2.1) (kvm.2.2.2.2.2.2.1) (kvm.2.2.2.2.2.2.2.1) (kvm.2.2.2.2.2.2.2.2.2.2.2.2)) from hMI)) (⟨hrq, rfl, hYm⟩)), hJ.2, rfl⟩, hz, fun q h1 h2 => hkp q h1 (fun h => h2 (bl_A hwc _ h))⟩

set_option maxHeartbeats 4000000 in
set_option maxRecDepth 100000 in
theorem v_drift (l : Launch) (dC : Nat → ClassId) (dI : Nat → Nat → Nat) (sK sV : Nat → Nat) (im : Int32) (vm kvm : VS) (tm : List Nat) (T : List (ClassId × FieldType)) (m0 : Nat) (M : va_W) (x : Int32) (sz : Nat) : Met l yX12_drift wsX12_drift ({ frames := 2, cells := 0, slots := 0, locals := 52 } : Room) (va_Pc [.ref m0, .int x] (fun U => U.heap.size = sz ∧ MI dC dI im vm kvm tm T m0 M U.heap ∧ va_K (dC, dI) vwCl T U ∧ Gs sK sV (va_A M sz) U)) (va_Qi (fun (r : Int32) (u : Int32 × VS × VS × List Nat) => r = drR vm.2.2.2.2.2.2.2.2.2.2.2.1 vm.2.2.2.1 vm.2.2.2.2.1 x ∧ u = (im, vm, kvm, tm)) (fun (u : Int32 × VS × VS × List Nat) (t : State) => ∃ M1 : va_W, MI dC dI u.1 u.2.1 u.2.2.1 u.2.2.2 T m0 M1 t.heap ∧ va_D (va_A M sz) M1 ∧ M1.map (fun c => c.1) = M.map (fun c => c.1)) (va_A M sz)) 0 0 (va_A M sz) := by
  obtain ⟨n, wk, kb, mi, sn, yk, yv, yc, hl, tp, tc, hC, ee⟩ := vm
  refine met_wrap (fun args s hPc => ?_)
  obtain ⟨rfl, rfl, hMM, hK, hE⟩ := hPc
  have hMM0 := hMM
  refine hMM _ (fun aS aI aB aT aG aO aN aD aY th ac sp en wg op se dn rn kd nu tv bv cS cI cB cT cG cO cN cD cY fS fI fB fT fG fO fN fD fY hM hP hD hTM hMS hMI hrn => ?_)
  have hMV : MV fS n mi sn yk yv yc ee := hMS.2.2
  have hMH : MH fS hl tp tc hC := hMS.2.1
  have hMS : MOK fS n wk kb hl tp := hMS.1
  obtain ⟨hn, zn, h5, z1, hw6, zw, hk12, zk, zb, ht, zt, hHd⟩ := id hMS
  obtain ⟨hrq, rfl, hYm⟩ := hrn
  subst hM
  have hP : va_P (dC, dI) vwCl ([(zo14irriiiiiirriirrrrlriiii m0 th aS aI im ac sp en wg op aB aT se dn aG aO aN aD bv aY (nI tm.length) kd nu tv), (zaI aS cS 901 fS), (zaI aI cI 901 fI), (zaI aB cB 6 fB), (zaI aT cT 64 fT), (zaI aG cG 9 fG), (zaL aO cO 36 fO), (zaL aN cN 36 fN), (zaI aD cD 36 fD), (zaI aY cY 20 fY)] ++ []) s.heap := hP
  have hD : va_D (fun _ => True) ([(zo14irriiiiiirriirrrrlriiii m0 th aS aI im ac sp en wg op aB aT se dn aG aO aN aD bv aY (nI tm.length) kd nu tv), (zaI aS cS 901 fS), (zaI aI cI 901 fI), (zaI aB cB 6 fB), (zaI aT cT 64 fT), (zaI aG cG 9 fG), (zaL aO cO 36 fO), (zaL aN cN 36 fN), (zaI aD cD 36 fD), (zaI aY cY 20 fY)] ++ []) := hD
  have hwc := bl_mem (G := [(zo14irriiiiiirriirrrrlriiii m0 th aS aI im ac sp en wg op aB aT se dn aG aO aN aD bv aY (nI tm.length) kd nu tv), (zaI aS cS 901 fS), (zaI aI cI 901 fI), (zaI aB cB 6 fB), (zaI aT cT 64 fT), (zaI aG cG 9 fG), (zaL aO cO 36 fO), (zaL aN cN 36 fN), (zaI aD cD 36 fD), (zaI aY cY 20 fY)]) (F := [(zo14irriiiiiirriirrrrlriiii m0 th aS aI im ac sp en wg op aB aT se dn aG aO aN aD bv aY (nI tm.length) kd nu tv), (zaI aS cS 901 fS), (zaI aB cB 6 fB), (zaI aT cT 64 fT)]) (T := []) [0, 1, 3, 4] rfl
  have hPc := bl_sub (F := [(zo14irriiiiiirriirrrrlriiii m0 th aS aI im ac sp en wg op aB aT se dn aG aO aN aD bv aY (nI tm.length) kd nu tv), (zaI aS cS 901 fS), (zaI aB cB 6 fB), (zaI aT cT 64 fT)]) hP [0, 1, 3, 4] rfl
  refine ⟨_, _, _, c_mDrift l dC dI m0 aS aI aB aT aG aO aN aD aY th im ac sp en wg op se dn (nI tm.length) kd nu tv bv cS cB cT fS fB fT mi sn x hC s.heap.size (MH_hol hHd hMH h5) hMV.1 hMV.2.1, ⟨rfl, rfl, hPc, (K_mem hK hTM).sub [0, 2, 3] rfl, bl_Dsub hD [0, 1, 3, 4] (by decide) rfl⟩, fun o t hQ => ?_, fun q hq => bl_A hwc q hq⟩
  obtain ⟨⟨r, u9, rfl, hpost, hB⟩, hz, hkp⟩ := hQ
  obtain ⟨fB9, fT9, se9, dn9⟩ := u9
  try dsimp only at hpost hB
  obtain ⟨hP1, hK1, hD1⟩ := hB
  have hJ := bl_gen (F' := [(zo14irriiiiiirriirrrrlriiii m0 th aS aI im ac sp en wg op aB aT se9 dn9 aG aO aN aD bv aY (nI tm.length) kd nu tv), (zaI aS cS 901 fS), (zaI aI cI 901 fI), (zaI aB cB 6 fB9), (zaI aT cT 64 fT9), (zaI aG cG 9 fG), (zaL aO cO 36 fO), (zaL aN cN 36 fN), (zaI aD cD 36 fD), (zaI aY cY 20 fY)]) hP hD [0, 1, 3, 4] rfl hkp hP1 hD1 [some 0, some 1, none, some 2, some 3, none, none, none, none, none] [0, 1, 3, 4] rfl (Or.inl rfl) rfl
  exact ⟨⟨r, (im, (n, wk, kb, mi, sn, yk, yv, yc, hl, tp, tc, hC, ee), kvm, tm), rfl, ⟨hpost, rfl⟩, _, (fun M9 k9 => k9 aS aI aB aT aG aO aN aD aY th ac sp en wg op (se9) (dn9) ((nI tm.length)) kd nu tv bv cS cI cB cT cG cO cN cD cY fS fI (fB9) (fT9) fG fO fN fD fY rfl hJ.1 ⟨hJ.2.1, fun _ _ _ => trivial⟩ hTM ⟨(show MOK fS n wk kb hl tp from hMS), (show MH fS hl tp tc hC from hMH), (show MV fS n mi sn yk yv yc ee from hMV)⟩ ((show im = 0 ∨ (MOK fI (kvm.1) (kvm.2.1) (kvm.2.2.1) (kvm.2.2.2.2.2.2.2.2.1) (kvm.2.2.2.2.2.2.2.2.2.1) ∧ MH fI (kvm.2.2.2.2.2.2.2.2.1) (kvm.2.2.2.2.2.2.2.2.2.1) (kvm.2.2.2.2.2.2.2.2.2.2.1) (kvm.2.2.2.2.2.2.2.2.2.2.2.1) ∧ MV fI (kvm.1) (kvm.2.2.2.1) (kvm.2.2.2.2.1) (kvm.2.2.2.2.2.1) (kvm.2.2.2.2.2.2.1) (kvm.2.2.2.2.2.2.2.1) (kvm.2.2.2.2.2.2.2.2.2.2.2.2)) from hMI)) (⟨hrq, rfl, hYm⟩)), hJ.2, rfl⟩, hz, fun q h1 h2 => hkp q h1 (fun h => h2 (bl_A hwc _ h))⟩

set_option maxHeartbeats 4000000 in
set_option maxRecDepth 100000 in
theorem v_line (l : Launch) (dC : Nat → ClassId) (dI : Nat → Nat → Nat) (sK sV : Nat → Nat) (im : Int32) (vm kvm : VS) (tm : List Nat) (T : List (ClassId × FieldType)) (m0 : Nat) (M : va_W) (x : Int32) (y : Int32) (sz : Nat) : Met l yX12_line wsX12_line ({ frames := 2, cells := 0, slots := 0, locals := 43 } : Room) (va_Pc [.ref m0, .int x, .int y] (fun U => U.heap.size = sz ∧ MI dC dI im vm kvm tm T m0 M U.heap ∧ va_K (dC, dI) vwCl T U ∧ Gs sK sV (va_A M sz) U)) (va_Qi (fun (r : Int32) (u : Int32 × VS × VS × List Nat) => r = lnR vm.1 vm.2.2.2.2.2.2.2.1 (sgC vm.2.2.2.2.2.2.2.2.2.2.2.1) vm.2.2.2.1 x y ∧ u = (im, vm, kvm, tm)) (fun (u : Int32 × VS × VS × List Nat) (t : State) => ∃ M1 : va_W, MI dC dI u.1 u.2.1 u.2.2.1 u.2.2.2 T m0 M1 t.heap ∧ va_D (va_A M sz) M1 ∧ M1.map (fun c => c.1) = M.map (fun c => c.1)) (va_A M sz)) 0 0 (va_A M sz) := by
  obtain ⟨n, wk, kb, mi, sn, yk, yv, yc, hl, tp, tc, hC, ee⟩ := vm
  refine met_wrap (fun args s hPc => ?_)
  obtain ⟨rfl, rfl, hMM, hK, hE⟩ := hPc
  have hMM0 := hMM
  refine hMM _ (fun aS aI aB aT aG aO aN aD aY th ac sp en wg op se dn rn kd nu tv bv cS cI cB cT cG cO cN cD cY fS fI fB fT fG fO fN fD fY hM hP hD hTM hMS hMI hrn => ?_)
  have hMV : MV fS n mi sn yk yv yc ee := hMS.2.2
  have hMH : MH fS hl tp tc hC := hMS.2.1
  have hMS : MOK fS n wk kb hl tp := hMS.1
  obtain ⟨hn, zn, h5, z1, hw6, zw, hk12, zk, zb, ht, zt, hHd⟩ := id hMS
  obtain ⟨hrq, rfl, hYm⟩ := hrn
  subst hM
  have hP : va_P (dC, dI) vwCl ([(zo14irriiiiiirriirrrrlriiii m0 th aS aI im ac sp en wg op aB aT se dn aG aO aN aD bv aY (nI tm.length) kd nu tv), (zaI aS cS 901 fS), (zaI aI cI 901 fI), (zaI aB cB 6 fB), (zaI aT cT 64 fT), (zaI aG cG 9 fG), (zaL aO cO 36 fO), (zaL aN cN 36 fN), (zaI aD cD 36 fD), (zaI aY cY 20 fY)] ++ []) s.heap := hP
  have hD : va_D (fun _ => True) ([(zo14irriiiiiirriirrrrlriiii m0 th aS aI im ac sp en wg op aB aT se dn aG aO aN aD bv aY (nI tm.length) kd nu tv), (zaI aS cS 901 fS), (zaI aI cI 901 fI), (zaI aB cB 6 fB), (zaI aT cT 64 fT), (zaI aG cG 9 fG), (zaL aO cO 36 fO), (zaL aN cN 36 fN), (zaI aD cD 36 fD), (zaI aY cY 20 fY)] ++ []) := hD
  have hwc := bl_mem (G := [(zo14irriiiiiirriirrrrlriiii m0 th aS aI im ac sp en wg op aB aT se dn aG aO aN aD bv aY (nI tm.length) kd nu tv), (zaI aS cS 901 fS), (zaI aI cI 901 fI), (zaI aB cB 6 fB), (zaI aT cT 64 fT), (zaI aG cG 9 fG), (zaL aO cO 36 fO), (zaL aN cN 36 fN), (zaI aD cD 36 fD), (zaI aY cY 20 fY)]) (F := [(zo14irriiiiiirriirrrrlriiii m0 th aS aI im ac sp en wg op aB aT se dn aG aO aN aD bv aY (nI tm.length) kd nu tv), (zaI aS cS 901 fS)]) (T := []) [0, 1] rfl
  have hPc := bl_sub (F := [(zo14irriiiiiirriirrrrlriiii m0 th aS aI im ac sp en wg op aB aT se dn aG aO aN aD bv aY (nI tm.length) kd nu tv), (zaI aS cS 901 fS)]) hP [0, 1] rfl
  refine ⟨_, _, _, c_mLine l dC dI m0 aS aI aB aT aG aO aN aD aY th im ac sp en wg op se dn (nI tm.length) kd nu tv bv cS fS n yc mi x y hC zn hn (MH_hol hHd hMH h5) hMV.2.2.2.2.1 hMV.1, ⟨rfl, hPc, (K_mem hK hTM).sub [0] rfl⟩, fun o t hQ => ?_, fun q hq => hq.elim⟩
  obtain ⟨r, rfl, hpost, hh⟩ := hQ
  exact ⟨⟨r, (im, (n, wk, kb, mi, sn, yk, yv, yc, hl, tp, tc, hC, ee), kvm, tm), rfl, ⟨hpost, rfl⟩, _, by rw [hh]; exact hMM0, ⟨hD.1, fun k q hq => Or.inl ⟨k, q.2, hq⟩⟩, rfl⟩, by rw [hh]; exact Nat.le_refl _, fun q _ _ => by rw [hh]⟩

set_option maxHeartbeats 4000000 in
set_option maxRecDepth 100000 in
theorem v_next (l : Launch) (dC : Nat → ClassId) (dI : Nat → Nat → Nat) (sK sV : Nat → Nat) (im : Int32) (vm kvm : VS) (tm : List Nat) (T : List (ClassId × FieldType)) (m0 : Nat) (M : va_W) (x : Int32) (y : Int32) (z : Int32) (sz : Nat) : Met l yX12_next wsX12_next ({ frames := 2, cells := 0, slots := 0, locals := 43 } : Room) (va_Pc [.ref m0, .int x, .int y, .int z] (fun U => U.heap.size = sz ∧ MI dC dI im vm kvm tm T m0 M U.heap ∧ va_K (dC, dI) vwCl T U ∧ Gs sK sV (va_A M sz) U)) (va_Qi (fun (r : Int32) (u : Int32 × VS × VS × List Nat) => r = nxR vm.1 vm.2.2.2.2.2.2.2.1 x y z ∧ u = (im, vm, kvm, tm)) (fun (u : Int32 × VS × VS × List Nat) (t : State) => ∃ M1 : va_W, MI dC dI u.1 u.2.1 u.2.2.1 u.2.2.2 T m0 M1 t.heap ∧ va_D (va_A M sz) M1 ∧ M1.map (fun c => c.1) = M.map (fun c => c.1)) (va_A M sz)) 0 0 (va_A M sz) := by
  obtain ⟨n, wk, kb, mi, sn, yk, yv, yc, hl, tp, tc, hC, ee⟩ := vm
  refine met_wrap (fun args s hPc => ?_)
  obtain ⟨rfl, rfl, hMM, hK, hE⟩ := hPc
  have hMM0 := hMM
  refine hMM _ (fun aS aI aB aT aG aO aN aD aY th ac sp en wg op se dn rn kd nu tv bv cS cI cB cT cG cO cN cD cY fS fI fB fT fG fO fN fD fY hM hP hD hTM hMS hMI hrn => ?_)
  have hMV : MV fS n mi sn yk yv yc ee := hMS.2.2
  have hMH : MH fS hl tp tc hC := hMS.2.1
  have hMS : MOK fS n wk kb hl tp := hMS.1
  obtain ⟨hn, zn, h5, z1, hw6, zw, hk12, zk, zb, ht, zt, hHd⟩ := id hMS
  obtain ⟨hrq, rfl, hYm⟩ := hrn
  subst hM
  have hP : va_P (dC, dI) vwCl ([(zo14irriiiiiirriirrrrlriiii m0 th aS aI im ac sp en wg op aB aT se dn aG aO aN aD bv aY (nI tm.length) kd nu tv), (zaI aS cS 901 fS), (zaI aI cI 901 fI), (zaI aB cB 6 fB), (zaI aT cT 64 fT), (zaI aG cG 9 fG), (zaL aO cO 36 fO), (zaL aN cN 36 fN), (zaI aD cD 36 fD), (zaI aY cY 20 fY)] ++ []) s.heap := hP
  have hD : va_D (fun _ => True) ([(zo14irriiiiiirriirrrrlriiii m0 th aS aI im ac sp en wg op aB aT se dn aG aO aN aD bv aY (nI tm.length) kd nu tv), (zaI aS cS 901 fS), (zaI aI cI 901 fI), (zaI aB cB 6 fB), (zaI aT cT 64 fT), (zaI aG cG 9 fG), (zaL aO cO 36 fO), (zaL aN cN 36 fN), (zaI aD cD 36 fD), (zaI aY cY 20 fY)] ++ []) := hD
  have hwc := bl_mem (G := [(zo14irriiiiiirriirrrrlriiii m0 th aS aI im ac sp en wg op aB aT se dn aG aO aN aD bv aY (nI tm.length) kd nu tv), (zaI aS cS 901 fS), (zaI aI cI 901 fI), (zaI aB cB 6 fB), (zaI aT cT 64 fT), (zaI aG cG 9 fG), (zaL aO cO 36 fO), (zaL aN cN 36 fN), (zaI aD cD 36 fD), (zaI aY cY 20 fY)]) (F := [(zo14irriiiiiirriirrrrlriiii m0 th aS aI im ac sp en wg op aB aT se dn aG aO aN aD bv aY (nI tm.length) kd nu tv), (zaI aS cS 901 fS)]) (T := []) [0, 1] rfl
  have hPc := bl_sub (F := [(zo14irriiiiiirriirrrrlriiii m0 th aS aI im ac sp en wg op aB aT se dn aG aO aN aD bv aY (nI tm.length) kd nu tv), (zaI aS cS 901 fS)]) hP [0, 1] rfl
  refine ⟨_, _, _, c_mNext l dC dI m0 aS aI aB aT aG aO aN aD aY th im ac sp en wg op se dn (nI tm.length) kd nu tv bv cS fS n yc x y z zn hn hMV.2.2.2.2.1, ⟨rfl, hPc, (K_mem hK hTM).sub [0] rfl⟩, fun o t hQ => ?_, fun q hq => hq.elim⟩
  obtain ⟨r, rfl, hpost, hh⟩ := hQ
  exact ⟨⟨r, (im, (n, wk, kb, mi, sn, yk, yv, yc, hl, tp, tc, hC, ee), kvm, tm), rfl, ⟨hpost, rfl⟩, _, by rw [hh]; exact hMM0, ⟨hD.1, fun k q hq => Or.inl ⟨k, q.2, hq⟩⟩, rfl⟩, by rw [hh]; exact Nat.le_refl _, fun q _ _ => by rw [hh]⟩

set_option maxHeartbeats 4000000 in
set_option maxRecDepth 100000 in
theorem v_as (l : Launch) (dC : Nat → ClassId) (dI : Nat → Nat → Nat) (sK sV : Nat → Nat) (im : Int32) (vm kvm : VS) (tm : List Nat) (T : List (ClassId × FieldType)) (m0 : Nat) (M : va_W) (x : Int32) (y : Int32) (sz : Nat) : Met l yX12_as wsX12_as ({ frames := 2, cells := 0, slots := 0, locals := 43 } : Room) (va_Pc [.ref m0, .int x, .int y] (fun U => U.heap.size = sz ∧ MI dC dI im vm kvm tm T m0 M U.heap ∧ va_K (dC, dI) vwCl T U ∧ Gs sK sV (va_A M sz) U)) (va_Qi (fun (r : Int32) (u : Int32 × VS × VS × List Nat) => r = asR vm.1 vm.2.2.2.2.2.1 vm.2.2.2.2.2.2.1 x y ∧ u = (im, vm, kvm, tm)) (fun (u : Int32 × VS × VS × List Nat) (t : State) => ∃ M1 : va_W, MI dC dI u.1 u.2.1 u.2.2.1 u.2.2.2 T m0 M1 t.heap ∧ va_D (va_A M sz) M1 ∧ M1.map (fun c => c.1) = M.map (fun c => c.1)) (va_A M sz)) 0 0 (va_A M sz) := by
  obtain ⟨n, wk, kb, mi, sn, yk, yv, yc, hl, tp, tc, hC, ee⟩ := vm
  refine met_wrap (fun args s hPc => ?_)
  obtain ⟨rfl, rfl, hMM, hK, hE⟩ := hPc
  have hMM0 := hMM
  refine hMM _ (fun aS aI aB aT aG aO aN aD aY th ac sp en wg op se dn rn kd nu tv bv cS cI cB cT cG cO cN cD cY fS fI fB fT fG fO fN fD fY hM hP hD hTM hMS hMI hrn => ?_)
  have hMV : MV fS n mi sn yk yv yc ee := hMS.2.2
  have hMH : MH fS hl tp tc hC := hMS.2.1
  have hMS : MOK fS n wk kb hl tp := hMS.1
  obtain ⟨hn, zn, h5, z1, hw6, zw, hk12, zk, zb, ht, zt, hHd⟩ := id hMS
  obtain ⟨hrq, rfl, hYm⟩ := hrn
  subst hM
  have hP : va_P (dC, dI) vwCl ([(zo14irriiiiiirriirrrrlriiii m0 th aS aI im ac sp en wg op aB aT se dn aG aO aN aD bv aY (nI tm.length) kd nu tv), (zaI aS cS 901 fS), (zaI aI cI 901 fI), (zaI aB cB 6 fB), (zaI aT cT 64 fT), (zaI aG cG 9 fG), (zaL aO cO 36 fO), (zaL aN cN 36 fN), (zaI aD cD 36 fD), (zaI aY cY 20 fY)] ++ []) s.heap := hP
  have hD : va_D (fun _ => True) ([(zo14irriiiiiirriirrrrlriiii m0 th aS aI im ac sp en wg op aB aT se dn aG aO aN aD bv aY (nI tm.length) kd nu tv), (zaI aS cS 901 fS), (zaI aI cI 901 fI), (zaI aB cB 6 fB), (zaI aT cT 64 fT), (zaI aG cG 9 fG), (zaL aO cO 36 fO), (zaL aN cN 36 fN), (zaI aD cD 36 fD), (zaI aY cY 20 fY)] ++ []) := hD
  have hwc := bl_mem (G := [(zo14irriiiiiirriirrrrlriiii m0 th aS aI im ac sp en wg op aB aT se dn aG aO aN aD bv aY (nI tm.length) kd nu tv), (zaI aS cS 901 fS), (zaI aI cI 901 fI), (zaI aB cB 6 fB), (zaI aT cT 64 fT), (zaI aG cG 9 fG), (zaL aO cO 36 fO), (zaL aN cN 36 fN), (zaI aD cD 36 fD), (zaI aY cY 20 fY)]) (F := [(zo14irriiiiiirriirrrrlriiii m0 th aS aI im ac sp en wg op aB aT se dn aG aO aN aD bv aY (nI tm.length) kd nu tv), (zaI aS cS 901 fS)]) (T := []) [0, 1] rfl
  have hPc := bl_sub (F := [(zo14irriiiiiirriirrrrlriiii m0 th aS aI im ac sp en wg op aB aT se dn aG aO aN aD bv aY (nI tm.length) kd nu tv), (zaI aS cS 901 fS)]) hP [0, 1] rfl
  refine ⟨_, _, _, c_mAs l dC dI m0 aS aI aB aT aG aO aN aD aY th im ac sp en wg op se dn (nI tm.length) kd nu tv bv cS fS n yk yv x y zn hn hMV.2.2.1 hMV.2.2.2.1, ⟨rfl, hPc, (K_mem hK hTM).sub [0] rfl⟩, fun o t hQ => ?_, fun q hq => hq.elim⟩
  obtain ⟨r, rfl, hpost, hh⟩ := hQ
  exact ⟨⟨r, (im, (n, wk, kb, mi, sn, yk, yv, yc, hl, tp, tc, hC, ee), kvm, tm), rfl, ⟨hpost, rfl⟩, _, by rw [hh]; exact hMM0, ⟨hD.1, fun k q hq => Or.inl ⟨k, q.2, hq⟩⟩, rfl⟩, by rw [hh]; exact Nat.le_refl _, fun q _ _ => by rw [hh]⟩

set_option maxHeartbeats 4000000 in
set_option maxRecDepth 100000 in
theorem v_told (l : Launch) (dC : Nat → ClassId) (dI : Nat → Nat → Nat) (sK sV : Nat → Nat) (im : Int32) (vm kvm : VS) (tm : List Nat) (T : List (ClassId × FieldType)) (m0 : Nat) (M : va_W) (x : Int32) (sz : Nat) : Met l yX12_told wsX12_told ({ frames := 1, cells := 0, slots := 0, locals := 22 } : Room) (va_Pc [.ref m0, .int x] (fun U => U.heap.size = sz ∧ MI dC dI im vm kvm tm T m0 M U.heap ∧ va_K (dC, dI) vwCl T U ∧ Gs sK sV (va_A M sz) U)) (va_Qi (fun (r : Int32) (u : Int32 × VS × VS × List Nat) => r = tdR vm.2.2.2.1 vm.2.2.2.2.1 (sgC vm.2.2.2.2.2.2.2.2.2.2.2.1) vm.2.2.2.2.2.2.2.2.2.2.2.2 x ∧ u = (im, vm, kvm, tm)) (fun (u : Int32 × VS × VS × List Nat) (t : State) => ∃ M1 : va_W, MI dC dI u.1 u.2.1 u.2.2.1 u.2.2.2 T m0 M1 t.heap ∧ va_D (va_A M sz) M1 ∧ M1.map (fun c => c.1) = M.map (fun c => c.1)) (va_A M sz)) 0 0 (va_A M sz) := by
  obtain ⟨n, wk, kb, mi, sn, yk, yv, yc, hl, tp, tc, hC, ee⟩ := vm
  refine met_wrap (fun args s hPc => ?_)
  obtain ⟨rfl, rfl, hMM, hK, hE⟩ := hPc
  have hMM0 := hMM
  refine hMM _ (fun aS aI aB aT aG aO aN aD aY th ac sp en wg op se dn rn kd nu tv bv cS cI cB cT cG cO cN cD cY fS fI fB fT fG fO fN fD fY hM hP hD hTM hMS hMI hrn => ?_)
  have hMV : MV fS n mi sn yk yv yc ee := hMS.2.2
  have hMH : MH fS hl tp tc hC := hMS.2.1
  have hMS : MOK fS n wk kb hl tp := hMS.1
  obtain ⟨hn, zn, h5, z1, hw6, zw, hk12, zk, zb, ht, zt, hHd⟩ := id hMS
  obtain ⟨hrq, rfl, hYm⟩ := hrn
  subst hM
  have hP : va_P (dC, dI) vwCl ([(zo14irriiiiiirriirrrrlriiii m0 th aS aI im ac sp en wg op aB aT se dn aG aO aN aD bv aY (nI tm.length) kd nu tv), (zaI aS cS 901 fS), (zaI aI cI 901 fI), (zaI aB cB 6 fB), (zaI aT cT 64 fT), (zaI aG cG 9 fG), (zaL aO cO 36 fO), (zaL aN cN 36 fN), (zaI aD cD 36 fD), (zaI aY cY 20 fY)] ++ []) s.heap := hP
  have hD : va_D (fun _ => True) ([(zo14irriiiiiirriirrrrlriiii m0 th aS aI im ac sp en wg op aB aT se dn aG aO aN aD bv aY (nI tm.length) kd nu tv), (zaI aS cS 901 fS), (zaI aI cI 901 fI), (zaI aB cB 6 fB), (zaI aT cT 64 fT), (zaI aG cG 9 fG), (zaL aO cO 36 fO), (zaL aN cN 36 fN), (zaI aD cD 36 fD), (zaI aY cY 20 fY)] ++ []) := hD
  have hwc := bl_mem (G := [(zo14irriiiiiirriirrrrlriiii m0 th aS aI im ac sp en wg op aB aT se dn aG aO aN aD bv aY (nI tm.length) kd nu tv), (zaI aS cS 901 fS), (zaI aI cI 901 fI), (zaI aB cB 6 fB), (zaI aT cT 64 fT), (zaI aG cG 9 fG), (zaL aO cO 36 fO), (zaL aN cN 36 fN), (zaI aD cD 36 fD), (zaI aY cY 20 fY)]) (F := [(zo14irriiiiiirriirrrrlriiii m0 th aS aI im ac sp en wg op aB aT se dn aG aO aN aD bv aY (nI tm.length) kd nu tv), (zaI aS cS 901 fS)]) (T := []) [0, 1] rfl
  have hPc := bl_sub (F := [(zo14irriiiiiirriirrrrlriiii m0 th aS aI im ac sp en wg op aB aT se dn aG aO aN aD bv aY (nI tm.length) kd nu tv), (zaI aS cS 901 fS)]) hP [0, 1] rfl
  refine ⟨_, _, _, c_mTold l dC dI m0 aS aI aB aT aG aO aN aD aY th im ac sp en wg op se dn (nI tm.length) kd nu tv bv cS fS ee (sgC hC) x hC (MH_hol hHd hMH h5) hMV.2.2.2.2.2.1 (MH_sg hMH h5), ⟨rfl, hPc, (K_mem hK hTM).sub [0] rfl⟩, fun o t hQ => ?_, fun q hq => hq.elim⟩
  obtain ⟨r, rfl, hpost, hh⟩ := hQ
  exact ⟨⟨r, (im, (n, wk, kb, mi, sn, yk, yv, yc, hl, tp, tc, hC, ee), kvm, tm), rfl, ⟨by rw [← hMV.1, ← hMV.2.1]; exact hpost, rfl⟩, _, by rw [hh]; exact hMM0, ⟨hD.1, fun k q hq => Or.inl ⟨k, q.2, hq⟩⟩, rfl⟩, by rw [hh]; exact Nat.le_refl _, fun q _ _ => by rw [hh]⟩

set_option maxHeartbeats 4000000 in
set_option maxRecDepth 100000 in
theorem v_count (l : Launch) (dC : Nat → ClassId) (dI : Nat → Nat → Nat) (sK sV : Nat → Nat) (im : Int32) (vm kvm : VS) (tm : List Nat) (T : List (ClassId × FieldType)) (m0 : Nat) (M : va_W) (x : Int32) (sz : Nat) : Met l yX12_count wsX12_count ({ frames := 0, cells := 0, slots := 0, locals := 0 } : Room) (va_Pc [.ref m0, .int x] (fun U => U.heap.size = sz ∧ MI dC dI im vm kvm tm T m0 M U.heap ∧ va_K (dC, dI) vwCl T U ∧ Gs sK sV (va_A M sz) U)) (va_Qi (fun (r : Int32) (u : Int32 × VS × VS × List Nat) => r = ctR vm.1 vm.2.2.2.2.2.2.2.2.1 vm.2.1 vm.2.2.1 vm.2.2.2.2.2.2.2.2.2.1 tm x ∧ u = (im, vm, kvm, tm)) (fun (u : Int32 × VS × VS × List Nat) (t : State) => ∃ M1 : va_W, MI dC dI u.1 u.2.1 u.2.2.1 u.2.2.2 T m0 M1 t.heap ∧ va_D (va_A M sz) M1 ∧ M1.map (fun c => c.1) = M.map (fun c => c.1)) (va_A M sz)) 0 0 (va_A M sz) := by
  obtain ⟨n, wk, kb, mi, sn, yk, yv, yc, hl, tp, tc, hC, ee⟩ := vm
  refine met_wrap (fun args s hPc => ?_)
  obtain ⟨rfl, rfl, hMM, hK, hE⟩ := hPc
  have hMM0 := hMM
  refine hMM _ (fun aS aI aB aT aG aO aN aD aY th ac sp en wg op se dn rn kd nu tv bv cS cI cB cT cG cO cN cD cY fS fI fB fT fG fO fN fD fY hM hP hD hTM hMS hMI hrn => ?_)
  have hMV : MV fS n mi sn yk yv yc ee := hMS.2.2
  have hMH : MH fS hl tp tc hC := hMS.2.1
  have hMS : MOK fS n wk kb hl tp := hMS.1
  obtain ⟨hn, zn, h5, z1, hw6, zw, hk12, zk, zb, ht, zt, hHd⟩ := id hMS
  obtain ⟨hrq, rfl, hYm⟩ := hrn
  subst hM
  have hP : va_P (dC, dI) vwCl ([(zo14irriiiiiirriirrrrlriiii m0 th aS aI im ac sp en wg op aB aT se dn aG aO aN aD bv aY (nI tm.length) kd nu tv), (zaI aS cS 901 fS), (zaI aI cI 901 fI), (zaI aB cB 6 fB), (zaI aT cT 64 fT), (zaI aG cG 9 fG), (zaL aO cO 36 fO), (zaL aN cN 36 fN), (zaI aD cD 36 fD), (zaI aY cY 20 fY)] ++ []) s.heap := hP
  have hD : va_D (fun _ => True) ([(zo14irriiiiiirriirrrrlriiii m0 th aS aI im ac sp en wg op aB aT se dn aG aO aN aD bv aY (nI tm.length) kd nu tv), (zaI aS cS 901 fS), (zaI aI cI 901 fI), (zaI aB cB 6 fB), (zaI aT cT 64 fT), (zaI aG cG 9 fG), (zaL aO cO 36 fO), (zaL aN cN 36 fN), (zaI aD cD 36 fD), (zaI aY cY 20 fY)] ++ []) := hD
  have hwc := bl_mem (G := [(zo14irriiiiiirriirrrrlriiii m0 th aS aI im ac sp en wg op aB aT se dn aG aO aN aD bv aY (nI tm.length) kd nu tv), (zaI aS cS 901 fS), (zaI aI cI 901 fI), (zaI aB cB 6 fB), (zaI aT cT 64 fT), (zaI aG cG 9 fG), (zaL aO cO 36 fO), (zaL aN cN 36 fN), (zaI aD cD 36 fD), (zaI aY cY 20 fY)]) (F := [(zo14irriiiiiirriirrrrlriiii m0 th aS aI im ac sp en wg op aB aT se dn aG aO aN aD bv aY (nI tm.length) kd nu tv), (zaI aS cS 901 fS)]) (T := []) [0, 1] rfl
  have hPc := bl_sub (F := [(zo14irriiiiiirriirrrrlriiii m0 th aS aI im ac sp en wg op aB aT se dn aG aO aN aD bv aY (nI tm.length) kd nu tv), (zaI aS cS 901 fS)]) hP [0, 1] rfl
  refine ⟨_, _, _, c_mCount l dC dI m0 aS aI aB aT aG aO aN aD aY th im ac sp en wg op se dn (nI tm.length) kd nu tv bv cS fS n hl wk kb tp tm x zn z1 zw zk zt, ⟨rfl, hPc, (K_mem hK hTM).sub [0] rfl⟩, fun o t hQ => ?_, fun q hq => hq.elim⟩
  obtain ⟨r, rfl, hpost, hh⟩ := hQ
  exact ⟨⟨r, (im, (n, wk, kb, mi, sn, yk, yv, yc, hl, tp, tc, hC, ee), kvm, tm), rfl, ⟨hpost, rfl⟩, _, by rw [hh]; exact hMM0, ⟨hD.1, fun k q hq => Or.inl ⟨k, q.2, hq⟩⟩, rfl⟩, by rw [hh]; exact Nat.le_refl _, fun q _ _ => by rw [hh]⟩

set_option maxHeartbeats 4000000 in
set_option maxRecDepth 100000 in
theorem v_feed (l : Launch) (dC : Nat → ClassId) (dI : Nat → Nat → Nat) (sK sV : Nat → Nat) (im : Int32) (vm kvm : VS) (tm : List Nat) (T : List (ClassId × FieldType)) (m0 : Nat) (M : va_W) (x : Int32) (sz : Nat) : Met l yX12_feed wsX12_feed ({ frames := 1, cells := 0, slots := 0, locals := 22 } : Room) (va_Pc [.ref m0, .int x] (fun U => U.heap.size = sz ∧ MI dC dI im vm kvm tm T m0 M U.heap ∧ va_K (dC, dI) vwCl T U ∧ Gs sK sV (va_A M sz) U)) (va_Qi (fun (r : Int32) (u : Int32 × VS × VS × List Nat) => r = fdR vm.2.2.2.2.2.2.2.2.2.1 x ∧ u = (im, fdF vm x, kvm, tm)) (fun (u : Int32 × VS × VS × List Nat) (t : State) => ∃ M1 : va_W, MI dC dI u.1 u.2.1 u.2.2.1 u.2.2.2 T m0 M1 t.heap ∧ va_D (va_A M sz) M1 ∧ M1.map (fun c => c.1) = M.map (fun c => c.1)) (va_A M sz)) 0 0 (va_A M sz) := by
  obtain ⟨n, wk, kb, mi, sn, yk, yv, yc, hl, tp, tc, hC, ee⟩ := vm
  refine met_wrap (fun args s hPc => ?_)
  obtain ⟨rfl, rfl, hMM, hK, hE⟩ := hPc
  have hMM0 := hMM
  refine hMM _ (fun aS aI aB aT aG aO aN aD aY th ac sp en wg op se dn rn kd nu tv bv cS cI cB cT cG cO cN cD cY fS fI fB fT fG fO fN fD fY hM hP hD hTM hMS hMI hrn => ?_)
  have hMV : MV fS n mi sn yk yv yc ee := hMS.2.2
  have hMH : MH fS hl tp tc hC := hMS.2.1
  have hMS : MOK fS n wk kb hl tp := hMS.1
  obtain ⟨hn, zn, h5, z1, hw6, zw, hk12, zk, zb, ht, zt, hHd⟩ := id hMS
  obtain ⟨hrq, rfl, hYm⟩ := hrn
  subst hM
  have hP : va_P (dC, dI) vwCl ([(zo14irriiiiiirriirrrrlriiii m0 th aS aI im ac sp en wg op aB aT se dn aG aO aN aD bv aY (nI tm.length) kd nu tv), (zaI aS cS 901 fS), (zaI aI cI 901 fI), (zaI aB cB 6 fB), (zaI aT cT 64 fT), (zaI aG cG 9 fG), (zaL aO cO 36 fO), (zaL aN cN 36 fN), (zaI aD cD 36 fD), (zaI aY cY 20 fY)] ++ []) s.heap := hP
  have hD : va_D (fun _ => True) ([(zo14irriiiiiirriirrrrlriiii m0 th aS aI im ac sp en wg op aB aT se dn aG aO aN aD bv aY (nI tm.length) kd nu tv), (zaI aS cS 901 fS), (zaI aI cI 901 fI), (zaI aB cB 6 fB), (zaI aT cT 64 fT), (zaI aG cG 9 fG), (zaL aO cO 36 fO), (zaL aN cN 36 fN), (zaI aD cD 36 fD), (zaI aY cY 20 fY)] ++ []) := hD
  have hwc := bl_mem (G := [(zo14irriiiiiirriirrrrlriiii m0 th aS aI im ac sp en wg op aB aT se dn aG aO aN aD bv aY (nI tm.length) kd nu tv), (zaI aS cS 901 fS), (zaI aI cI 901 fI), (zaI aB cB 6 fB), (zaI aT cT 64 fT), (zaI aG cG 9 fG), (zaL aO cO 36 fO), (zaL aN cN 36 fN), (zaI aD cD 36 fD), (zaI aY cY 20 fY)]) (F := [(zo14irriiiiiirriirrrrlriiii m0 th aS aI im ac sp en wg op aB aT se dn aG aO aN aD bv aY (nI tm.length) kd nu tv), (zaI aS cS 901 fS)]) (T := []) [0, 1] rfl
  have hPc := bl_sub (F := [(zo14irriiiiiirriirrrrlriiii m0 th aS aI im ac sp en wg op aB aT se dn aG aO aN aD bv aY (nI tm.length) kd nu tv), (zaI aS cS 901 fS)]) hP [0, 1] rfl
  refine ⟨_, _, _, c_mFeed l dC dI m0 aS aI aB aT aG aO aN aD aY th im ac sp en wg op se dn (nI tm.length) kd nu tv bv cS fS tp x s.heap.size zt ht, ⟨rfl, rfl, hPc, (K_mem hK hTM).sub [0] rfl, bl_Dsub hD [0, 1] (by decide) rfl⟩, fun o t hQ => ?_, fun q hq => bl_A hwc q hq⟩
  obtain ⟨⟨r, u9, rfl, hpost, hB⟩, hz, hkp⟩ := hQ
  obtain ⟨fS9, rfl⟩ : ∃ z9, z9 = u9 := ⟨_, rfl⟩
  try dsimp only at hpost hB
  obtain ⟨hP1, hK1, hD1⟩ := hB
  obtain ⟨hr9, hpost⟩ := hpost
  rcases hpost with ⟨hlt, e9⟩ | ⟨hge, h100, hx0, hx1, e9⟩
  · skip
    obtain rfl := e9.symm
    have hJ := bl_gen (F' := [(zo14irriiiiiirriirrrrlriiii m0 th aS aI im ac sp en wg op aB aT se dn aG aO aN aD bv aY (nI tm.length) kd nu tv), (zaI aS cS 901 fS), (zaI aI cI 901 fI), (zaI aB cB 6 fB), (zaI aT cT 64 fT), (zaI aG cG 9 fG), (zaL aO cO 36 fO), (zaL aN cN 36 fN), (zaI aD cD 36 fD), (zaI aY cY 20 fY)]) hP hD [0, 1] rfl hkp hP1 hD1 [some 0, some 1, none, none, none, none, none, none, none, none] [0, 1] rfl (Or.inl rfl) rfl
    exact ⟨⟨r, (im, (n, wk, kb, mi, sn, yk, yv, yc, hl, tp, tc, hC, ee), kvm, tm), rfl, ⟨hr9, u_eq (fdF_no (hp_lt hr9 hlt))⟩, _, (fun M9 k9 => k9 aS aI aB aT aG aO aN aD aY th ac sp en wg op se dn ((nI tm.length)) kd nu tv bv cS cI cB cT cG cO cN cD cY (fS) fI fB fT fG fO fN fD fY rfl hJ.1 ⟨hJ.2.1, fun _ _ _ => trivial⟩ hTM ⟨(show MOK fS n wk kb hl tp from hMS), (show MH fS hl tp tc hC from hMH), (show MV fS n mi sn yk yv yc ee from hMV)⟩ ((show im = 0 ∨ (MOK fI (kvm.1) (kvm.2.1) (kvm.2.2.1) (kvm.2.2.2.2.2.2.2.2.1) (kvm.2.2.2.2.2.2.2.2.2.1) ∧ MH fI (kvm.2.2.2.2.2.2.2.2.1) (kvm.2.2.2.2.2.2.2.2.2.1) (kvm.2.2.2.2.2.2.2.2.2.2.1) (kvm.2.2.2.2.2.2.2.2.2.2.2.1) ∧ MV fI (kvm.1) (kvm.2.2.2.1) (kvm.2.2.2.2.1) (kvm.2.2.2.2.2.1) (kvm.2.2.2.2.2.2.1) (kvm.2.2.2.2.2.2.2.1) (kvm.2.2.2.2.2.2.2.2.2.2.2.2)) from hMI)) (⟨hrq, rfl, hYm⟩)), hJ.2, rfl⟩, hz, fun q h1 h2 => hkp q h1 (fun h => h2 (bl_A hwc _ h))⟩
  · skip
    subst e9
    have hJ := bl_gen (F' := [(zo14irriiiiiirriirrrrlriiii m0 th aS aI im ac sp en wg op aB aT se dn aG aO aN aD bv aY (nI tm.length) kd nu tv), (zaI aS cS 901 (upd (upd fS (91 + tp) x) 4 (nI (tp + 1)))), (zaI aI cI 901 fI), (zaI aB cB 6 fB), (zaI aT cT 64 fT), (zaI aG cG 9 fG), (zaL aO cO 36 fO), (zaL aN cN 36 fN), (zaI aD cD 36 fD), (zaI aY cY 20 fY)]) hP hD [0, 1] rfl hkp hP1 hD1 [some 0, some 1, none, none, none, none, none, none, none, none] [0, 1] rfl (Or.inl rfl) rfl
    exact ⟨⟨r, (im, (n, wk, kb, mi, sn, yk, yv, yc, hl, tp + 1, (fun k => if k = tp then x.toNatClampNeg else tc k), hC, ee), kvm, tm), rfl, ⟨hr9, u_eq (fdF_yes (hp_ge hr9 hge))⟩, _, (fun M9 k9 => k9 aS aI aB aT aG aO aN aD aY th ac sp en wg op se dn ((nI tm.length)) kd nu tv bv cS cI cB cT cG cO cN cD cY (upd (upd fS (91 + tp) x) 4 (nI (tp + 1))) fI fB fT fG fO fN fD fY rfl hJ.1 ⟨hJ.2.1, fun _ _ _ => trivial⟩ hTM ⟨(show MOK (upd (upd fS (91 + tp) x) 4 (nI (tp + 1))) n wk kb hl (tp + 1) from MOK_feed hMS (by omega) pk_us (fun i h1 h2 => by rw [pk_un h1, pk_un (by omega)])), (show MH (upd (upd fS (91 + tp) x) 4 (nI (tp + 1))) hl (tp + 1) (fun k => if k = tp then x.toNatClampNeg else tc k) hC from MH_feed hMH h5 h100 hx0 hx1), (show MV (upd (upd fS (91 + tp) x) 4 (nI (tp + 1))) n mi sn yk yv yc ee from MV_of hMV (fun i hi => by rw [pk_un (by omega), pk_un (by omega)]))⟩ ((show im = 0 ∨ (MOK fI (kvm.1) (kvm.2.1) (kvm.2.2.1) (kvm.2.2.2.2.2.2.2.2.1) (kvm.2.2.2.2.2.2.2.2.2.1) ∧ MH fI (kvm.2.2.2.2.2.2.2.2.1) (kvm.2.2.2.2.2.2.2.2.2.1) (kvm.2.2.2.2.2.2.2.2.2.2.1) (kvm.2.2.2.2.2.2.2.2.2.2.2.1) ∧ MV fI (kvm.1) (kvm.2.2.2.1) (kvm.2.2.2.2.1) (kvm.2.2.2.2.2.1) (kvm.2.2.2.2.2.2.1) (kvm.2.2.2.2.2.2.2.1) (kvm.2.2.2.2.2.2.2.2.2.2.2.2)) from hMI)) (⟨hrq, rfl, hYm⟩)), hJ.2, rfl⟩, hz, fun q h1 h2 => hkp q h1 (fun h => h2 (bl_A hwc _ h))⟩

set_option maxHeartbeats 4000000 in
set_option maxRecDepth 100000 in
theorem v_walk (l : Launch) (dC : Nat → ClassId) (dI : Nat → Nat → Nat) (sK sV : Nat → Nat) (im : Int32) (vm kvm : VS) (tm : List Nat) (T : List (ClassId × FieldType)) (m0 : Nat) (M : va_W) (x : Int32) (sz : Nat) : Met l yX12_walk wsX12_walk ({ frames := 1, cells := 0, slots := 0, locals := 22 } : Room) (va_Pc [.ref m0, .int x] (fun U => U.heap.size = sz ∧ MI dC dI im vm kvm tm T m0 M U.heap ∧ va_K (dC, dI) vwCl T U ∧ Gs sK sV (va_A M sz) U)) (va_Qi (fun (r : Int32) (u : Int32 × VS × VS × List Nat) => r = wkR vm.2.1 x ∧ u = (im, (vm.1, wkN vm.2.1 x, vm.2.2.1, vm.2.2.2.1, vm.2.2.2.2.1, vm.2.2.2.2.2.1, vm.2.2.2.2.2.2.1, vm.2.2.2.2.2.2.2.1, vm.2.2.2.2.2.2.2.2.1, vm.2.2.2.2.2.2.2.2.2.1, vm.2.2.2.2.2.2.2.2.2.2.1, vm.2.2.2.2.2.2.2.2.2.2.2.1, vm.2.2.2.2.2.2.2.2.2.2.2.2), kvm, tm)) (fun (u : Int32 × VS × VS × List Nat) (t : State) => ∃ M1 : va_W, MI dC dI u.1 u.2.1 u.2.2.1 u.2.2.2 T m0 M1 t.heap ∧ va_D (va_A M sz) M1 ∧ M1.map (fun c => c.1) = M.map (fun c => c.1)) (va_A M sz)) 0 0 (va_A M sz) := by
  obtain ⟨n, wk, kb, mi, sn, yk, yv, yc, hl, tp, tc, hC, ee⟩ := vm
  refine met_wrap (fun args s hPc => ?_)
  obtain ⟨rfl, rfl, hMM, hK, hE⟩ := hPc
  have hMM0 := hMM
  refine hMM _ (fun aS aI aB aT aG aO aN aD aY th ac sp en wg op se dn rn kd nu tv bv cS cI cB cT cG cO cN cD cY fS fI fB fT fG fO fN fD fY hM hP hD hTM hMS hMI hrn => ?_)
  have hMV : MV fS n mi sn yk yv yc ee := hMS.2.2
  have hMH : MH fS hl tp tc hC := hMS.2.1
  have hMS : MOK fS n wk kb hl tp := hMS.1
  obtain ⟨hn, zn, h5, z1, hw6, zw, hk12, zk, zb, ht, zt, hHd⟩ := id hMS
  obtain ⟨hrq, rfl, hYm⟩ := hrn
  subst hM
  have hP : va_P (dC, dI) vwCl ([(zo14irriiiiiirriirrrrlriiii m0 th aS aI im ac sp en wg op aB aT se dn aG aO aN aD bv aY (nI tm.length) kd nu tv), (zaI aS cS 901 fS), (zaI aI cI 901 fI), (zaI aB cB 6 fB), (zaI aT cT 64 fT), (zaI aG cG 9 fG), (zaL aO cO 36 fO), (zaL aN cN 36 fN), (zaI aD cD 36 fD), (zaI aY cY 20 fY)] ++ []) s.heap := hP
  have hD : va_D (fun _ => True) ([(zo14irriiiiiirriirrrrlriiii m0 th aS aI im ac sp en wg op aB aT se dn aG aO aN aD bv aY (nI tm.length) kd nu tv), (zaI aS cS 901 fS), (zaI aI cI 901 fI), (zaI aB cB 6 fB), (zaI aT cT 64 fT), (zaI aG cG 9 fG), (zaL aO cO 36 fO), (zaL aN cN 36 fN), (zaI aD cD 36 fD), (zaI aY cY 20 fY)] ++ []) := hD
  have hwc := bl_mem (G := [(zo14irriiiiiirriirrrrlriiii m0 th aS aI im ac sp en wg op aB aT se dn aG aO aN aD bv aY (nI tm.length) kd nu tv), (zaI aS cS 901 fS), (zaI aI cI 901 fI), (zaI aB cB 6 fB), (zaI aT cT 64 fT), (zaI aG cG 9 fG), (zaL aO cO 36 fO), (zaL aN cN 36 fN), (zaI aD cD 36 fD), (zaI aY cY 20 fY)]) (F := [(zo14irriiiiiirriirrrrlriiii m0 th aS aI im ac sp en wg op aB aT se dn aG aO aN aD bv aY (nI tm.length) kd nu tv), (zaI aS cS 901 fS)]) (T := []) [0, 1] rfl
  have hPc := bl_sub (F := [(zo14irriiiiiirriirrrrlriiii m0 th aS aI im ac sp en wg op aB aT se dn aG aO aN aD bv aY (nI tm.length) kd nu tv), (zaI aS cS 901 fS)]) hP [0, 1] rfl
  refine ⟨_, _, _, c_mWalk l dC dI m0 aS aI aB aT aG aO aN aD aY th im ac sp en wg op se dn (nI tm.length) kd nu tv bv cS fS wk x s.heap.size zw hw6, ⟨rfl, rfl, hPc, (K_mem hK hTM).sub [0] rfl, bl_Dsub hD [0, 1] (by decide) rfl⟩, fun o t hQ => ?_, fun q hq => bl_A hwc q hq⟩
  obtain ⟨⟨r, u9, rfl, hpost, hB⟩, hz, hkp⟩ := hQ
  obtain ⟨fS9, rfl⟩ : ∃ z9, z9 = u9 := ⟨_, rfl⟩
  try dsimp only at hpost hB
  obtain ⟨hP1, hK1, hD1⟩ := hB
  obtain ⟨q1, q2, q3⟩ := hpost
  have hJ := bl_gen (F' := [(zo14irriiiiiirriirrrrlriiii m0 th aS aI im ac sp en wg op aB aT se dn aG aO aN aD bv aY (nI tm.length) kd nu tv), (zaI aS cS 901 fS9), (zaI aI cI 901 fI), (zaI aB cB 6 fB), (zaI aT cT 64 fT), (zaI aG cG 9 fG), (zaL aO cO 36 fO), (zaL aN cN 36 fN), (zaI aD cD 36 fD), (zaI aY cY 20 fY)]) hP hD [0, 1] rfl hkp hP1 hD1 [some 0, some 1, none, none, none, none, none, none, none, none] [0, 1] rfl (Or.inl rfl) rfl
  exact ⟨⟨r, (im, (n, wkN wk x, kb, mi, sn, yk, yv, yc, hl, tp, tc, hC, ee), kvm, tm), rfl, ⟨q1, rfl⟩, _, (fun M9 k9 => k9 aS aI aB aT aG aO aN aD aY th ac sp en wg op se dn ((nI tm.length)) kd nu tv bv cS cI cB cT cG cO cN cD cY (fS9) fI fB fT fG fO fN fD fY rfl hJ.1 ⟨hJ.2.1, fun _ _ _ => trivial⟩ hTM ⟨(show MOK fS9 n (wkN wk x) kb hl tp from MOK_walk hMS (wkN_le hw6) q2 q3), (show MH fS9 hl tp tc hC from MH_of hMH h5 ht (fun i hi => q3 i (by omega) (by omega))), (show MV fS9 n mi sn yk yv yc ee from MV_of hMV (fun i hi => q3 i (by omega) (by omega)))⟩ ((show im = 0 ∨ (MOK fI (kvm.1) (kvm.2.1) (kvm.2.2.1) (kvm.2.2.2.2.2.2.2.2.1) (kvm.2.2.2.2.2.2.2.2.2.1) ∧ MH fI (kvm.2.2.2.2.2.2.2.2.1) (kvm.2.2.2.2.2.2.2.2.2.1) (kvm.2.2.2.2.2.2.2.2.2.2.1) (kvm.2.2.2.2.2.2.2.2.2.2.2.1) ∧ MV fI (kvm.1) (kvm.2.2.2.1) (kvm.2.2.2.2.1) (kvm.2.2.2.2.2.1) (kvm.2.2.2.2.2.2.1) (kvm.2.2.2.2.2.2.2.1) (kvm.2.2.2.2.2.2.2.2.2.2.2.2)) from hMI)) (⟨hrq, rfl, hYm⟩)), hJ.2, rfl⟩, hz, fun q h1 h2 => hkp q h1 (fun h => h2 (bl_A hwc _ h))⟩

set_option maxHeartbeats 4000000 in
set_option maxRecDepth 100000 in
theorem v_book (l : Launch) (dC : Nat → ClassId) (dI : Nat → Nat → Nat) (sK sV : Nat → Nat) (im : Int32) (vm kvm : VS) (tm : List Nat) (T : List (ClassId × FieldType)) (m0 : Nat) (M : va_W) (x : Int32) (sz : Nat) : Met l yX12_book wsX12_book ({ frames := 2, cells := 0, slots := 0, locals := 43 } : Room) (va_Pc [.ref m0, .int x] (fun U => U.heap.size = sz ∧ MI dC dI im vm kvm tm T m0 M U.heap ∧ va_K (dC, dI) vwCl T U ∧ Gs sK sV (va_A M sz) U)) (va_Qi (fun (r : Int32) (u : Int32 × VS × VS × List Nat) => r = bkR vm.1 vm.2.2.1 x ∧ u = (im, (vm.1, vm.2.1, bkN vm.1 vm.2.2.1 x, vm.2.2.2.1, vm.2.2.2.2.1, vm.2.2.2.2.2.1, vm.2.2.2.2.2.2.1, vm.2.2.2.2.2.2.2.1, vm.2.2.2.2.2.2.2.2.1, vm.2.2.2.2.2.2.2.2.2.1, vm.2.2.2.2.2.2.2.2.2.2.1, vm.2.2.2.2.2.2.2.2.2.2.2.1, vm.2.2.2.2.2.2.2.2.2.2.2.2), kvm, tm)) (fun (u : Int32 × VS × VS × List Nat) (t : State) => ∃ M1 : va_W, MI dC dI u.1 u.2.1 u.2.2.1 u.2.2.2 T m0 M1 t.heap ∧ va_D (va_A M sz) M1 ∧ M1.map (fun c => c.1) = M.map (fun c => c.1)) (va_A M sz)) 0 0 (va_A M sz) := by
  obtain ⟨n, wk, kb, mi, sn, yk, yv, yc, hl, tp, tc, hC, ee⟩ := vm
  refine met_wrap (fun args s hPc => ?_)
  obtain ⟨rfl, rfl, hMM, hK, hE⟩ := hPc
  have hMM0 := hMM
  refine hMM _ (fun aS aI aB aT aG aO aN aD aY th ac sp en wg op se dn rn kd nu tv bv cS cI cB cT cG cO cN cD cY fS fI fB fT fG fO fN fD fY hM hP hD hTM hMS hMI hrn => ?_)
  have hMV : MV fS n mi sn yk yv yc ee := hMS.2.2
  have hMH : MH fS hl tp tc hC := hMS.2.1
  have hMS : MOK fS n wk kb hl tp := hMS.1
  obtain ⟨hn, zn, h5, z1, hw6, zw, hk12, zk, zb, ht, zt, hHd⟩ := id hMS
  obtain ⟨hrq, rfl, hYm⟩ := hrn
  subst hM
  have hP : va_P (dC, dI) vwCl ([(zo14irriiiiiirriirrrrlriiii m0 th aS aI im ac sp en wg op aB aT se dn aG aO aN aD bv aY (nI tm.length) kd nu tv), (zaI aS cS 901 fS), (zaI aI cI 901 fI), (zaI aB cB 6 fB), (zaI aT cT 64 fT), (zaI aG cG 9 fG), (zaL aO cO 36 fO), (zaL aN cN 36 fN), (zaI aD cD 36 fD), (zaI aY cY 20 fY)] ++ []) s.heap := hP
  have hD : va_D (fun _ => True) ([(zo14irriiiiiirriirrrrlriiii m0 th aS aI im ac sp en wg op aB aT se dn aG aO aN aD bv aY (nI tm.length) kd nu tv), (zaI aS cS 901 fS), (zaI aI cI 901 fI), (zaI aB cB 6 fB), (zaI aT cT 64 fT), (zaI aG cG 9 fG), (zaL aO cO 36 fO), (zaL aN cN 36 fN), (zaI aD cD 36 fD), (zaI aY cY 20 fY)] ++ []) := hD
  have hwc := bl_mem (G := [(zo14irriiiiiirriirrrrlriiii m0 th aS aI im ac sp en wg op aB aT se dn aG aO aN aD bv aY (nI tm.length) kd nu tv), (zaI aS cS 901 fS), (zaI aI cI 901 fI), (zaI aB cB 6 fB), (zaI aT cT 64 fT), (zaI aG cG 9 fG), (zaL aO cO 36 fO), (zaL aN cN 36 fN), (zaI aD cD 36 fD), (zaI aY cY 20 fY)]) (F := [(zo14irriiiiiirriirrrrlriiii m0 th aS aI im ac sp en wg op aB aT se dn aG aO aN aD bv aY (nI tm.length) kd nu tv), (zaI aS cS 901 fS)]) (T := []) [0, 1] rfl
  have hPc := bl_sub (F := [(zo14irriiiiiirriirrrrlriiii m0 th aS aI im ac sp en wg op aB aT se dn aG aO aN aD bv aY (nI tm.length) kd nu tv), (zaI aS cS 901 fS)]) hP [0, 1] rfl
  refine ⟨_, _, _, c_mBook l dC dI m0 aS aI aB aT aG aO aN aD aY th im ac sp en wg op se dn (nI tm.length) kd nu tv bv cS fS n kb x s.heap.size zn hn zk hk12 zb, ⟨rfl, rfl, hPc, (K_mem hK hTM).sub [0] rfl, bl_Dsub hD [0, 1] (by decide) rfl⟩, fun o t hQ => ?_, fun q hq => bl_A hwc q hq⟩
  obtain ⟨⟨r, u9, rfl, hpost, hB⟩, hz, hkp⟩ := hQ
  obtain ⟨fS9, rfl⟩ : ∃ z9, z9 = u9 := ⟨_, rfl⟩
  try dsimp only at hpost hB
  obtain ⟨hP1, hK1, hD1⟩ := hB
  obtain ⟨q1, q2, zb9, q3⟩ := hpost
  have hJ := bl_gen (F' := [(zo14irriiiiiirriirrrrlriiii m0 th aS aI im ac sp en wg op aB aT se dn aG aO aN aD bv aY (nI tm.length) kd nu tv), (zaI aS cS 901 fS9), (zaI aI cI 901 fI), (zaI aB cB 6 fB), (zaI aT cT 64 fT), (zaI aG cG 9 fG), (zaL aO cO 36 fO), (zaL aN cN 36 fN), (zaI aD cD 36 fD), (zaI aY cY 20 fY)]) hP hD [0, 1] rfl hkp hP1 hD1 [some 0, some 1, none, none, none, none, none, none, none, none] [0, 1] rfl (Or.inl rfl) rfl
  exact ⟨⟨r, (im, (n, wk, bkN n kb x, mi, sn, yk, yv, yc, hl, tp, tc, hC, ee), kvm, tm), rfl, ⟨q1, rfl⟩, _, (fun M9 k9 => k9 aS aI aB aT aG aO aN aD aY th ac sp en wg op se dn ((nI tm.length)) kd nu tv bv cS cI cB cT cG cO cN cD cY (fS9) fI fB fT fG fO fN fD fY rfl hJ.1 ⟨hJ.2.1, fun _ _ _ => trivial⟩ hTM ⟨(show MOK fS9 n wk (bkN n kb x) hl tp from MOK_book hMS (bkN_le hk12) q2 zb9 q3), (show MH fS9 hl tp tc hC from MH_of hMH h5 ht (fun i hi => q3 i (by omega) (by omega))), (show MV fS9 n mi sn yk yv yc ee from MV_of hMV (fun i hi => q3 i (by omega) (by omega)))⟩ ((show im = 0 ∨ (MOK fI (kvm.1) (kvm.2.1) (kvm.2.2.1) (kvm.2.2.2.2.2.2.2.2.1) (kvm.2.2.2.2.2.2.2.2.2.1) ∧ MH fI (kvm.2.2.2.2.2.2.2.2.1) (kvm.2.2.2.2.2.2.2.2.2.1) (kvm.2.2.2.2.2.2.2.2.2.2.1) (kvm.2.2.2.2.2.2.2.2.2.2.2.1) ∧ MV fI (kvm.1) (kvm.2.2.2.1) (kvm.2.2.2.2.1) (kvm.2.2.2.2.2.1) (kvm.2.2.2.2.2.2.1) (kvm.2.2.2.2.2.2.2.1) (kvm.2.2.2.2.2.2.2.2.2.2.2.2)) from hMI)) (⟨hrq, rfl, hYm⟩)), hJ.2, rfl⟩, hz, fun q h1 h2 => hkp q h1 (fun h => h2 (bl_A hwc _ h))⟩

set_option maxHeartbeats 4000000 in
set_option maxRecDepth 100000 in
theorem v_set (l : Launch) (dC : Nat → ClassId) (dI : Nat → Nat → Nat) (sK sV : Nat → Nat) (im : Int32) (vm kvm : VS) (tm : List Nat) (T : List (ClassId × FieldType)) (m0 : Nat) (M : va_W) (x : Int32) (y : Int32) (sz : Nat) : Met l yX12_set wsX12_set ({ frames := 1, cells := 0, slots := 0, locals := 22 } : Room) (va_Pc [.ref m0, .int x, .int y] (fun U => U.heap.size = sz ∧ MI dC dI im vm kvm tm T m0 M U.heap ∧ va_K (dC, dI) vwCl T U ∧ Gs sK sV (va_A M sz) U)) (va_Qi (fun (r : Int32) (u : Int32 × VS × VS × List Nat) => r = stR vm.2.2.2.1 vm.2.2.2.2.1 x y ∧ u = (im, (vm.1, vm.2.1, vm.2.2.1, stM vm.2.2.2.1 x y, stN vm.2.2.2.2.1 x y, vm.2.2.2.2.2.1, vm.2.2.2.2.2.2.1, vm.2.2.2.2.2.2.2.1, vm.2.2.2.2.2.2.2.2.1, vm.2.2.2.2.2.2.2.2.2.1, vm.2.2.2.2.2.2.2.2.2.2.1, vm.2.2.2.2.2.2.2.2.2.2.2.1, vm.2.2.2.2.2.2.2.2.2.2.2.2), kvm, tm)) (fun (u : Int32 × VS × VS × List Nat) (t : State) => ∃ M1 : va_W, MI dC dI u.1 u.2.1 u.2.2.1 u.2.2.2 T m0 M1 t.heap ∧ va_D (va_A M sz) M1 ∧ M1.map (fun c => c.1) = M.map (fun c => c.1)) (va_A M sz)) 0 0 (va_A M sz) := by
  obtain ⟨n, wk, kb, mi, sn, yk, yv, yc, hl, tp, tc, hC, ee⟩ := vm
  refine met_wrap (fun args s hPc => ?_)
  obtain ⟨rfl, rfl, hMM, hK, hE⟩ := hPc
  have hMM0 := hMM
  refine hMM _ (fun aS aI aB aT aG aO aN aD aY th ac sp en wg op se dn rn kd nu tv bv cS cI cB cT cG cO cN cD cY fS fI fB fT fG fO fN fD fY hM hP hD hTM hMS hMI hrn => ?_)
  have hMV : MV fS n mi sn yk yv yc ee := hMS.2.2
  have hMH : MH fS hl tp tc hC := hMS.2.1
  have hMS : MOK fS n wk kb hl tp := hMS.1
  obtain ⟨hn, zn, h5, z1, hw6, zw, hk12, zk, zb, ht, zt, hHd⟩ := id hMS
  obtain ⟨hrq, rfl, hYm⟩ := hrn
  subst hM
  have hP : va_P (dC, dI) vwCl ([(zo14irriiiiiirriirrrrlriiii m0 th aS aI im ac sp en wg op aB aT se dn aG aO aN aD bv aY (nI tm.length) kd nu tv), (zaI aS cS 901 fS), (zaI aI cI 901 fI), (zaI aB cB 6 fB), (zaI aT cT 64 fT), (zaI aG cG 9 fG), (zaL aO cO 36 fO), (zaL aN cN 36 fN), (zaI aD cD 36 fD), (zaI aY cY 20 fY)] ++ []) s.heap := hP
  have hD : va_D (fun _ => True) ([(zo14irriiiiiirriirrrrlriiii m0 th aS aI im ac sp en wg op aB aT se dn aG aO aN aD bv aY (nI tm.length) kd nu tv), (zaI aS cS 901 fS), (zaI aI cI 901 fI), (zaI aB cB 6 fB), (zaI aT cT 64 fT), (zaI aG cG 9 fG), (zaL aO cO 36 fO), (zaL aN cN 36 fN), (zaI aD cD 36 fD), (zaI aY cY 20 fY)] ++ []) := hD
  have hwc := bl_mem (G := [(zo14irriiiiiirriirrrrlriiii m0 th aS aI im ac sp en wg op aB aT se dn aG aO aN aD bv aY (nI tm.length) kd nu tv), (zaI aS cS 901 fS), (zaI aI cI 901 fI), (zaI aB cB 6 fB), (zaI aT cT 64 fT), (zaI aG cG 9 fG), (zaL aO cO 36 fO), (zaL aN cN 36 fN), (zaI aD cD 36 fD), (zaI aY cY 20 fY)]) (F := [(zo14irriiiiiirriirrrrlriiii m0 th aS aI im ac sp en wg op aB aT se dn aG aO aN aD bv aY (nI tm.length) kd nu tv), (zaI aS cS 901 fS)]) (T := []) [0, 1] rfl
  have hPc := bl_sub (F := [(zo14irriiiiiirriirrrrlriiii m0 th aS aI im ac sp en wg op aB aT se dn aG aO aN aD bv aY (nI tm.length) kd nu tv), (zaI aS cS 901 fS)]) hP [0, 1] rfl
  refine ⟨_, _, _, c_mSet l dC dI m0 aS aI aB aT aG aO aN aD aY th im ac sp en wg op se dn (nI tm.length) kd nu tv bv cS fS x y s.heap.size , ⟨rfl, rfl, hPc, (K_mem hK hTM).sub [0] rfl, bl_Dsub hD [0, 1] (by decide) rfl⟩, fun o t hQ => ?_, fun q hq => bl_A hwc q hq⟩
  obtain ⟨⟨r, u9, rfl, hpost, hB⟩, hz, hkp⟩ := hQ
  obtain ⟨fS9, rfl⟩ : ∃ z9, z9 = u9 := ⟨_, rfl⟩
  try dsimp only at hpost hB
  obtain ⟨hP1, hK1, hD1⟩ := hB
  obtain ⟨⟨q1, q2, q3⟩, q4⟩ := hpost
  have hJ := bl_gen (F' := [(zo14irriiiiiirriirrrrlriiii m0 th aS aI im ac sp en wg op aB aT se dn aG aO aN aD bv aY (nI tm.length) kd nu tv), (zaI aS cS 901 fS9), (zaI aI cI 901 fI), (zaI aB cB 6 fB), (zaI aT cT 64 fT), (zaI aG cG 9 fG), (zaL aO cO 36 fO), (zaL aN cN 36 fN), (zaI aD cD 36 fD), (zaI aY cY 20 fY)]) hP hD [0, 1] rfl hkp hP1 hD1 [some 0, some 1, none, none, none, none, none, none, none, none] [0, 1] rfl (Or.inl rfl) rfl
  exact ⟨⟨r, (im, (n, wk, kb, stM mi x y, stN sn x y, yk, yv, yc, hl, tp, tc, hC, ee), kvm, tm), rfl, ⟨by rw [← hMV.1, ← hMV.2.1]; exact q1, rfl⟩, _, (fun M9 k9 => k9 aS aI aB aT aG aO aN aD aY th ac sp en wg op se dn ((nI tm.length)) kd nu tv bv cS cI cB cT cG cO cN cD cY (fS9) fI fB fT fG fO fN fD fY rfl hJ.1 ⟨hJ.2.1, fun _ _ _ => trivial⟩ hTM ⟨(show MOK fS9 n wk kb hl tp from MOK_rest hMS (fun i hi => q4 i (by omega) (by omega))), (show MH fS9 hl tp tc hC from MH_of hMH h5 ht (fun i hi => q4 i (by omega) (by omega))), (show MV fS9 n (stM mi x y) (stN sn x y) yk yv yc ee from ⟨by rw [q2, hMV.1], by rw [q3, hMV.2.1], fun k hk => (q4 _ (by omega) (by omega)).trans (hMV.2.2.1 k hk), fun k hk => (q4 _ (by omega) (by omega)).trans (hMV.2.2.2.1 k hk), fun k hk => (q4 _ (by omega) (by omega)).trans (hMV.2.2.2.2.1 k hk), fun k hk => (q4 _ (by omega) (by omega)).trans (hMV.2.2.2.2.2.1 k hk), st_mb hMV.2.2.2.2.2.2⟩)⟩ ((show im = 0 ∨ (MOK fI (kvm.1) (kvm.2.1) (kvm.2.2.1) (kvm.2.2.2.2.2.2.2.2.1) (kvm.2.2.2.2.2.2.2.2.2.1) ∧ MH fI (kvm.2.2.2.2.2.2.2.2.1) (kvm.2.2.2.2.2.2.2.2.2.1) (kvm.2.2.2.2.2.2.2.2.2.2.1) (kvm.2.2.2.2.2.2.2.2.2.2.2.1) ∧ MV fI (kvm.1) (kvm.2.2.2.1) (kvm.2.2.2.2.1) (kvm.2.2.2.2.2.1) (kvm.2.2.2.2.2.2.1) (kvm.2.2.2.2.2.2.2.1) (kvm.2.2.2.2.2.2.2.2.2.2.2.2)) from hMI)) (⟨hrq, rfl, hYm⟩)), hJ.2, rfl⟩, hz, fun q h1 h2 => hkp q h1 (fun h => h2 (bl_A hwc _ h))⟩

set_option maxHeartbeats 4000000 in
set_option maxRecDepth 100000 in
theorem v_edges (l : Launch) (dC : Nat → ClassId) (dI : Nat → Nat → Nat) (sK sV : Nat → Nat) (im : Int32) (vm kvm : VS) (tm : List Nat) (T : List (ClassId × FieldType)) (m0 : Nat) (M : va_W) (x : Int64) (sz : Nat) : Met l yX12_edges wsX12_edges ({ frames := 1, cells := 0, slots := 0, locals := 22 } : Room) (va_Pc [.ref m0, .long x] (fun U => U.heap.size = sz ∧ MI dC dI im vm kvm tm T m0 M U.heap ∧ va_K (dC, dI) vwCl T U ∧ Gs sK sV (va_A M sz) U)) (va_Qi (fun (r : Int32) (u : Int32 × VS × VS × List Nat) => r = edR vm.2.2.2.2.2.2.2.2.2.2.2.2 x ∧ u = (im, (vm.1, vm.2.1, vm.2.2.1, vm.2.2.2.1, vm.2.2.2.2.1, vm.2.2.2.2.2.1, vm.2.2.2.2.2.2.1, vm.2.2.2.2.2.2.2.1, vm.2.2.2.2.2.2.2.2.1, vm.2.2.2.2.2.2.2.2.2.1, vm.2.2.2.2.2.2.2.2.2.2.1, vm.2.2.2.2.2.2.2.2.2.2.2.1, edN vm.2.2.2.2.2.2.2.2.2.2.2.2 x), kvm, tm)) (fun (u : Int32 × VS × VS × List Nat) (t : State) => ∃ M1 : va_W, MI dC dI u.1 u.2.1 u.2.2.1 u.2.2.2 T m0 M1 t.heap ∧ va_D (va_A M sz) M1 ∧ M1.map (fun c => c.1) = M.map (fun c => c.1)) (va_A M sz)) 0 0 (va_A M sz) := by
  obtain ⟨n, wk, kb, mi, sn, yk, yv, yc, hl, tp, tc, hC, ee⟩ := vm
  refine met_wrap (fun args s hPc => ?_)
  obtain ⟨rfl, rfl, hMM, hK, hE⟩ := hPc
  have hMM0 := hMM
  refine hMM _ (fun aS aI aB aT aG aO aN aD aY th ac sp en wg op se dn rn kd nu tv bv cS cI cB cT cG cO cN cD cY fS fI fB fT fG fO fN fD fY hM hP hD hTM hMS hMI hrn => ?_)
  have hMV : MV fS n mi sn yk yv yc ee := hMS.2.2
  have hMH : MH fS hl tp tc hC := hMS.2.1
  have hMS : MOK fS n wk kb hl tp := hMS.1
  obtain ⟨hn, zn, h5, z1, hw6, zw, hk12, zk, zb, ht, zt, hHd⟩ := id hMS
  obtain ⟨hrq, rfl, hYm⟩ := hrn
  subst hM
  have hP : va_P (dC, dI) vwCl ([(zo14irriiiiiirriirrrrlriiii m0 th aS aI im ac sp en wg op aB aT se dn aG aO aN aD bv aY (nI tm.length) kd nu tv), (zaI aS cS 901 fS), (zaI aI cI 901 fI), (zaI aB cB 6 fB), (zaI aT cT 64 fT), (zaI aG cG 9 fG), (zaL aO cO 36 fO), (zaL aN cN 36 fN), (zaI aD cD 36 fD), (zaI aY cY 20 fY)] ++ []) s.heap := hP
  have hD : va_D (fun _ => True) ([(zo14irriiiiiirriirrrrlriiii m0 th aS aI im ac sp en wg op aB aT se dn aG aO aN aD bv aY (nI tm.length) kd nu tv), (zaI aS cS 901 fS), (zaI aI cI 901 fI), (zaI aB cB 6 fB), (zaI aT cT 64 fT), (zaI aG cG 9 fG), (zaL aO cO 36 fO), (zaL aN cN 36 fN), (zaI aD cD 36 fD), (zaI aY cY 20 fY)] ++ []) := hD
  have hwc := bl_mem (G := [(zo14irriiiiiirriirrrrlriiii m0 th aS aI im ac sp en wg op aB aT se dn aG aO aN aD bv aY (nI tm.length) kd nu tv), (zaI aS cS 901 fS), (zaI aI cI 901 fI), (zaI aB cB 6 fB), (zaI aT cT 64 fT), (zaI aG cG 9 fG), (zaL aO cO 36 fO), (zaL aN cN 36 fN), (zaI aD cD 36 fD), (zaI aY cY 20 fY)]) (F := [(zo14irriiiiiirriirrrrlriiii m0 th aS aI im ac sp en wg op aB aT se dn aG aO aN aD bv aY (nI tm.length) kd nu tv), (zaI aS cS 901 fS)]) (T := []) [0, 1] rfl
  have hPc := bl_sub (F := [(zo14irriiiiiirriirrrrlriiii m0 th aS aI im ac sp en wg op aB aT se dn aG aO aN aD bv aY (nI tm.length) kd nu tv), (zaI aS cS 901 fS)]) hP [0, 1] rfl
  refine ⟨_, _, _, c_mEdges l dC dI m0 aS aI aB aT aG aO aN aD aY th im ac sp en wg op se dn (nI tm.length) kd nu tv bv cS fS ee x s.heap.size hMV.2.2.2.2.2.1, ⟨rfl, rfl, hPc, (K_mem hK hTM).sub [0] rfl, bl_Dsub hD [0, 1] (by decide) rfl⟩, fun o t hQ => ?_, fun q hq => bl_A hwc q hq⟩
  obtain ⟨⟨r, u9, rfl, hpost, hB⟩, hz, hkp⟩ := hQ
  obtain ⟨fS9, rfl⟩ : ∃ z9, z9 = u9 := ⟨_, rfl⟩
  try dsimp only at hpost hB
  obtain ⟨hP1, hK1, hD1⟩ := hB
  obtain ⟨hr9, hpost⟩ := hpost
  rcases hpost with ⟨hk9, e9⟩ | ⟨hk9, e, he, em9, q2, q4⟩
  · skip
    obtain rfl := e9.symm
    have hJ := bl_gen (F' := [(zo14irriiiiiirriirrrrlriiii m0 th aS aI im ac sp en wg op aB aT se dn aG aO aN aD bv aY (nI tm.length) kd nu tv), (zaI aS cS 901 fS), (zaI aI cI 901 fI), (zaI aB cB 6 fB), (zaI aT cT 64 fT), (zaI aG cG 9 fG), (zaL aO cO 36 fO), (zaL aN cN 36 fN), (zaI aD cD 36 fD), (zaI aY cY 20 fY)]) hP hD [0, 1] rfl hkp hP1 hD1 [some 0, some 1, none, none, none, none, none, none, none, none] [0, 1] rfl (Or.inl rfl) rfl
    exact ⟨⟨r, (im, (n, wk, kb, mi, sn, yk, yv, yc, hl, tp, tc, hC, ee), kvm, tm), rfl, ⟨hr9, u_eq (by rw [← edN_no hk9])⟩, _, (fun M9 k9 => k9 aS aI aB aT aG aO aN aD aY th ac sp en wg op se dn ((nI tm.length)) kd nu tv bv cS cI cB cT cG cO cN cD cY (fS) fI fB fT fG fO fN fD fY rfl hJ.1 ⟨hJ.2.1, fun _ _ _ => trivial⟩ hTM ⟨(show MOK fS n wk kb hl tp from hMS), (show MH fS hl tp tc hC from hMH), (show MV fS n mi sn yk yv yc ee from hMV)⟩ ((show im = 0 ∨ (MOK fI (kvm.1) (kvm.2.1) (kvm.2.2.1) (kvm.2.2.2.2.2.2.2.2.1) (kvm.2.2.2.2.2.2.2.2.2.1) ∧ MH fI (kvm.2.2.2.2.2.2.2.2.1) (kvm.2.2.2.2.2.2.2.2.2.1) (kvm.2.2.2.2.2.2.2.2.2.2.1) (kvm.2.2.2.2.2.2.2.2.2.2.2.1) ∧ MV fI (kvm.1) (kvm.2.2.2.1) (kvm.2.2.2.2.1) (kvm.2.2.2.2.2.1) (kvm.2.2.2.2.2.2.1) (kvm.2.2.2.2.2.2.2.1) (kvm.2.2.2.2.2.2.2.2.2.2.2.2)) from hMI)) (⟨hrq, rfl, hYm⟩)), hJ.2, rfl⟩, hz, fun q h1 h2 => hkp q h1 (fun h => h2 (bl_A hwc _ h))⟩
  · skip
    subst em9
    have hJ := bl_gen (F' := [(zo14irriiiiiirriirrrrlriiii m0 th aS aI im ac sp en wg op aB aT se dn aG aO aN aD bv aY (nI tm.length) kd nu tv), (zaI aS cS 901 fS9), (zaI aI cI 901 fI), (zaI aB cB 6 fB), (zaI aT cT 64 fT), (zaI aG cG 9 fG), (zaL aO cO 36 fO), (zaL aN cN 36 fN), (zaI aD cD 36 fD), (zaI aY cY 20 fY)]) hP hD [0, 1] rfl hkp hP1 hD1 [some 0, some 1, none, none, none, none, none, none, none, none] [0, 1] rfl (Or.inl rfl) rfl
    exact ⟨⟨r, (im, (n, wk, kb, mi, sn, yk, yv, yc, hl, tp, tc, hC, e), kvm, tm), rfl, ⟨hr9, u_eq (by rw [← edN_yes he hk9])⟩, _, (fun M9 k9 => k9 aS aI aB aT aG aO aN aD aY th ac sp en wg op se dn ((nI tm.length)) kd nu tv bv cS cI cB cT cG cO cN cD cY (fS9) fI fB fT fG fO fN fD fY rfl hJ.1 ⟨hJ.2.1, fun _ _ _ => trivial⟩ hTM ⟨(show MOK fS9 n wk kb hl tp from MOK_rest hMS (fun i hi => q4 i (by omega))), (show MH fS9 hl tp tc hC from MH_of hMH h5 ht (fun i hi => q4 i (by omega))), (show MV fS9 n mi sn yk yv yc e from MV_edg hMV hn q4 q2)⟩ ((show im = 0 ∨ (MOK fI (kvm.1) (kvm.2.1) (kvm.2.2.1) (kvm.2.2.2.2.2.2.2.2.1) (kvm.2.2.2.2.2.2.2.2.2.1) ∧ MH fI (kvm.2.2.2.2.2.2.2.2.1) (kvm.2.2.2.2.2.2.2.2.2.1) (kvm.2.2.2.2.2.2.2.2.2.2.1) (kvm.2.2.2.2.2.2.2.2.2.2.2.1) ∧ MV fI (kvm.1) (kvm.2.2.2.1) (kvm.2.2.2.2.1) (kvm.2.2.2.2.2.1) (kvm.2.2.2.2.2.2.1) (kvm.2.2.2.2.2.2.2.1) (kvm.2.2.2.2.2.2.2.2.2.2.2.2)) from hMI)) (⟨hrq, rfl, hYm⟩)), hJ.2, rfl⟩, hz, fun q h1 h2 => hkp q h1 (fun h => h2 (bl_A hwc _ h))⟩

set_option maxHeartbeats 4000000 in
set_option maxRecDepth 100000 in
theorem v_heap (l : Launch) (dC : Nat → ClassId) (dI : Nat → Nat → Nat) (sK sV : Nat → Nat) (im : Int32) (vm kvm : VS) (tm : List Nat) (T : List (ClassId × FieldType)) (m0 : Nat) (M : va_W) (x : Int32) (y : Int32) (z : Int32) (sz : Nat) : Met l yX12_heap wsX12_heap ({ frames := 2, cells := 0, slots := 0, locals := 42 } : Room) (va_Pc [.ref m0, .int x, .int y, .int z] (fun U => U.heap.size = sz ∧ MI dC dI im vm kvm tm T m0 M U.heap ∧ va_K (dC, dI) vwCl T U ∧ Gs sK sV (va_A M sz) U)) (va_Qi (fun (r : Int32) (u : Int32 × VS × VS × List Nat) => r = hpR vm.1 vm.2.2.2.2.2.2.2.1 x y z ∧ u = (im, hpF vm x y z, kvm, tm)) (fun (u : Int32 × VS × VS × List Nat) (t : State) => ∃ M1 : va_W, MI dC dI u.1 u.2.1 u.2.2.1 u.2.2.2 T m0 M1 t.heap ∧ va_D (va_A M sz) M1 ∧ M1.map (fun c => c.1) = M.map (fun c => c.1)) (va_A M sz)) 0 0 (va_A M sz) := by
  obtain ⟨n, wk, kb, mi, sn, yk, yv, yc, hl, tp, tc, hC, ee⟩ := vm
  refine met_wrap (fun args s hPc => ?_)
  obtain ⟨rfl, rfl, hMM, hK, hE⟩ := hPc
  have hMM0 := hMM
  refine hMM _ (fun aS aI aB aT aG aO aN aD aY th ac sp en wg op se dn rn kd nu tv bv cS cI cB cT cG cO cN cD cY fS fI fB fT fG fO fN fD fY hM hP hD hTM hMS hMI hrn => ?_)
  have hMV : MV fS n mi sn yk yv yc ee := hMS.2.2
  have hMH : MH fS hl tp tc hC := hMS.2.1
  have hMS : MOK fS n wk kb hl tp := hMS.1
  obtain ⟨hn, zn, h5, z1, hw6, zw, hk12, zk, zb, ht, zt, hHd⟩ := id hMS
  obtain ⟨hrq, rfl, hYm⟩ := hrn
  subst hM
  have hP : va_P (dC, dI) vwCl ([(zo14irriiiiiirriirrrrlriiii m0 th aS aI im ac sp en wg op aB aT se dn aG aO aN aD bv aY (nI tm.length) kd nu tv), (zaI aS cS 901 fS), (zaI aI cI 901 fI), (zaI aB cB 6 fB), (zaI aT cT 64 fT), (zaI aG cG 9 fG), (zaL aO cO 36 fO), (zaL aN cN 36 fN), (zaI aD cD 36 fD), (zaI aY cY 20 fY)] ++ []) s.heap := hP
  have hD : va_D (fun _ => True) ([(zo14irriiiiiirriirrrrlriiii m0 th aS aI im ac sp en wg op aB aT se dn aG aO aN aD bv aY (nI tm.length) kd nu tv), (zaI aS cS 901 fS), (zaI aI cI 901 fI), (zaI aB cB 6 fB), (zaI aT cT 64 fT), (zaI aG cG 9 fG), (zaL aO cO 36 fO), (zaL aN cN 36 fN), (zaI aD cD 36 fD), (zaI aY cY 20 fY)] ++ []) := hD
  have hwc := bl_mem (G := [(zo14irriiiiiirriirrrrlriiii m0 th aS aI im ac sp en wg op aB aT se dn aG aO aN aD bv aY (nI tm.length) kd nu tv), (zaI aS cS 901 fS), (zaI aI cI 901 fI), (zaI aB cB 6 fB), (zaI aT cT 64 fT), (zaI aG cG 9 fG), (zaL aO cO 36 fO), (zaL aN cN 36 fN), (zaI aD cD 36 fD), (zaI aY cY 20 fY)]) (F := [(zo14irriiiiiirriirrrrlriiii m0 th aS aI im ac sp en wg op aB aT se dn aG aO aN aD bv aY (nI tm.length) kd nu tv), (zaI aS cS 901 fS)]) (T := []) [0, 1] rfl
  have hPc := bl_sub (F := [(zo14irriiiiiirriirrrrlriiii m0 th aS aI im ac sp en wg op aB aT se dn aG aO aN aD bv aY (nI tm.length) kd nu tv), (zaI aS cS 901 fS)]) hP [0, 1] rfl
  refine ⟨_, _, _, c_mHeap l dC dI m0 aS aI aB aT aG aO aN aD aY th im ac sp en wg op se dn (nI tm.length) kd nu tv bv cS fS n yc x y z s.heap.size zn hn hMV.2.2.2.2.1, ⟨rfl, rfl, hPc, (K_mem hK hTM).sub [0] rfl, bl_Dsub hD [0, 1] (by decide) rfl⟩, fun o t hQ => ?_, fun q hq => bl_A hwc q hq⟩
  obtain ⟨⟨r, u9, rfl, hpost, hB⟩, hz, hkp⟩ := hQ
  obtain ⟨fS9, rfl⟩ : ∃ z9, z9 = u9 := ⟨_, rfl⟩
  try dsimp only at hpost hB
  obtain ⟨hP1, hK1, hD1⟩ := hB
  obtain ⟨hr9, hpost⟩ := hpost
  rcases hpost with ⟨hlt, e9⟩ | ⟨hge, h8, e9⟩
  · skip
    obtain rfl := e9.symm
    have hJ := bl_gen (F' := [(zo14irriiiiiirriirrrrlriiii m0 th aS aI im ac sp en wg op aB aT se dn aG aO aN aD bv aY (nI tm.length) kd nu tv), (zaI aS cS 901 fS), (zaI aI cI 901 fI), (zaI aB cB 6 fB), (zaI aT cT 64 fT), (zaI aG cG 9 fG), (zaL aO cO 36 fO), (zaL aN cN 36 fN), (zaI aD cD 36 fD), (zaI aY cY 20 fY)]) hP hD [0, 1] rfl hkp hP1 hD1 [some 0, some 1, none, none, none, none, none, none, none, none] [0, 1] rfl (Or.inl rfl) rfl
    exact ⟨⟨r, (im, (n, wk, kb, mi, sn, yk, yv, yc, hl, tp, tc, hC, ee), kvm, tm), rfl, ⟨hr9, u_eq (hpF_no (hp_lt hr9 hlt))⟩, _, (fun M9 k9 => k9 aS aI aB aT aG aO aN aD aY th ac sp en wg op se dn ((nI tm.length)) kd nu tv bv cS cI cB cT cG cO cN cD cY (fS) fI fB fT fG fO fN fD fY rfl hJ.1 ⟨hJ.2.1, fun _ _ _ => trivial⟩ hTM ⟨(show MOK fS n wk kb hl tp from hMS), (show MH fS hl tp tc hC from hMH), (show MV fS n mi sn yk yv yc ee from hMV)⟩ ((show im = 0 ∨ (MOK fI (kvm.1) (kvm.2.1) (kvm.2.2.1) (kvm.2.2.2.2.2.2.2.2.1) (kvm.2.2.2.2.2.2.2.2.2.1) ∧ MH fI (kvm.2.2.2.2.2.2.2.2.1) (kvm.2.2.2.2.2.2.2.2.2.1) (kvm.2.2.2.2.2.2.2.2.2.2.1) (kvm.2.2.2.2.2.2.2.2.2.2.2.1) ∧ MV fI (kvm.1) (kvm.2.2.2.1) (kvm.2.2.2.2.1) (kvm.2.2.2.2.2.1) (kvm.2.2.2.2.2.2.1) (kvm.2.2.2.2.2.2.2.1) (kvm.2.2.2.2.2.2.2.2.2.2.2.2)) from hMI)) (⟨hrq, rfl, hYm⟩)), hJ.2, rfl⟩, hz, fun q h1 h2 => hkp q h1 (fun h => h2 (bl_A hwc _ h))⟩
  · skip
    subst e9
    have hJ := bl_gen (F' := [(zo14irriiiiiirriirrrrlriiii m0 th aS aI im ac sp en wg op aB aT se dn aG aO aN aD bv aY (nI tm.length) kd nu tv), (zaI aS cS 901 (upd (upd (upd (upd fS (10 + n) x) (19 + n) y) (28 + n) z) 0 (nI (n + 1)))), (zaI aI cI 901 fI), (zaI aB cB 6 fB), (zaI aT cT 64 fT), (zaI aG cG 9 fG), (zaL aO cO 36 fO), (zaL aN cN 36 fN), (zaI aD cD 36 fD), (zaI aY cY 20 fY)]) hP hD [0, 1] rfl hkp hP1 hD1 [some 0, some 1, none, none, none, none, none, none, none, none] [0, 1] rfl (Or.inl rfl) rfl
    exact ⟨⟨r, (im, (n + 1, wk, kb, mi, sn, (fun k => if k = n then x else yk k), (fun k => if k = n then y else yv k), (fun k => if k = n then z else yc k), hl, tp, tc, hC, ee), kvm, tm), rfl, ⟨hr9, u_eq (hpF_yes (hp_ge hr9 hge))⟩, _, (fun M9 k9 => k9 aS aI aB aT aG aO aN aD aY th ac sp en wg op se dn ((nI tm.length)) kd nu tv bv cS cI cB cT cG cO cN cD cY (upd (upd (upd (upd fS (10 + n) x) (19 + n) y) (28 + n) z) 0 (nI (n + 1))) fI fB fT fG fO fN fD fY rfl hJ.1 ⟨hJ.2.1, fun _ _ _ => trivial⟩ hTM ⟨(show MOK (upd (upd (upd (upd fS (10 + n) x) (19 + n) y) (28 + n) z) 0 (nI (n + 1))) (n + 1) wk kb hl tp from MOK_heap hMS (by omega) pk_us (fun i h1 h2 => by rw [pk_un h1, pk_un (by omega), pk_un (by omega), pk_un (by omega)])), (show MH (upd (upd (upd (upd fS (10 + n) x) (19 + n) y) (28 + n) z) 0 (nI (n + 1))) hl tp tc hC from MH_of hMH h5 ht (fun i hi => by rw [pk_un (by omega), pk_un (by omega), pk_un (by omega), pk_un (by omega)])), (show MV (upd (upd (upd (upd fS (10 + n) x) (19 + n) y) (28 + n) z) 0 (nI (n + 1))) (n + 1) mi sn (fun k => if k = n then x else yk k) (fun k => if k = n then y else yv k) (fun k => if k = n then z else yc k) ee from MV_put hMV h8)⟩ ((show im = 0 ∨ (MOK fI (kvm.1) (kvm.2.1) (kvm.2.2.1) (kvm.2.2.2.2.2.2.2.2.1) (kvm.2.2.2.2.2.2.2.2.2.1) ∧ MH fI (kvm.2.2.2.2.2.2.2.2.1) (kvm.2.2.2.2.2.2.2.2.2.1) (kvm.2.2.2.2.2.2.2.2.2.2.1) (kvm.2.2.2.2.2.2.2.2.2.2.2.1) ∧ MV fI (kvm.1) (kvm.2.2.2.1) (kvm.2.2.2.2.1) (kvm.2.2.2.2.2.1) (kvm.2.2.2.2.2.2.1) (kvm.2.2.2.2.2.2.2.1) (kvm.2.2.2.2.2.2.2.2.2.2.2.2)) from hMI)) (⟨hrq, rfl, hYm⟩)), hJ.2, rfl⟩, hz, fun q h1 h2 => hkp q h1 (fun h => h2 (bl_A hwc _ h))⟩

set_option maxHeartbeats 4000000 in
set_option maxRecDepth 100000 in
theorem v_steps (l : Launch) (dC : Nat → ClassId) (dI : Nat → Nat → Nat) (sK sV : Nat → Nat) (im : Int32) (vm kvm : VS) (tm : List Nat) (T : List (ClassId × FieldType)) (m0 : Nat) (M : va_W) (x : Int32) (y : Int32) (sz : Nat) : Met l yX12_steps wsX12_steps ({ frames := 6, cells := 0, slots := 0, locals := 147 } : Room) (va_Pc [.ref m0, .int x, .int y] (fun U => U.heap.size = sz ∧ MI dC dI im vm kvm tm T m0 M U.heap ∧ va_K (dC, dI) vwCl T U ∧ Gs sK sV (va_A M sz) U)) (va_Qi (fun (r : Int32) (u : Int32 × VS × VS × List Nat) => r = stR_ vm.1 vm.2.2.2.2.2.1 vm.2.2.2.2.2.2.1 vm.2.2.2.2.2.2.2.1 vm.2.2.2.2.2.2.2.2.2.2.2.1 vm.2.2.2.1 vm.2.2.2.2.1 x y ∧ u = (im, vm, kvm, tm)) (fun (u : Int32 × VS × VS × List Nat) (t : State) => ∃ M1 : va_W, MI dC dI u.1 u.2.1 u.2.2.1 u.2.2.2 T m0 M1 t.heap ∧ va_D (va_A M sz) M1 ∧ M1.map (fun c => c.1) = M.map (fun c => c.1)) (va_A M sz)) 0 0 (va_A M sz) := by
  obtain ⟨n, wk, kb, mi, sn, yk, yv, yc, hl, tp, tc, hC, ee⟩ := vm
  refine met_wrap (fun args s hPc => ?_)
  obtain ⟨rfl, rfl, hMM, hK, hE⟩ := hPc
  have hMM0 := hMM
  refine hMM _ (fun aS aI aB aT aG aO aN aD aY th ac sp en wg op se dn rn kd nu tv bv cS cI cB cT cG cO cN cD cY fS fI fB fT fG fO fN fD fY hM hP hD hTM hMS hMI hrn => ?_)
  have hMV : MV fS n mi sn yk yv yc ee := hMS.2.2
  have hMH : MH fS hl tp tc hC := hMS.2.1
  have hMS : MOK fS n wk kb hl tp := hMS.1
  obtain ⟨hn, zn, h5, z1, hw6, zw, hk12, zk, zb, ht, zt, hHd⟩ := id hMS
  obtain ⟨hrq, rfl, hYm⟩ := hrn
  subst hM
  have hP : va_P (dC, dI) vwCl ([(zo14irriiiiiirriirrrrlriiii m0 th aS aI im ac sp en wg op aB aT se dn aG aO aN aD bv aY (nI tm.length) kd nu tv), (zaI aS cS 901 fS), (zaI aI cI 901 fI), (zaI aB cB 6 fB), (zaI aT cT 64 fT), (zaI aG cG 9 fG), (zaL aO cO 36 fO), (zaL aN cN 36 fN), (zaI aD cD 36 fD), (zaI aY cY 20 fY)] ++ []) s.heap := hP
  have hD : va_D (fun _ => True) ([(zo14irriiiiiirriirrrrlriiii m0 th aS aI im ac sp en wg op aB aT se dn aG aO aN aD bv aY (nI tm.length) kd nu tv), (zaI aS cS 901 fS), (zaI aI cI 901 fI), (zaI aB cB 6 fB), (zaI aT cT 64 fT), (zaI aG cG 9 fG), (zaL aO cO 36 fO), (zaL aN cN 36 fN), (zaI aD cD 36 fD), (zaI aY cY 20 fY)] ++ []) := hD
  have hwc := bl_mem (G := [(zo14irriiiiiirriirrrrlriiii m0 th aS aI im ac sp en wg op aB aT se dn aG aO aN aD bv aY (nI tm.length) kd nu tv), (zaI aS cS 901 fS), (zaI aI cI 901 fI), (zaI aB cB 6 fB), (zaI aT cT 64 fT), (zaI aG cG 9 fG), (zaL aO cO 36 fO), (zaL aN cN 36 fN), (zaI aD cD 36 fD), (zaI aY cY 20 fY)]) (F := [(zo14irriiiiiirriirrrrlriiii m0 th aS aI im ac sp en wg op aB aT se dn aG aO aN aD bv aY (nI tm.length) kd nu tv), (zaI aS cS 901 fS), (zaI aB cB 6 fB), (zaI aT cT 64 fT), (zaI aG cG 9 fG)]) (T := []) [0, 1, 3, 4, 5] rfl
  have hPc := bl_sub (F := [(zo14irriiiiiirriirrrrlriiii m0 th aS aI im ac sp en wg op aB aT se dn aG aO aN aD bv aY (nI tm.length) kd nu tv), (zaI aS cS 901 fS), (zaI aB cB 6 fB), (zaI aT cT 64 fT), (zaI aG cG 9 fG)]) hP [0, 1, 3, 4, 5] rfl
  refine ⟨_, _, _, c_mSteps l dC dI m0 aS aI aB aT aG aO aN aD aY th im ac sp en wg op se dn (nI tm.length) kd nu tv bv cS cB cT cG fS fB fT fG n yk yv yc mi sn x y hC s.heap.size zn hn (MH_hol hHd hMH h5) hMV.2.2.1 hMV.2.2.2.1 hMV.2.2.2.2.1 hMV.1 hMV.2.1, ⟨rfl, rfl, hPc, (K_mem hK hTM).sub [0, 2, 3, 4] rfl, bl_Dsub hD [0, 1, 3, 4, 5] (by decide) rfl⟩, fun o t hQ => ?_, fun q hq => bl_A hwc q hq⟩
  obtain ⟨⟨r, u9, rfl, hpost, hB⟩, hz, hkp⟩ := hQ
  obtain ⟨fB9, fT9, se9, dn9, fG9⟩ := u9
  try dsimp only at hpost hB
  obtain ⟨hP1, hK1, hD1⟩ := hB
  have hJ := bl_gen (F' := [(zo14irriiiiiirriirrrrlriiii m0 th aS aI im ac sp en wg op aB aT se9 dn9 aG aO aN aD bv aY (nI tm.length) kd nu tv), (zaI aS cS 901 fS), (zaI aI cI 901 fI), (zaI aB cB 6 fB9), (zaI aT cT 64 fT9), (zaI aG cG 9 fG9), (zaL aO cO 36 fO), (zaL aN cN 36 fN), (zaI aD cD 36 fD), (zaI aY cY 20 fY)]) hP hD [0, 1, 3, 4, 5] rfl hkp hP1 hD1 [some 0, some 1, none, some 2, some 3, some 4, none, none, none, none] [0, 1, 3, 4, 5] rfl (Or.inl rfl) rfl
  exact ⟨⟨r, (im, (n, wk, kb, mi, sn, yk, yv, yc, hl, tp, tc, hC, ee), kvm, tm), rfl, ⟨hpost, rfl⟩, _, (fun M9 k9 => k9 aS aI aB aT aG aO aN aD aY th ac sp en wg op (se9) (dn9) ((nI tm.length)) kd nu tv bv cS cI cB cT cG cO cN cD cY fS fI (fB9) (fT9) (fG9) fO fN fD fY rfl hJ.1 ⟨hJ.2.1, fun _ _ _ => trivial⟩ hTM ⟨(show MOK fS n wk kb hl tp from hMS), (show MH fS hl tp tc hC from hMH), (show MV fS n mi sn yk yv yc ee from hMV)⟩ ((show im = 0 ∨ (MOK fI (kvm.1) (kvm.2.1) (kvm.2.2.1) (kvm.2.2.2.2.2.2.2.2.1) (kvm.2.2.2.2.2.2.2.2.2.1) ∧ MH fI (kvm.2.2.2.2.2.2.2.2.1) (kvm.2.2.2.2.2.2.2.2.2.1) (kvm.2.2.2.2.2.2.2.2.2.2.1) (kvm.2.2.2.2.2.2.2.2.2.2.2.1) ∧ MV fI (kvm.1) (kvm.2.2.2.1) (kvm.2.2.2.2.1) (kvm.2.2.2.2.2.1) (kvm.2.2.2.2.2.2.1) (kvm.2.2.2.2.2.2.2.1) (kvm.2.2.2.2.2.2.2.2.2.2.2.2)) from hMI)) (⟨hrq, rfl, hYm⟩)), hJ.2, rfl⟩, hz, fun q h1 h2 => hkp q h1 (fun h => h2 (bl_A hwc _ h))⟩

set_option maxHeartbeats 4000000 in
set_option maxRecDepth 100000 in
theorem v_via (l : Launch) (dC : Nat → ClassId) (dI : Nat → Nat → Nat) (sK sV : Nat → Nat) (im : Int32) (vm kvm : VS) (tm : List Nat) (T : List (ClassId × FieldType)) (m0 : Nat) (M : va_W) (x : Int32) (y : Int32) (sz : Nat) : Met l yX12_via wsX12_via ({ frames := 6, cells := 0, slots := 0, locals := 147 } : Room) (va_Pc [.ref m0, .int x, .int y] (fun U => U.heap.size = sz ∧ MI dC dI im vm kvm tm T m0 M U.heap ∧ va_K (dC, dI) vwCl T U ∧ Gs sK sV (va_A M sz) U)) (va_Qi (fun (r : Int32) (u : Int32 × VS × VS × List Nat) => r = viR_ vm.1 vm.2.2.2.2.2.1 vm.2.2.2.2.2.2.1 vm.2.2.2.2.2.2.2.1 vm.2.2.2.2.2.2.2.2.2.2.2.1 vm.2.2.2.1 vm.2.2.2.2.1 x y ∧ u = (im, vm, kvm, tm)) (fun (u : Int32 × VS × VS × List Nat) (t : State) => ∃ M1 : va_W, MI dC dI u.1 u.2.1 u.2.2.1 u.2.2.2 T m0 M1 t.heap ∧ va_D (va_A M sz) M1 ∧ M1.map (fun c => c.1) = M.map (fun c => c.1)) (va_A M sz)) 0 0 (va_A M sz) := by
  obtain ⟨n, wk, kb, mi, sn, yk, yv, yc, hl, tp, tc, hC, ee⟩ := vm
  refine met_wrap (fun args s hPc => ?_)
  obtain ⟨rfl, rfl, hMM, hK, hE⟩ := hPc
  have hMM0 := hMM
  refine hMM _ (fun aS aI aB aT aG aO aN aD aY th ac sp en wg op se dn rn kd nu tv bv cS cI cB cT cG cO cN cD cY fS fI fB fT fG fO fN fD fY hM hP hD hTM hMS hMI hrn => ?_)
  have hMV : MV fS n mi sn yk yv yc ee := hMS.2.2
  have hMH : MH fS hl tp tc hC := hMS.2.1
  have hMS : MOK fS n wk kb hl tp := hMS.1
  obtain ⟨hn, zn, h5, z1, hw6, zw, hk12, zk, zb, ht, zt, hHd⟩ := id hMS
  obtain ⟨hrq, rfl, hYm⟩ := hrn
  subst hM
  have hP : va_P (dC, dI) vwCl ([(zo14irriiiiiirriirrrrlriiii m0 th aS aI im ac sp en wg op aB aT se dn aG aO aN aD bv aY (nI tm.length) kd nu tv), (zaI aS cS 901 fS), (zaI aI cI 901 fI), (zaI aB cB 6 fB), (zaI aT cT 64 fT), (zaI aG cG 9 fG), (zaL aO cO 36 fO), (zaL aN cN 36 fN), (zaI aD cD 36 fD), (zaI aY cY 20 fY)] ++ []) s.heap := hP
  have hD : va_D (fun _ => True) ([(zo14irriiiiiirriirrrrlriiii m0 th aS aI im ac sp en wg op aB aT se dn aG aO aN aD bv aY (nI tm.length) kd nu tv), (zaI aS cS 901 fS), (zaI aI cI 901 fI), (zaI aB cB 6 fB), (zaI aT cT 64 fT), (zaI aG cG 9 fG), (zaL aO cO 36 fO), (zaL aN cN 36 fN), (zaI aD cD 36 fD), (zaI aY cY 20 fY)] ++ []) := hD
  have hwc := bl_mem (G := [(zo14irriiiiiirriirrrrlriiii m0 th aS aI im ac sp en wg op aB aT se dn aG aO aN aD bv aY (nI tm.length) kd nu tv), (zaI aS cS 901 fS), (zaI aI cI 901 fI), (zaI aB cB 6 fB), (zaI aT cT 64 fT), (zaI aG cG 9 fG), (zaL aO cO 36 fO), (zaL aN cN 36 fN), (zaI aD cD 36 fD), (zaI aY cY 20 fY)]) (F := [(zo14irriiiiiirriirrrrlriiii m0 th aS aI im ac sp en wg op aB aT se dn aG aO aN aD bv aY (nI tm.length) kd nu tv), (zaI aS cS 901 fS), (zaI aB cB 6 fB), (zaI aT cT 64 fT), (zaI aG cG 9 fG)]) (T := []) [0, 1, 3, 4, 5] rfl
  have hPc := bl_sub (F := [(zo14irriiiiiirriirrrrlriiii m0 th aS aI im ac sp en wg op aB aT se dn aG aO aN aD bv aY (nI tm.length) kd nu tv), (zaI aS cS 901 fS), (zaI aB cB 6 fB), (zaI aT cT 64 fT), (zaI aG cG 9 fG)]) hP [0, 1, 3, 4, 5] rfl
  refine ⟨_, _, _, c_mVia l dC dI m0 aS aI aB aT aG aO aN aD aY th im ac sp en wg op se dn (nI tm.length) kd nu tv bv cS cB cT cG fS fB fT fG n yk yv yc mi sn x y hC s.heap.size zn hn (MH_hol hHd hMH h5) hMV.2.2.1 hMV.2.2.2.1 hMV.2.2.2.2.1 hMV.1 hMV.2.1, ⟨rfl, rfl, hPc, (K_mem hK hTM).sub [0, 2, 3, 4] rfl, bl_Dsub hD [0, 1, 3, 4, 5] (by decide) rfl⟩, fun o t hQ => ?_, fun q hq => bl_A hwc q hq⟩
  obtain ⟨⟨r, u9, rfl, hpost, hB⟩, hz, hkp⟩ := hQ
  obtain ⟨fB9, fT9, se9, dn9, fG9⟩ := u9
  try dsimp only at hpost hB
  obtain ⟨hP1, hK1, hD1⟩ := hB
  have hJ := bl_gen (F' := [(zo14irriiiiiirriirrrrlriiii m0 th aS aI im ac sp en wg op aB aT se9 dn9 aG aO aN aD bv aY (nI tm.length) kd nu tv), (zaI aS cS 901 fS), (zaI aI cI 901 fI), (zaI aB cB 6 fB9), (zaI aT cT 64 fT9), (zaI aG cG 9 fG9), (zaL aO cO 36 fO), (zaL aN cN 36 fN), (zaI aD cD 36 fD), (zaI aY cY 20 fY)]) hP hD [0, 1, 3, 4, 5] rfl hkp hP1 hD1 [some 0, some 1, none, some 2, some 3, some 4, none, none, none, none] [0, 1, 3, 4, 5] rfl (Or.inl rfl) rfl
  exact ⟨⟨r, (im, (n, wk, kb, mi, sn, yk, yv, yc, hl, tp, tc, hC, ee), kvm, tm), rfl, ⟨hpost, rfl⟩, _, (fun M9 k9 => k9 aS aI aB aT aG aO aN aD aY th ac sp en wg op (se9) (dn9) ((nI tm.length)) kd nu tv bv cS cI cB cT cG cO cN cD cY fS fI (fB9) (fT9) (fG9) fO fN fD fY rfl hJ.1 ⟨hJ.2.1, fun _ _ _ => trivial⟩ hTM ⟨(show MOK fS n wk kb hl tp from hMS), (show MH fS hl tp tc hC from hMH), (show MV fS n mi sn yk yv yc ee from hMV)⟩ ((show im = 0 ∨ (MOK fI (kvm.1) (kvm.2.1) (kvm.2.2.1) (kvm.2.2.2.2.2.2.2.2.1) (kvm.2.2.2.2.2.2.2.2.2.1) ∧ MH fI (kvm.2.2.2.2.2.2.2.2.1) (kvm.2.2.2.2.2.2.2.2.2.1) (kvm.2.2.2.2.2.2.2.2.2.2.1) (kvm.2.2.2.2.2.2.2.2.2.2.2.1) ∧ MV fI (kvm.1) (kvm.2.2.2.1) (kvm.2.2.2.2.1) (kvm.2.2.2.2.2.1) (kvm.2.2.2.2.2.2.1) (kvm.2.2.2.2.2.2.2.1) (kvm.2.2.2.2.2.2.2.2.2.2.2.2)) from hMI)) (⟨hrq, rfl, hYm⟩)), hJ.2, rfl⟩, hz, fun q h1 h2 => hkp q h1 (fun h => h2 (bl_A hwc _ h))⟩

set_option maxHeartbeats 4000000 in
set_option maxRecDepth 100000 in
theorem v_cuts (l : Launch) (dC : Nat → ClassId) (dI : Nat → Nat → Nat) (sK sV : Nat → Nat) (im : Int32) (vm kvm : VS) (tm : List Nat) (T : List (ClassId × FieldType)) (m0 : Nat) (M : va_W) (x : Int32) (y : Int32) (sz : Nat) : Met l yX12_cuts wsX12_cuts ({ frames := 6, cells := 0, slots := 0, locals := 147 } : Room) (va_Pc [.ref m0, .int x, .int y] (fun U => U.heap.size = sz ∧ MI dC dI im vm kvm tm T m0 M U.heap ∧ va_K (dC, dI) vwCl T U ∧ Gs sK sV (va_A M sz) U)) (va_Qi (fun (r : Int32) (u : Int32 × VS × VS × List Nat) => r = cuR_ vm.1 vm.2.2.2.2.2.1 vm.2.2.2.2.2.2.1 vm.2.2.2.2.2.2.2.1 vm.2.2.2.2.2.2.2.2.2.2.2.1 vm.2.2.2.1 vm.2.2.2.2.1 x y ∧ u = (im, vm, kvm, tm)) (fun (u : Int32 × VS × VS × List Nat) (t : State) => ∃ M1 : va_W, MI dC dI u.1 u.2.1 u.2.2.1 u.2.2.2 T m0 M1 t.heap ∧ va_D (va_A M sz) M1 ∧ M1.map (fun c => c.1) = M.map (fun c => c.1)) (va_A M sz)) 0 0 (va_A M sz) := by
  obtain ⟨n, wk, kb, mi, sn, yk, yv, yc, hl, tp, tc, hC, ee⟩ := vm
  refine met_wrap (fun args s hPc => ?_)
  obtain ⟨rfl, rfl, hMM, hK, hE⟩ := hPc
  have hMM0 := hMM
  refine hMM _ (fun aS aI aB aT aG aO aN aD aY th ac sp en wg op se dn rn kd nu tv bv cS cI cB cT cG cO cN cD cY fS fI fB fT fG fO fN fD fY hM hP hD hTM hMS hMI hrn => ?_)
  have hMV : MV fS n mi sn yk yv yc ee := hMS.2.2
  have hMH : MH fS hl tp tc hC := hMS.2.1
  have hMS : MOK fS n wk kb hl tp := hMS.1
  obtain ⟨hn, zn, h5, z1, hw6, zw, hk12, zk, zb, ht, zt, hHd⟩ := id hMS
  obtain ⟨hrq, rfl, hYm⟩ := hrn
  subst hM
  have hP : va_P (dC, dI) vwCl ([(zo14irriiiiiirriirrrrlriiii m0 th aS aI im ac sp en wg op aB aT se dn aG aO aN aD bv aY (nI tm.length) kd nu tv), (zaI aS cS 901 fS), (zaI aI cI 901 fI), (zaI aB cB 6 fB), (zaI aT cT 64 fT), (zaI aG cG 9 fG), (zaL aO cO 36 fO), (zaL aN cN 36 fN), (zaI aD cD 36 fD), (zaI aY cY 20 fY)] ++ []) s.heap := hP
  have hD : va_D (fun _ => True) ([(zo14irriiiiiirriirrrrlriiii m0 th aS aI im ac sp en wg op aB aT se dn aG aO aN aD bv aY (nI tm.length) kd nu tv), (zaI aS cS 901 fS), (zaI aI cI 901 fI), (zaI aB cB 6 fB), (zaI aT cT 64 fT), (zaI aG cG 9 fG), (zaL aO cO 36 fO), (zaL aN cN 36 fN), (zaI aD cD 36 fD), (zaI aY cY 20 fY)] ++ []) := hD
  have hwc := bl_mem (G := [(zo14irriiiiiirriirrrrlriiii m0 th aS aI im ac sp en wg op aB aT se dn aG aO aN aD bv aY (nI tm.length) kd nu tv), (zaI aS cS 901 fS), (zaI aI cI 901 fI), (zaI aB cB 6 fB), (zaI aT cT 64 fT), (zaI aG cG 9 fG), (zaL aO cO 36 fO), (zaL aN cN 36 fN), (zaI aD cD 36 fD), (zaI aY cY 20 fY)]) (F := [(zo14irriiiiiirriirrrrlriiii m0 th aS aI im ac sp en wg op aB aT se dn aG aO aN aD bv aY (nI tm.length) kd nu tv), (zaI aS cS 901 fS), (zaI aB cB 6 fB), (zaI aT cT 64 fT), (zaI aG cG 9 fG)]) (T := []) [0, 1, 3, 4, 5] rfl
  have hPc := bl_sub (F := [(zo14irriiiiiirriirrrrlriiii m0 th aS aI im ac sp en wg op aB aT se dn aG aO aN aD bv aY (nI tm.length) kd nu tv), (zaI aS cS 901 fS), (zaI aB cB 6 fB), (zaI aT cT 64 fT), (zaI aG cG 9 fG)]) hP [0, 1, 3, 4, 5] rfl
  refine ⟨_, _, _, c_mCuts l dC dI m0 aS aI aB aT aG aO aN aD aY th im ac sp en wg op se dn (nI tm.length) kd nu tv bv cS cB cT cG fS fB fT fG n yk yv yc mi sn x y hC s.heap.size zn hn (MH_hol hHd hMH h5) hMV.2.2.1 hMV.2.2.2.1 hMV.2.2.2.2.1 hMV.1 hMV.2.1, ⟨rfl, rfl, hPc, (K_mem hK hTM).sub [0, 2, 3, 4] rfl, bl_Dsub hD [0, 1, 3, 4, 5] (by decide) rfl⟩, fun o t hQ => ?_, fun q hq => bl_A hwc q hq⟩
  obtain ⟨⟨r, u9, rfl, hpost, hB⟩, hz, hkp⟩ := hQ
  obtain ⟨fB9, fT9, se9, dn9, fG9⟩ := u9
  try dsimp only at hpost hB
  obtain ⟨hP1, hK1, hD1⟩ := hB
  have hJ := bl_gen (F' := [(zo14irriiiiiirriirrrrlriiii m0 th aS aI im ac sp en wg op aB aT se9 dn9 aG aO aN aD bv aY (nI tm.length) kd nu tv), (zaI aS cS 901 fS), (zaI aI cI 901 fI), (zaI aB cB 6 fB9), (zaI aT cT 64 fT9), (zaI aG cG 9 fG9), (zaL aO cO 36 fO), (zaL aN cN 36 fN), (zaI aD cD 36 fD), (zaI aY cY 20 fY)]) hP hD [0, 1, 3, 4, 5] rfl hkp hP1 hD1 [some 0, some 1, none, some 2, some 3, some 4, none, none, none, none] [0, 1, 3, 4, 5] rfl (Or.inl rfl) rfl
  exact ⟨⟨r, (im, (n, wk, kb, mi, sn, yk, yv, yc, hl, tp, tc, hC, ee), kvm, tm), rfl, ⟨hpost, rfl⟩, _, (fun M9 k9 => k9 aS aI aB aT aG aO aN aD aY th ac sp en wg op (se9) (dn9) ((nI tm.length)) kd nu tv bv cS cI cB cT cG cO cN cD cY fS fI (fB9) (fT9) (fG9) fO fN fD fY rfl hJ.1 ⟨hJ.2.1, fun _ _ _ => trivial⟩ hTM ⟨(show MOK fS n wk kb hl tp from hMS), (show MH fS hl tp tc hC from hMH), (show MV fS n mi sn yk yv yc ee from hMV)⟩ ((show im = 0 ∨ (MOK fI (kvm.1) (kvm.2.1) (kvm.2.2.1) (kvm.2.2.2.2.2.2.2.2.1) (kvm.2.2.2.2.2.2.2.2.2.1) ∧ MH fI (kvm.2.2.2.2.2.2.2.2.1) (kvm.2.2.2.2.2.2.2.2.2.1) (kvm.2.2.2.2.2.2.2.2.2.2.1) (kvm.2.2.2.2.2.2.2.2.2.2.2.1) ∧ MV fI (kvm.1) (kvm.2.2.2.1) (kvm.2.2.2.2.1) (kvm.2.2.2.2.2.1) (kvm.2.2.2.2.2.2.1) (kvm.2.2.2.2.2.2.2.1) (kvm.2.2.2.2.2.2.2.2.2.2.2.2)) from hMI)) (⟨hrq, rfl, hYm⟩)), hJ.2, rfl⟩, hz, fun q h1 h2 => hkp q h1 (fun h => h2 (bl_A hwc _ h))⟩

set_option maxHeartbeats 4000000 in
set_option maxRecDepth 100000 in
theorem v_bears (l : Launch) (dC : Nat → ClassId) (dI : Nat → Nat → Nat) (sK sV : Nat → Nat) (im : Int32) (vm kvm : VS) (tm : List Nat) (T : List (ClassId × FieldType)) (m0 : Nat) (M : va_W) (x : Int32) (y : Int32) (sz : Nat) : Met l yX12_bears wsX12_bears ({ frames := 6, cells := 0, slots := 0, locals := 147 } : Room) (va_Pc [.ref m0, .int x, .int y] (fun U => U.heap.size = sz ∧ MI dC dI im vm kvm tm T m0 M U.heap ∧ va_K (dC, dI) vwCl T U ∧ Gs sK sV (va_A M sz) U)) (va_Qi (fun (r : Int32) (u : Int32 × VS × VS × List Nat) => r = beR_ vm.1 vm.2.2.2.2.2.1 vm.2.2.2.2.2.2.1 vm.2.2.2.2.2.2.2.1 vm.2.2.2.2.2.2.2.2.2.2.2.1 vm.2.2.2.1 x y ∧ u = (im, vm, kvm, tm)) (fun (u : Int32 × VS × VS × List Nat) (t : State) => ∃ M1 : va_W, MI dC dI u.1 u.2.1 u.2.2.1 u.2.2.2 T m0 M1 t.heap ∧ va_D (va_A M sz) M1 ∧ M1.map (fun c => c.1) = M.map (fun c => c.1)) (va_A M sz)) 0 0 (va_A M sz) := by
  obtain ⟨n, wk, kb, mi, sn, yk, yv, yc, hl, tp, tc, hC, ee⟩ := vm
  refine met_wrap (fun args s hPc => ?_)
  obtain ⟨rfl, rfl, hMM, hK, hE⟩ := hPc
  have hMM0 := hMM
  refine hMM _ (fun aS aI aB aT aG aO aN aD aY th ac sp en wg op se dn rn kd nu tv bv cS cI cB cT cG cO cN cD cY fS fI fB fT fG fO fN fD fY hM hP hD hTM hMS hMI hrn => ?_)
  have hMV : MV fS n mi sn yk yv yc ee := hMS.2.2
  have hMH : MH fS hl tp tc hC := hMS.2.1
  have hMS : MOK fS n wk kb hl tp := hMS.1
  obtain ⟨hn, zn, h5, z1, hw6, zw, hk12, zk, zb, ht, zt, hHd⟩ := id hMS
  obtain ⟨hrq, rfl, hYm⟩ := hrn
  subst hM
  have hP : va_P (dC, dI) vwCl ([(zo14irriiiiiirriirrrrlriiii m0 th aS aI im ac sp en wg op aB aT se dn aG aO aN aD bv aY (nI tm.length) kd nu tv), (zaI aS cS 901 fS), (zaI aI cI 901 fI), (zaI aB cB 6 fB), (zaI aT cT 64 fT), (zaI aG cG 9 fG), (zaL aO cO 36 fO), (zaL aN cN 36 fN), (zaI aD cD 36 fD), (zaI aY cY 20 fY)] ++ []) s.heap := hP
  have hD : va_D (fun _ => True) ([(zo14irriiiiiirriirrrrlriiii m0 th aS aI im ac sp en wg op aB aT se dn aG aO aN aD bv aY (nI tm.length) kd nu tv), (zaI aS cS 901 fS), (zaI aI cI 901 fI), (zaI aB cB 6 fB), (zaI aT cT 64 fT), (zaI aG cG 9 fG), (zaL aO cO 36 fO), (zaL aN cN 36 fN), (zaI aD cD 36 fD), (zaI aY cY 20 fY)] ++ []) := hD
  have hwc := bl_mem (G := [(zo14irriiiiiirriirrrrlriiii m0 th aS aI im ac sp en wg op aB aT se dn aG aO aN aD bv aY (nI tm.length) kd nu tv), (zaI aS cS 901 fS), (zaI aI cI 901 fI), (zaI aB cB 6 fB), (zaI aT cT 64 fT), (zaI aG cG 9 fG), (zaL aO cO 36 fO), (zaL aN cN 36 fN), (zaI aD cD 36 fD), (zaI aY cY 20 fY)]) (F := [(zo14irriiiiiirriirrrrlriiii m0 th aS aI im ac sp en wg op aB aT se dn aG aO aN aD bv aY (nI tm.length) kd nu tv), (zaI aS cS 901 fS), (zaI aB cB 6 fB), (zaI aT cT 64 fT), (zaI aG cG 9 fG)]) (T := []) [0, 1, 3, 4, 5] rfl
  have hPc := bl_sub (F := [(zo14irriiiiiirriirrrrlriiii m0 th aS aI im ac sp en wg op aB aT se dn aG aO aN aD bv aY (nI tm.length) kd nu tv), (zaI aS cS 901 fS), (zaI aB cB 6 fB), (zaI aT cT 64 fT), (zaI aG cG 9 fG)]) hP [0, 1, 3, 4, 5] rfl
  refine ⟨_, _, _, c_mBears l dC dI m0 aS aI aB aT aG aO aN aD aY th im ac sp en wg op se dn (nI tm.length) kd nu tv bv cS cB cT cG fS fB fT fG n yk yv yc mi sn x y hC s.heap.size zn hn (MH_hol hHd hMH h5) hMV.2.2.1 hMV.2.2.2.1 hMV.2.2.2.2.1 hMV.1 hMV.2.1, ⟨rfl, rfl, hPc, (K_mem hK hTM).sub [0, 2, 3, 4] rfl, bl_Dsub hD [0, 1, 3, 4, 5] (by decide) rfl⟩, fun o t hQ => ?_, fun q hq => bl_A hwc q hq⟩
  obtain ⟨⟨r, u9, rfl, hpost, hB⟩, hz, hkp⟩ := hQ
  obtain ⟨fB9, fT9, se9, dn9, fG9⟩ := u9
  try dsimp only at hpost hB
  obtain ⟨hP1, hK1, hD1⟩ := hB
  have hJ := bl_gen (F' := [(zo14irriiiiiirriirrrrlriiii m0 th aS aI im ac sp en wg op aB aT se9 dn9 aG aO aN aD bv aY (nI tm.length) kd nu tv), (zaI aS cS 901 fS), (zaI aI cI 901 fI), (zaI aB cB 6 fB9), (zaI aT cT 64 fT9), (zaI aG cG 9 fG9), (zaL aO cO 36 fO), (zaL aN cN 36 fN), (zaI aD cD 36 fD), (zaI aY cY 20 fY)]) hP hD [0, 1, 3, 4, 5] rfl hkp hP1 hD1 [some 0, some 1, none, some 2, some 3, some 4, none, none, none, none] [0, 1, 3, 4, 5] rfl (Or.inl rfl) rfl
  exact ⟨⟨r, (im, (n, wk, kb, mi, sn, yk, yv, yc, hl, tp, tc, hC, ee), kvm, tm), rfl, ⟨hpost, rfl⟩, _, (fun M9 k9 => k9 aS aI aB aT aG aO aN aD aY th ac sp en wg op (se9) (dn9) ((nI tm.length)) kd nu tv bv cS cI cB cT cG cO cN cD cY fS fI (fB9) (fT9) (fG9) fO fN fD fY rfl hJ.1 ⟨hJ.2.1, fun _ _ _ => trivial⟩ hTM ⟨(show MOK fS n wk kb hl tp from hMS), (show MH fS hl tp tc hC from hMH), (show MV fS n mi sn yk yv yc ee from hMV)⟩ ((show im = 0 ∨ (MOK fI (kvm.1) (kvm.2.1) (kvm.2.2.1) (kvm.2.2.2.2.2.2.2.2.1) (kvm.2.2.2.2.2.2.2.2.2.1) ∧ MH fI (kvm.2.2.2.2.2.2.2.2.1) (kvm.2.2.2.2.2.2.2.2.2.1) (kvm.2.2.2.2.2.2.2.2.2.2.1) (kvm.2.2.2.2.2.2.2.2.2.2.2.1) ∧ MV fI (kvm.1) (kvm.2.2.2.1) (kvm.2.2.2.2.1) (kvm.2.2.2.2.2.1) (kvm.2.2.2.2.2.2.1) (kvm.2.2.2.2.2.2.2.1) (kvm.2.2.2.2.2.2.2.2.2.2.2.2)) from hMI)) (⟨hrq, rfl, hYm⟩)), hJ.2, rfl⟩, hz, fun q h1 h2 => hkp q h1 (fun h => h2 (bl_A hwc _ h))⟩

set_option maxHeartbeats 4000000 in
set_option maxRecDepth 100000 in
theorem v_build (l : Launch) (dC : Nat → ClassId) (dI : Nat → Nat → Nat) (sK sV : Nat → Nat) (im : Int32) (vm kvm : VS) (tm : List Nat) (T : List (ClassId × FieldType)) (m0 : Nat) (M : va_W) (x : Int32) (y : Int32) (z : Int32) (sz : Nat) : Met l yX12_build wsX12_build ({ frames := 6, cells := 0, slots := 0, locals := 147 } : Room) (va_Pc [.ref m0, .int x, .int y, .int z] (fun U => U.heap.size = sz ∧ MI dC dI im vm kvm tm T m0 M U.heap ∧ va_K (dC, dI) vwCl T U ∧ Gs sK sV (va_A M sz) U)) (va_Qi (fun (r : Int32) (u : Int32 × VS × VS × List Nat) => r = bdR vm.1 vm.2.2.2.2.2.1 vm.2.2.2.2.2.2.1 vm.2.2.2.2.2.2.2.1 vm.2.2.2.2.2.2.2.2.2.2.2.1 vm.2.2.2.1 vm.2.2.2.2.1 x y z ∧ u = (im, vm, kvm, tm)) (fun (u : Int32 × VS × VS × List Nat) (t : State) => ∃ M1 : va_W, MI dC dI u.1 u.2.1 u.2.2.1 u.2.2.2 T m0 M1 t.heap ∧ va_D (va_A M sz) M1 ∧ M1.map (fun c => c.1) = M.map (fun c => c.1)) (va_A M sz)) 0 0 (va_A M sz) := by
  obtain ⟨n, wk, kb, mi, sn, yk, yv, yc, hl, tp, tc, hC, ee⟩ := vm
  refine met_wrap (fun args s hPc => ?_)
  obtain ⟨rfl, rfl, hMM, hK, hE⟩ := hPc
  have hMM0 := hMM
  refine hMM _ (fun aS aI aB aT aG aO aN aD aY th ac sp en wg op se dn rn kd nu tv bv cS cI cB cT cG cO cN cD cY fS fI fB fT fG fO fN fD fY hM hP hD hTM hMS hMI hrn => ?_)
  have hMV : MV fS n mi sn yk yv yc ee := hMS.2.2
  have hMH : MH fS hl tp tc hC := hMS.2.1
  have hMS : MOK fS n wk kb hl tp := hMS.1
  obtain ⟨hn, zn, h5, z1, hw6, zw, hk12, zk, zb, ht, zt, hHd⟩ := id hMS
  obtain ⟨hrq, rfl, hYm⟩ := hrn
  subst hM
  have hP : va_P (dC, dI) vwCl ([(zo14irriiiiiirriirrrrlriiii m0 th aS aI im ac sp en wg op aB aT se dn aG aO aN aD bv aY (nI tm.length) kd nu tv), (zaI aS cS 901 fS), (zaI aI cI 901 fI), (zaI aB cB 6 fB), (zaI aT cT 64 fT), (zaI aG cG 9 fG), (zaL aO cO 36 fO), (zaL aN cN 36 fN), (zaI aD cD 36 fD), (zaI aY cY 20 fY)] ++ []) s.heap := hP
  have hD : va_D (fun _ => True) ([(zo14irriiiiiirriirrrrlriiii m0 th aS aI im ac sp en wg op aB aT se dn aG aO aN aD bv aY (nI tm.length) kd nu tv), (zaI aS cS 901 fS), (zaI aI cI 901 fI), (zaI aB cB 6 fB), (zaI aT cT 64 fT), (zaI aG cG 9 fG), (zaL aO cO 36 fO), (zaL aN cN 36 fN), (zaI aD cD 36 fD), (zaI aY cY 20 fY)] ++ []) := hD
  have hwc := bl_mem (G := [(zo14irriiiiiirriirrrrlriiii m0 th aS aI im ac sp en wg op aB aT se dn aG aO aN aD bv aY (nI tm.length) kd nu tv), (zaI aS cS 901 fS), (zaI aI cI 901 fI), (zaI aB cB 6 fB), (zaI aT cT 64 fT), (zaI aG cG 9 fG), (zaL aO cO 36 fO), (zaL aN cN 36 fN), (zaI aD cD 36 fD), (zaI aY cY 20 fY)]) (F := [(zo14irriiiiiirriirrrrlriiii m0 th aS aI im ac sp en wg op aB aT se dn aG aO aN aD bv aY (nI tm.length) kd nu tv), (zaI aS cS 901 fS), (zaI aB cB 6 fB), (zaI aT cT 64 fT), (zaI aG cG 9 fG)]) (T := []) [0, 1, 3, 4, 5] rfl
  have hPc := bl_sub (F := [(zo14irriiiiiirriirrrrlriiii m0 th aS aI im ac sp en wg op aB aT se dn aG aO aN aD bv aY (nI tm.length) kd nu tv), (zaI aS cS 901 fS), (zaI aB cB 6 fB), (zaI aT cT 64 fT), (zaI aG cG 9 fG)]) hP [0, 1, 3, 4, 5] rfl
  refine ⟨_, _, _, c_mBuild l dC dI m0 aS aI aB aT aG aO aN aD aY th im ac sp en wg op se dn (nI tm.length) kd nu tv bv cS cB cT cG fS fB fT fG n yk yv yc mi sn x y z hC s.heap.size zn hn (MH_hol hHd hMH h5) hMV.2.2.1 hMV.2.2.2.1 hMV.2.2.2.2.1 hMV.1 hMV.2.1, ⟨rfl, rfl, hPc, (K_mem hK hTM).sub [0, 2, 3, 4] rfl, bl_Dsub hD [0, 1, 3, 4, 5] (by decide) rfl⟩, fun o t hQ => ?_, fun q hq => bl_A hwc q hq⟩
  obtain ⟨⟨r, u9, rfl, hpost, hB⟩, hz, hkp⟩ := hQ
  obtain ⟨fB9, fT9, se9, dn9, fG9, fS9⟩ := u9
  try dsimp only at hpost hB
  obtain ⟨hP1, hK1, hD1⟩ := hB
  obtain ⟨hp1, hp2⟩ := hpost
  have hJ := bl_gen (F' := [(zo14irriiiiiirriirrrrlriiii m0 th aS aI im ac sp en wg op aB aT se9 dn9 aG aO aN aD bv aY (nI tm.length) kd nu tv), (zaI aS cS 901 fS9), (zaI aI cI 901 fI), (zaI aB cB 6 fB9), (zaI aT cT 64 fT9), (zaI aG cG 9 fG9), (zaL aO cO 36 fO), (zaL aN cN 36 fN), (zaI aD cD 36 fD), (zaI aY cY 20 fY)]) hP hD [0, 1, 3, 4, 5] rfl hkp hP1 hD1 [some 0, some 1, none, some 2, some 3, some 4, none, none, none, none] [0, 1, 3, 4, 5] rfl (Or.inl rfl) rfl
  exact ⟨⟨r, (im, (n, wk, kb, mi, sn, yk, yv, yc, hl, tp, tc, hC, ee), kvm, tm), rfl, ⟨hp1, rfl⟩, _, (fun M9 k9 => k9 aS aI aB aT aG aO aN aD aY th ac sp en wg op (se9) (dn9) ((nI tm.length)) kd nu tv bv cS cI cB cT cG cO cN cD cY (fS9) fI (fB9) (fT9) (fG9) fO fN fD fY rfl hJ.1 ⟨hJ.2.1, fun _ _ _ => trivial⟩ hTM ⟨(show MOK fS9 n wk kb hl tp from MOK_rest hMS (fun i hi => hp2 i (by omega) (by omega) (by omega))), (show MH fS9 hl tp tc hC from MH_of hMH h5 ht (fun i hi => hp2 i (by omega) (by omega) (by omega))), (show MV fS9 n mi sn yk yv yc ee from MV_of hMV (fun i hi => hp2 i (by omega) (by omega) (by omega)))⟩ ((show im = 0 ∨ (MOK fI (kvm.1) (kvm.2.1) (kvm.2.2.1) (kvm.2.2.2.2.2.2.2.2.1) (kvm.2.2.2.2.2.2.2.2.2.1) ∧ MH fI (kvm.2.2.2.2.2.2.2.2.1) (kvm.2.2.2.2.2.2.2.2.2.1) (kvm.2.2.2.2.2.2.2.2.2.2.1) (kvm.2.2.2.2.2.2.2.2.2.2.2.1) ∧ MV fI (kvm.1) (kvm.2.2.2.1) (kvm.2.2.2.2.1) (kvm.2.2.2.2.2.1) (kvm.2.2.2.2.2.2.1) (kvm.2.2.2.2.2.2.2.1) (kvm.2.2.2.2.2.2.2.2.2.2.2.2)) from hMI)) (⟨hrq, rfl, hYm⟩)), hJ.2, rfl⟩, hz, fun q h1 h2 => hkp q h1 (fun h => h2 (bl_A hwc _ h))⟩

set_option maxHeartbeats 4000000 in
set_option maxRecDepth 100000 in
theorem v_hill (l : Launch) (dC : Nat → ClassId) (dI : Nat → Nat → Nat) (sK sV : Nat → Nat) (im : Int32) (vm kvm : VS) (tm : List Nat) (T : List (ClassId × FieldType)) (m0 : Nat) (M : va_W)  (sz : Nat) : Met l yX12_hill wsX12_hill ({ frames := 26, cells := 0, slots := 0, locals := 555 } : Room) (va_Pc [.ref m0] (fun U => U.heap.size = sz ∧ MI dC dI im vm kvm tm T m0 M U.heap ∧ va_K (dC, dI) vwCl T U ∧ Gs sK sV (va_A M sz) U)) (va_Qi (fun (r : Int32) (u : Int32 × VS × VS × List Nat) => r = hlR vm.2.2.2.2.2.2.2.2.1 vm.2.2.2.2.2.2.2.2.2.1 vm.2.2.2.2.2.2.2.2.2.2.1 ∧ u = (im, hlF vm, kvm, tm)) (fun (u : Int32 × VS × VS × List Nat) (t : State) => ∃ M1 : va_W, MI dC dI u.1 u.2.1 u.2.2.1 u.2.2.2 T m0 M1 t.heap ∧ va_D (va_A M sz) M1 ∧ M1.map (fun c => c.1) = M.map (fun c => c.1)) (va_A M sz)) 0 0 (va_A M sz) := by
  obtain ⟨n, wk, kb, mi, sn, yk, yv, yc, hl, tp, tc, hC, ee⟩ := vm
  refine met_wrap (fun args s hPc => ?_)
  obtain ⟨rfl, rfl, hMM, hK, hE⟩ := hPc
  have hMM0 := hMM
  refine hMM _ (fun aS aI aB aT aG aO aN aD aY th ac sp en wg op se dn rn kd nu tv bv cS cI cB cT cG cO cN cD cY fS fI fB fT fG fO fN fD fY hM hP hD hTM hMS hMI hrn => ?_)
  have hMV : MV fS n mi sn yk yv yc ee := hMS.2.2
  have hMH : MH fS hl tp tc hC := hMS.2.1
  have hMS : MOK fS n wk kb hl tp := hMS.1
  obtain ⟨hn, zn, h5, z1, hw6, zw, hk12, zk, zb, ht, zt, hHd⟩ := id hMS
  obtain ⟨hrq, rfl, hYm⟩ := hrn
  subst hM
  have hP : va_P (dC, dI) vwCl ([(zo14irriiiiiirriirrrrlriiii m0 th aS aI im ac sp en wg op aB aT se dn aG aO aN aD bv aY (nI tm.length) kd nu tv), (zaI aS cS 901 fS), (zaI aI cI 901 fI), (zaI aB cB 6 fB), (zaI aT cT 64 fT), (zaI aG cG 9 fG), (zaL aO cO 36 fO), (zaL aN cN 36 fN), (zaI aD cD 36 fD), (zaI aY cY 20 fY)] ++ []) s.heap := hP
  have hD : va_D (fun _ => True) ([(zo14irriiiiiirriirrrrlriiii m0 th aS aI im ac sp en wg op aB aT se dn aG aO aN aD bv aY (nI tm.length) kd nu tv), (zaI aS cS 901 fS), (zaI aI cI 901 fI), (zaI aB cB 6 fB), (zaI aT cT 64 fT), (zaI aG cG 9 fG), (zaL aO cO 36 fO), (zaL aN cN 36 fN), (zaI aD cD 36 fD), (zaI aY cY 20 fY)] ++ []) := hD
  have hwc := bl_mem (G := [(zo14irriiiiiirriirrrrlriiii m0 th aS aI im ac sp en wg op aB aT se dn aG aO aN aD bv aY (nI tm.length) kd nu tv), (zaI aS cS 901 fS), (zaI aI cI 901 fI), (zaI aB cB 6 fB), (zaI aT cT 64 fT), (zaI aG cG 9 fG), (zaL aO cO 36 fO), (zaL aN cN 36 fN), (zaI aD cD 36 fD), (zaI aY cY 20 fY)]) (F := [(zo14irriiiiiirriirrrrlriiii m0 th aS aI im ac sp en wg op aB aT se dn aG aO aN aD bv aY (nI tm.length) kd nu tv), (zaI aS cS 901 fS)]) (T := []) [0, 1] rfl
  have hPc := bl_sub (F := [(zo14irriiiiiirriirrrrlriiii m0 th aS aI im ac sp en wg op aB aT se dn aG aO aN aD bv aY (nI tm.length) kd nu tv), (zaI aS cS 901 fS)]) hP [0, 1] rfl
  refine ⟨_, _, _, c_mHill l dC dI sK sV m0 aS aI aB aT aG aO aN aD aY th im ac sp en wg op se dn (nI tm.length) kd nu tv bv cS fS hl tp tc s.heap.size z1 h5 zt ht hHd hMH.1, ⟨rfl, rfl, hPc, (K_mem hK hTM).sub [0] rfl, bl_Dsub hD [0, 1] (by decide) rfl, hE.call va_S.rf rfl (State.WarmedH.refl s) (bl_A hwc)⟩, fun o t hQ => ?_, fun q hq => bl_A hwc q hq⟩
  obtain ⟨⟨r, u9, rfl, hpost, hB⟩, hz, hkp⟩ := hQ
  obtain ⟨fS9, ac9, sp9, en9, wg9, op9⟩ := u9
  try dsimp only at hpost hB
  obtain ⟨hP1, hK1, hD1⟩ := hB
  rcases hpost with ⟨hl9, er, e9⟩ | ⟨hl9, hq9, z49, hpost⟩
  · skip
    obtain rfl := e9.symm
    have hJ := bl_gen (F' := [(zo14irriiiiiirriirrrrlriiii m0 th aS aI im ac9 sp9 en9 wg9 op9 aB aT se dn aG aO aN aD bv aY (nI tm.length) kd nu tv), (zaI aS cS 901 fS), (zaI aI cI 901 fI), (zaI aB cB 6 fB), (zaI aT cT 64 fT), (zaI aG cG 9 fG), (zaL aO cO 36 fO), (zaL aN cN 36 fN), (zaI aD cD 36 fD), (zaI aY cY 20 fY)]) hP hD [0, 1] rfl hkp hP1 hD1 [some 0, some 1, none, none, none, none, none, none, none, none] [0, 1] rfl (Or.inl rfl) rfl
    exact ⟨⟨r, (im, (n, wk, kb, mi, sn, yk, yv, yc, hl, tp, tc, hC, ee), kvm, tm), rfl, ⟨er.trans (hlR_5 hl9), u_eq (hlF_5 hl9)⟩, _, (fun M9 k9 => k9 aS aI aB aT aG aO aN aD aY th (ac9) (sp9) (en9) (wg9) (op9) se dn ((nI tm.length)) kd nu tv bv cS cI cB cT cG cO cN cD cY (fS) fI fB fT fG fO fN fD fY rfl hJ.1 ⟨hJ.2.1, fun _ _ _ => trivial⟩ hTM ⟨(show MOK fS n wk kb hl tp from hMS), (show MH fS hl tp tc hC from hMH), (show MV fS n mi sn yk yv yc ee from hMV)⟩ ((show im = 0 ∨ (MOK fI (kvm.1) (kvm.2.1) (kvm.2.2.1) (kvm.2.2.2.2.2.2.2.2.1) (kvm.2.2.2.2.2.2.2.2.2.1) ∧ MH fI (kvm.2.2.2.2.2.2.2.2.1) (kvm.2.2.2.2.2.2.2.2.2.1) (kvm.2.2.2.2.2.2.2.2.2.2.1) (kvm.2.2.2.2.2.2.2.2.2.2.2.1) ∧ MV fI (kvm.1) (kvm.2.2.2.1) (kvm.2.2.2.2.1) (kvm.2.2.2.2.2.1) (kvm.2.2.2.2.2.2.1) (kvm.2.2.2.2.2.2.2.1) (kvm.2.2.2.2.2.2.2.2.2.2.2.2)) from hMI)) (⟨hrq, rfl, hYm⟩)), hJ.2, rfl⟩, hz, fun q h1 h2 => hkp q h1 (fun h => h2 (bl_A hwc _ h))⟩
  · skip
    have mv9 : MV fS9 n mi sn yk yv yc ee := MV_of hMV (fun i hi => hq9.2.2 i (by omega) (by omega) (by omega) (by omega))
    rcases hpost with ⟨q0, hq0, eC0, er, he9⟩ | ⟨C0, q0, eC0, er, z19, z59, hcd⟩
    · skip
      have hJ := bl_gen (F' := [(zo14irriiiiiirriirrrrlriiii m0 th aS aI im ac9 sp9 en9 wg9 op9 aB aT se dn aG aO aN aD bv aY (nI tm.length) kd nu tv), (zaI aS cS 901 fS9), (zaI aI cI 901 fI), (zaI aB cB 6 fB), (zaI aT cT 64 fT), (zaI aG cG 9 fG), (zaL aO cO 36 fO), (zaL aN cN 36 fN), (zaI aD cD 36 fD), (zaI aY cY 20 fY)]) hP hD [0, 1] rfl hkp hP1 hD1 [some 0, some 1, none, none, none, none, none, none, none, none] [0, 1] rfl (Or.inl rfl) rfl
      exact ⟨⟨r, (im, (n, wk, kb, mi, sn, yk, yv, yc, hl, 0, (fun _ => 0), hC, ee), kvm, tm), rfl, ⟨er.trans (hlR_b (show ¬ hl = 5 by omega) eC0), u_eq (hlF_b (show ¬ hl = 5 by omega) eC0)⟩, _, (fun M9 k9 => k9 aS aI aB aT aG aO aN aD aY th (ac9) (sp9) (en9) (wg9) (op9) se dn ((nI tm.length)) kd nu tv bv cS cI cB cT cG cO cN cD cY (fS9) fI fB fT fG fO fN fD fY rfl hJ.1 ⟨hJ.2.1, fun _ _ _ => trivial⟩ hTM ⟨(show MOK fS9 n wk kb hl 0 from MOK_hill hMS hq9 h5 ((he9 1 (by omega) (by omega) (by omega) (by omega)).trans z1) (by omega) z49), (show MH fS9 hl 0 (fun _ => 0) hC from MH_bad hMH hl9 he9), (show MV fS9 n mi sn yk yv yc ee from mv9)⟩ ((show im = 0 ∨ (MOK fI (kvm.1) (kvm.2.1) (kvm.2.2.1) (kvm.2.2.2.2.2.2.2.2.1) (kvm.2.2.2.2.2.2.2.2.2.1) ∧ MH fI (kvm.2.2.2.2.2.2.2.2.1) (kvm.2.2.2.2.2.2.2.2.2.1) (kvm.2.2.2.2.2.2.2.2.2.2.1) (kvm.2.2.2.2.2.2.2.2.2.2.2.1) ∧ MV fI (kvm.1) (kvm.2.2.2.1) (kvm.2.2.2.2.1) (kvm.2.2.2.2.2.1) (kvm.2.2.2.2.2.2.1) (kvm.2.2.2.2.2.2.2.1) (kvm.2.2.2.2.2.2.2.2.2.2.2.2)) from hMI)) (⟨hrq, rfl, hYm⟩)), hJ.2, rfl⟩, hz, fun q h1 h2 => hkp q h1 (fun h => h2 (bl_A hwc _ h))⟩
    · skip
      have hJ := bl_gen (F' := [(zo14irriiiiiirriirrrrlriiii m0 th aS aI im ac9 sp9 en9 wg9 op9 aB aT se dn aG aO aN aD bv aY (nI tm.length) kd nu tv), (zaI aS cS 901 fS9), (zaI aI cI 901 fI), (zaI aB cB 6 fB), (zaI aT cT 64 fT), (zaI aG cG 9 fG), (zaL aO cO 36 fO), (zaL aN cN 36 fN), (zaI aD cD 36 fD), (zaI aY cY 20 fY)]) hP hD [0, 1] rfl hkp hP1 hD1 [some 0, some 1, none, none, none, none, none, none, none, none] [0, 1] rfl (Or.inl rfl) rfl
      exact ⟨⟨r, (im, (n, wk, kb, mi, sn, yk, yv, yc, hl + 1, 0, (fun _ => 0), C0, ee), kvm, tm), rfl, ⟨er.trans (hlR_g (show ¬ hl = 5 by omega) eC0), u_eq (hlF_g (show ¬ hl = 5 by omega) eC0)⟩, _, (fun M9 k9 => k9 aS aI aB aT aG aO aN aD aY th (ac9) (sp9) (en9) (wg9) (op9) se dn ((nI tm.length)) kd nu tv bv cS cI cB cT cG cO cN cD cY (fS9) fI fB fT fG fO fN fD fY rfl hJ.1 ⟨hJ.2.1, fun _ _ _ => trivial⟩ hTM ⟨(show MOK fS9 n wk kb (hl + 1) 0 from MOK_hill hMS hq9 (by omega) z19 (by omega) z49), (show MH fS9 (hl + 1) 0 (fun _ => 0) C0 from MH_good z59 hcd (wf_hl eC0)), (show MV fS9 n mi sn yk yv yc ee from mv9)⟩ ((show im = 0 ∨ (MOK fI (kvm.1) (kvm.2.1) (kvm.2.2.1) (kvm.2.2.2.2.2.2.2.2.1) (kvm.2.2.2.2.2.2.2.2.2.1) ∧ MH fI (kvm.2.2.2.2.2.2.2.2.1) (kvm.2.2.2.2.2.2.2.2.2.1) (kvm.2.2.2.2.2.2.2.2.2.2.1) (kvm.2.2.2.2.2.2.2.2.2.2.2.1) ∧ MV fI (kvm.1) (kvm.2.2.2.1) (kvm.2.2.2.2.1) (kvm.2.2.2.2.2.1) (kvm.2.2.2.2.2.2.1) (kvm.2.2.2.2.2.2.2.1) (kvm.2.2.2.2.2.2.2.2.2.2.2.2)) from hMI)) (⟨hrq, rfl, hYm⟩)), hJ.2, rfl⟩, hz, fun q h1 h2 => hkp q h1 (fun h => h2 (bl_A hwc _ h))⟩

set_option maxHeartbeats 4000000 in
set_option maxRecDepth 100000 in
theorem v_act (l : Launch) (dC : Nat → ClassId) (dI : Nat → Nat → Nat) (sK sV : Nat → Nat) (im : Int32) (vm kvm : VS) (tm : List Nat) (T : List (ClassId × FieldType)) (m0 : Nat) (M : va_W) (x : Int32) (y : Int32) (z : Int32) (sz : Nat) : Met l yX12_act wsX12_act ({ frames := 7, cells := 0, slots := 0, locals := 148 } : Room) (va_Pc [.ref m0, .int x, .int y, .int z] (fun U => U.heap.size = sz ∧ MI dC dI im vm kvm tm T m0 M U.heap ∧ va_K (dC, dI) vwCl T U ∧ Gs sK sV (va_A M sz) U)) (va_Qi (fun (r : Int32) (u : Int32 × VS × VS × List Nat) => r = acR vm.1 vm.2.2.2.2.2.1 vm.2.2.2.2.2.2.1 x y z ∧ u = (im, vm, kvm, acT vm.1 vm.2.2.2.2.2.1 x y)) (fun (u : Int32 × VS × VS × List Nat) (t : State) => ∃ M1 : va_W, MI dC dI u.1 u.2.1 u.2.2.1 u.2.2.2 T m0 M1 t.heap ∧ va_D (va_A M sz) M1 ∧ M1.map (fun c => c.1) = M.map (fun c => c.1)) (va_A M sz)) 0 0 (va_A M sz) := by
  obtain ⟨n, wk, kb, mi, sn, yk, yv, yc, hl, tp, tc, hC, ee⟩ := vm
  refine met_wrap (fun args s hPc => ?_)
  obtain ⟨rfl, rfl, hMM, hK, hE⟩ := hPc
  have hMM0 := hMM
  refine hMM _ (fun aS aI aB aT aG aO aN aD aY th ac sp en wg op se dn rn kd nu tv bv cS cI cB cT cG cO cN cD cY fS fI fB fT fG fO fN fD fY hM hP hD hTM hMS hMI hrn => ?_)
  have hMV : MV fS n mi sn yk yv yc ee := hMS.2.2
  have hMH : MH fS hl tp tc hC := hMS.2.1
  have hMS : MOK fS n wk kb hl tp := hMS.1
  obtain ⟨hn, zn, h5, z1, hw6, zw, hk12, zk, zb, ht, zt, hHd⟩ := id hMS
  obtain ⟨hrq, rfl, hYm⟩ := hrn
  subst hM
  have hP : va_P (dC, dI) vwCl ([(zo14irriiiiiirriirrrrlriiii m0 th aS aI im ac sp en wg op aB aT se dn aG aO aN aD bv aY (nI tm.length) kd nu tv), (zaI aS cS 901 fS), (zaI aI cI 901 fI), (zaI aB cB 6 fB), (zaI aT cT 64 fT), (zaI aG cG 9 fG), (zaL aO cO 36 fO), (zaL aN cN 36 fN), (zaI aD cD 36 fD), (zaI aY cY 20 fY)] ++ []) s.heap := hP
  have hD : va_D (fun _ => True) ([(zo14irriiiiiirriirrrrlriiii m0 th aS aI im ac sp en wg op aB aT se dn aG aO aN aD bv aY (nI tm.length) kd nu tv), (zaI aS cS 901 fS), (zaI aI cI 901 fI), (zaI aB cB 6 fB), (zaI aT cT 64 fT), (zaI aG cG 9 fG), (zaL aO cO 36 fO), (zaL aN cN 36 fN), (zaI aD cD 36 fD), (zaI aY cY 20 fY)] ++ []) := hD
  have hwc := bl_mem (G := [(zo14irriiiiiirriirrrrlriiii m0 th aS aI im ac sp en wg op aB aT se dn aG aO aN aD bv aY (nI tm.length) kd nu tv), (zaI aS cS 901 fS), (zaI aI cI 901 fI), (zaI aB cB 6 fB), (zaI aT cT 64 fT), (zaI aG cG 9 fG), (zaL aO cO 36 fO), (zaL aN cN 36 fN), (zaI aD cD 36 fD), (zaI aY cY 20 fY)]) (F := [(zo14irriiiiiirriirrrrlriiii m0 th aS aI im ac sp en wg op aB aT se dn aG aO aN aD bv aY (nI tm.length) kd nu tv), (zaI aS cS 901 fS), (zaI aY cY 20 fY)]) (T := []) [0, 1, 9] rfl
  have hPc := bl_sub (F := [(zo14irriiiiiirriirrrrlriiii m0 th aS aI im ac sp en wg op aB aT se dn aG aO aN aD bv aY (nI tm.length) kd nu tv), (zaI aS cS 901 fS), (zaI aY cY 20 fY)]) hP [0, 1, 9] rfl
  refine ⟨_, _, _, c_mAct l dC dI m0 aS aI aB aT aG aO aN aD aY th im ac sp en wg op se dn (nI tm.length) kd nu tv bv cS cY fS fY n yk yv x y z s.heap.size zn hn hMV.2.2.1 hMV.2.2.2.1, ⟨rfl, rfl, hPc, (K_mem hK hTM).sub [0, 8] rfl, bl_Dsub hD [0, 1, 9] (by decide) rfl⟩, fun o t hQ => ?_, fun q hq => bl_A hwc q hq⟩
  obtain ⟨⟨r, u9, rfl, hpost, hB⟩, hz, hkp⟩ := hQ
  obtain ⟨fY9, rn9, kd9, nu9, tv9⟩ := u9
  try dsimp only at hpost hB
  obtain ⟨hP1, hK1, hD1⟩ := hB
  obtain ⟨q1, q2, q3⟩ := hpost
  have hJ := bl_gen (F' := [(zo14irriiiiiirriirrrrlriiii m0 th aS aI im ac sp en wg op aB aT se dn aG aO aN aD bv aY rn9 kd9 nu9 tv9), (zaI aS cS 901 fS), (zaI aI cI 901 fI), (zaI aB cB 6 fB), (zaI aT cT 64 fT), (zaI aG cG 9 fG), (zaL aO cO 36 fO), (zaL aN cN 36 fN), (zaI aD cD 36 fD), (zaI aY cY 20 fY9)]) hP hD [0, 1, 9] rfl hkp hP1 hD1 [some 0, some 1, none, none, none, none, none, none, none, some 2] [0, 1, 9] rfl (Or.inl rfl) rfl
  exact ⟨⟨r, (im, (n, wk, kb, mi, sn, yk, yv, yc, hl, tp, tc, hC, ee), kvm, acT n yk x y), rfl, ⟨q1, rfl⟩, _, (fun M9 k9 => k9 aS aI aB aT aG aO aN aD aY th ac sp en wg op se dn (rn9) (kd9) (nu9) (tv9) bv cS cI cB cT cG cO cN cD cY fS fI fB fT fG fO fN fD (fY9) rfl hJ.1 ⟨hJ.2.1, fun _ _ _ => trivial⟩ hTM ⟨(show MOK fS n wk kb hl tp from hMS), (show MH fS hl tp tc hC from hMH), (show MV fS n mi sn yk yv yc ee from hMV)⟩ ((show im = 0 ∨ (MOK fI (kvm.1) (kvm.2.1) (kvm.2.2.1) (kvm.2.2.2.2.2.2.2.2.1) (kvm.2.2.2.2.2.2.2.2.2.1) ∧ MH fI (kvm.2.2.2.2.2.2.2.2.1) (kvm.2.2.2.2.2.2.2.2.2.1) (kvm.2.2.2.2.2.2.2.2.2.2.1) (kvm.2.2.2.2.2.2.2.2.2.2.2.1) ∧ MV fI (kvm.1) (kvm.2.2.2.1) (kvm.2.2.2.2.1) (kvm.2.2.2.2.2.1) (kvm.2.2.2.2.2.2.1) (kvm.2.2.2.2.2.2.2.1) (kvm.2.2.2.2.2.2.2.2.2.2.2.2)) from hMI)) (⟨Nat.le_trans acT_le (by omega), q2, q3⟩)), hJ.2, rfl⟩, hz, fun q h1 h2 => hkp q h1 (fun h => h2 (bl_A hwc _ h))⟩

set_option maxHeartbeats 4000000 in
set_option maxRecDepth 100000 in
theorem v_trace (l : Launch) (dC : Nat → ClassId) (dI : Nat → Nat → Nat) (sK sV : Nat → Nat) (im : Int32) (vm kvm : VS) (tm : List Nat) (T : List (ClassId × FieldType)) (m0 : Nat) (M : va_W) (x : Int32) (sz : Nat) : Met l yX12_trace wsX12_trace ({ frames := 1, cells := 0, slots := 0, locals := 22 } : Room) (va_Pc [.ref m0, .int x] (fun U => U.heap.size = sz ∧ MI dC dI im vm kvm tm T m0 M U.heap ∧ va_K (dC, dI) vwCl T U ∧ Gs sK sV (va_A M sz) U)) (va_Qi (fun (r : Int32) (u : Int32 × VS × VS × List Nat) => r = trR tm x ∧ u = (im, vm, kvm, tm)) (fun (u : Int32 × VS × VS × List Nat) (t : State) => ∃ M1 : va_W, MI dC dI u.1 u.2.1 u.2.2.1 u.2.2.2 T m0 M1 t.heap ∧ va_D (va_A M sz) M1 ∧ M1.map (fun c => c.1) = M.map (fun c => c.1)) (va_A M sz)) 0 0 (va_A M sz) := by
  obtain ⟨n, wk, kb, mi, sn, yk, yv, yc, hl, tp, tc, hC, ee⟩ := vm
  refine met_wrap (fun args s hPc => ?_)
  obtain ⟨rfl, rfl, hMM, hK, hE⟩ := hPc
  have hMM0 := hMM
  refine hMM _ (fun aS aI aB aT aG aO aN aD aY th ac sp en wg op se dn rn kd nu tv bv cS cI cB cT cG cO cN cD cY fS fI fB fT fG fO fN fD fY hM hP hD hTM hMS hMI hrn => ?_)
  have hMV : MV fS n mi sn yk yv yc ee := hMS.2.2
  have hMH : MH fS hl tp tc hC := hMS.2.1
  have hMS : MOK fS n wk kb hl tp := hMS.1
  obtain ⟨hn, zn, h5, z1, hw6, zw, hk12, zk, zb, ht, zt, hHd⟩ := id hMS
  obtain ⟨hrq, rfl, hYm⟩ := hrn
  subst hM
  have hP : va_P (dC, dI) vwCl ([(zo14irriiiiiirriirrrrlriiii m0 th aS aI im ac sp en wg op aB aT se dn aG aO aN aD bv aY (nI tm.length) kd nu tv), (zaI aS cS 901 fS), (zaI aI cI 901 fI), (zaI aB cB 6 fB), (zaI aT cT 64 fT), (zaI aG cG 9 fG), (zaL aO cO 36 fO), (zaL aN cN 36 fN), (zaI aD cD 36 fD), (zaI aY cY 20 fY)] ++ []) s.heap := hP
  have hD : va_D (fun _ => True) ([(zo14irriiiiiirriirrrrlriiii m0 th aS aI im ac sp en wg op aB aT se dn aG aO aN aD bv aY (nI tm.length) kd nu tv), (zaI aS cS 901 fS), (zaI aI cI 901 fI), (zaI aB cB 6 fB), (zaI aT cT 64 fT), (zaI aG cG 9 fG), (zaL aO cO 36 fO), (zaL aN cN 36 fN), (zaI aD cD 36 fD), (zaI aY cY 20 fY)] ++ []) := hD
  have hwc := bl_mem (G := [(zo14irriiiiiirriirrrrlriiii m0 th aS aI im ac sp en wg op aB aT se dn aG aO aN aD bv aY (nI tm.length) kd nu tv), (zaI aS cS 901 fS), (zaI aI cI 901 fI), (zaI aB cB 6 fB), (zaI aT cT 64 fT), (zaI aG cG 9 fG), (zaL aO cO 36 fO), (zaL aN cN 36 fN), (zaI aD cD 36 fD), (zaI aY cY 20 fY)]) (F := [(zo14irriiiiiirriirrrrlriiii m0 th aS aI im ac sp en wg op aB aT se dn aG aO aN aD bv aY (nI tm.length) kd nu tv), (zaI aY cY 20 fY)]) (T := []) [0, 9] rfl
  have hPc := bl_sub (F := [(zo14irriiiiiirriirrrrlriiii m0 th aS aI im ac sp en wg op aB aT se dn aG aO aN aD bv aY (nI tm.length) kd nu tv), (zaI aY cY 20 fY)]) hP [0, 9] rfl
  refine ⟨_, _, _, c_mTrace l dC dI m0 aS aI aB aT aG aO aN aD aY th im ac sp en wg op se dn (nI tm.length) kd nu tv bv cY fY tm x (by omega) hYm, ⟨rfl, hPc, (K_mem hK hTM).sub [8] rfl⟩, fun o t hQ => ?_, fun q hq => hq.elim⟩
  obtain ⟨r, rfl, hpost, hh⟩ := hQ
  exact ⟨⟨r, (im, (n, wk, kb, mi, sn, yk, yv, yc, hl, tp, tc, hC, ee), kvm, tm), rfl, ⟨hpost, rfl⟩, _, by rw [hh]; exact hMM0, ⟨hD.1, fun k q hq => Or.inl ⟨k, q.2, hq⟩⟩, rfl⟩, by rw [hh]; exact Nat.le_refl _, fun q _ _ => by rw [hh]⟩

set_option maxHeartbeats 4000000 in
set_option maxRecDepth 100000 in
theorem v_image (l : Launch) (dC : Nat → ClassId) (dI : Nat → Nat → Nat) (sK sV : Nat → Nat) (im : Int32) (vm kvm : VS) (tm : List Nat) (T : List (ClassId × FieldType)) (m0 : Nat) (M : va_W)  (sz : Nat) : Met l yX12_image wsX12_image ({ frames := 0, cells := 0, slots := 0, locals := 0 } : Room) (va_Pc [.ref m0] (fun U => U.heap.size = sz ∧ MI dC dI im vm kvm tm T m0 M U.heap ∧ va_K (dC, dI) vwCl T U ∧ Gs sK sV (va_A M sz) U)) (va_Qi (fun (r : Int32) (u : Int32 × VS × VS × List Nat) => r = nI vm.1 ∧ u = (1, vm, vm, tm)) (fun (u : Int32 × VS × VS × List Nat) (t : State) => ∃ M1 : va_W, MI dC dI u.1 u.2.1 u.2.2.1 u.2.2.2 T m0 M1 t.heap ∧ va_D (va_A M sz) M1 ∧ M1.map (fun c => c.1) = M.map (fun c => c.1)) (va_A M sz)) 0 0 (va_A M sz) := by
  obtain ⟨n, wk, kb, mi, sn, yk, yv, yc, hl, tp, tc, hC, ee⟩ := vm
  refine met_wrap (fun args s hPc => ?_)
  obtain ⟨rfl, rfl, hMM, hK, hE⟩ := hPc
  have hMM0 := hMM
  refine hMM _ (fun aS aI aB aT aG aO aN aD aY th ac sp en wg op se dn rn kd nu tv bv cS cI cB cT cG cO cN cD cY fS fI fB fT fG fO fN fD fY hM hP hD hTM hMS hMI hrn => ?_)
  have hMV : MV fS n mi sn yk yv yc ee := hMS.2.2
  have hMH : MH fS hl tp tc hC := hMS.2.1
  have hMS : MOK fS n wk kb hl tp := hMS.1
  obtain ⟨hn, zn, h5, z1, hw6, zw, hk12, zk, zb, ht, zt, hHd⟩ := id hMS
  obtain ⟨hrq, rfl, hYm⟩ := hrn
  subst hM
  have hP : va_P (dC, dI) vwCl ([(zo14irriiiiiirriirrrrlriiii m0 th aS aI im ac sp en wg op aB aT se dn aG aO aN aD bv aY (nI tm.length) kd nu tv), (zaI aS cS 901 fS), (zaI aI cI 901 fI), (zaI aB cB 6 fB), (zaI aT cT 64 fT), (zaI aG cG 9 fG), (zaL aO cO 36 fO), (zaL aN cN 36 fN), (zaI aD cD 36 fD), (zaI aY cY 20 fY)] ++ []) s.heap := hP
  have hD : va_D (fun _ => True) ([(zo14irriiiiiirriirrrrlriiii m0 th aS aI im ac sp en wg op aB aT se dn aG aO aN aD bv aY (nI tm.length) kd nu tv), (zaI aS cS 901 fS), (zaI aI cI 901 fI), (zaI aB cB 6 fB), (zaI aT cT 64 fT), (zaI aG cG 9 fG), (zaL aO cO 36 fO), (zaL aN cN 36 fN), (zaI aD cD 36 fD), (zaI aY cY 20 fY)] ++ []) := hD
  have hwc := bl_mem (G := [(zo14irriiiiiirriirrrrlriiii m0 th aS aI im ac sp en wg op aB aT se dn aG aO aN aD bv aY (nI tm.length) kd nu tv), (zaI aS cS 901 fS), (zaI aI cI 901 fI), (zaI aB cB 6 fB), (zaI aT cT 64 fT), (zaI aG cG 9 fG), (zaL aO cO 36 fO), (zaL aN cN 36 fN), (zaI aD cD 36 fD), (zaI aY cY 20 fY)]) (F := [(zo14irriiiiiirriirrrrlriiii m0 th aS aI im ac sp en wg op aB aT se dn aG aO aN aD bv aY (nI tm.length) kd nu tv), (zaI aS cS 901 fS), (zaI aI cI 901 fI)]) (T := []) [0, 1, 2] rfl
  have hPc := bl_sub (F := [(zo14irriiiiiirriirrrrlriiii m0 th aS aI im ac sp en wg op aB aT se dn aG aO aN aD bv aY (nI tm.length) kd nu tv), (zaI aS cS 901 fS), (zaI aI cI 901 fI)]) hP [0, 1, 2] rfl
  refine ⟨_, _, _, c_mImage l dC dI m0 aS aI aB aT aG aO aN aD aY th im ac sp en wg op se dn (nI tm.length) kd nu tv bv cS cI fS fI s.heap.size , ⟨rfl, rfl, hPc, (K_mem hK hTM).sub [0, 1] rfl, bl_Dsub hD [0, 1, 2] (by decide) rfl⟩, fun o t hQ => ?_, fun q hq => bl_A hwc q hq⟩
  obtain ⟨⟨r, u9, rfl, hpost, hB⟩, hz, hkp⟩ := hQ
  obtain ⟨fI9, im9⟩ := u9
  try dsimp only at hpost hB
  obtain ⟨hP1, hK1, hD1⟩ := hB
  obtain ⟨er, e1, q2⟩ := hpost
  obtain rfl := e1
  have hJ := bl_gen (F' := [(zo14irriiiiiirriirrrrlriiii m0 th aS aI 1 ac sp en wg op aB aT se dn aG aO aN aD bv aY (nI tm.length) kd nu tv), (zaI aS cS 901 fS), (zaI aI cI 901 fI9), (zaI aB cB 6 fB), (zaI aT cT 64 fT), (zaI aG cG 9 fG), (zaL aO cO 36 fO), (zaL aN cN 36 fN), (zaI aD cD 36 fD), (zaI aY cY 20 fY)]) hP hD [0, 1, 2] rfl hkp hP1 hD1 [some 0, some 1, some 2, none, none, none, none, none, none, none] [0, 1, 2] rfl (Or.inl rfl) rfl
  exact ⟨⟨r, (1, (n, wk, kb, mi, sn, yk, yv, yc, hl, tp, tc, hC, ee), (n, wk, kb, mi, sn, yk, yv, yc, hl, tp, tc, hC, ee), tm), rfl, ⟨er.trans zn, rfl⟩, _, (fun M9 k9 => k9 aS aI aB aT aG aO aN aD aY th ac sp en wg op se dn ((nI tm.length)) kd nu tv bv cS cI cB cT cG cO cN cD cY fS (fI9) fB fT fG fO fN fD fY rfl hJ.1 ⟨hJ.2.1, fun _ _ _ => trivial⟩ hTM ⟨(show MOK fS n wk kb hl tp from hMS), (show MH fS hl tp tc hC from hMH), (show MV fS n mi sn yk yv yc ee from hMV)⟩ ((show 1 = 0 ∨ (MOK fI9 n wk kb hl tp ∧ MH fI9 hl tp tc hC ∧ MV fI9 n mi sn yk yv yc ee) from Or.inr ⟨MOK_rest hMS (fun i hi => q2 i (by omega)), MH_of hMH h5 ht (fun i hi => q2 i (by omega)), MV_of hMV (fun i hi => q2 i (by omega))⟩)) (⟨hrq, rfl, hYm⟩)), hJ.2, rfl⟩, hz, fun q h1 h2 => hkp q h1 (fun h => h2 (bl_A hwc _ h))⟩

set_option maxHeartbeats 4000000 in
set_option maxRecDepth 100000 in
theorem v_undo (l : Launch) (dC : Nat → ClassId) (dI : Nat → Nat → Nat) (sK sV : Nat → Nat) (im : Int32) (vm kvm : VS) (tm : List Nat) (T : List (ClassId × FieldType)) (m0 : Nat) (M : va_W)  (sz : Nat) : Met l yX12_undo wsX12_undo ({ frames := 0, cells := 0, slots := 0, locals := 0 } : Room) (va_Pc [.ref m0] (fun U => U.heap.size = sz ∧ MI dC dI im vm kvm tm T m0 M U.heap ∧ va_K (dC, dI) vwCl T U ∧ Gs sK sV (va_A M sz) U)) (va_Qi (fun (r : Int32) (u : Int32 × VS × VS × List Nat) => (im = 0 ∧ r = -3 ∧ u = (im, vm, kvm, tm)) ∨ (¬ im = 0 ∧ r = nI kvm.1 ∧ u = (im, kvm, kvm, tm))) (fun (u : Int32 × VS × VS × List Nat) (t : State) => ∃ M1 : va_W, MI dC dI u.1 u.2.1 u.2.2.1 u.2.2.2 T m0 M1 t.heap ∧ va_D (va_A M sz) M1 ∧ M1.map (fun c => c.1) = M.map (fun c => c.1)) (va_A M sz)) 0 0 (va_A M sz) := by
  obtain ⟨n, wk, kb, mi, sn, yk, yv, yc, hl, tp, tc, hC, ee⟩ := vm
  refine met_wrap (fun args s hPc => ?_)
  obtain ⟨rfl, rfl, hMM, hK, hE⟩ := hPc
  have hMM0 := hMM
  refine hMM _ (fun aS aI aB aT aG aO aN aD aY th ac sp en wg op se dn rn kd nu tv bv cS cI cB cT cG cO cN cD cY fS fI fB fT fG fO fN fD fY hM hP hD hTM hMS hMI hrn => ?_)
  have hMV : MV fS n mi sn yk yv yc ee := hMS.2.2
  have hMH : MH fS hl tp tc hC := hMS.2.1
  have hMS : MOK fS n wk kb hl tp := hMS.1
  obtain ⟨hn, zn, h5, z1, hw6, zw, hk12, zk, zb, ht, zt, hHd⟩ := id hMS
  obtain ⟨hrq, rfl, hYm⟩ := hrn
  subst hM
  have hP : va_P (dC, dI) vwCl ([(zo14irriiiiiirriirrrrlriiii m0 th aS aI im ac sp en wg op aB aT se dn aG aO aN aD bv aY (nI tm.length) kd nu tv), (zaI aS cS 901 fS), (zaI aI cI 901 fI), (zaI aB cB 6 fB), (zaI aT cT 64 fT), (zaI aG cG 9 fG), (zaL aO cO 36 fO), (zaL aN cN 36 fN), (zaI aD cD 36 fD), (zaI aY cY 20 fY)] ++ []) s.heap := hP
  have hD : va_D (fun _ => True) ([(zo14irriiiiiirriirrrrlriiii m0 th aS aI im ac sp en wg op aB aT se dn aG aO aN aD bv aY (nI tm.length) kd nu tv), (zaI aS cS 901 fS), (zaI aI cI 901 fI), (zaI aB cB 6 fB), (zaI aT cT 64 fT), (zaI aG cG 9 fG), (zaL aO cO 36 fO), (zaL aN cN 36 fN), (zaI aD cD 36 fD), (zaI aY cY 20 fY)] ++ []) := hD
  have hwc := bl_mem (G := [(zo14irriiiiiirriirrrrlriiii m0 th aS aI im ac sp en wg op aB aT se dn aG aO aN aD bv aY (nI tm.length) kd nu tv), (zaI aS cS 901 fS), (zaI aI cI 901 fI), (zaI aB cB 6 fB), (zaI aT cT 64 fT), (zaI aG cG 9 fG), (zaL aO cO 36 fO), (zaL aN cN 36 fN), (zaI aD cD 36 fD), (zaI aY cY 20 fY)]) (F := [(zo14irriiiiiirriirrrrlriiii m0 th aS aI im ac sp en wg op aB aT se dn aG aO aN aD bv aY (nI tm.length) kd nu tv), (zaI aS cS 901 fS), (zaI aI cI 901 fI)]) (T := []) [0, 1, 2] rfl
  have hPc := bl_sub (F := [(zo14irriiiiiirriirrrrlriiii m0 th aS aI im ac sp en wg op aB aT se dn aG aO aN aD bv aY (nI tm.length) kd nu tv), (zaI aS cS 901 fS), (zaI aI cI 901 fI)]) hP [0, 1, 2] rfl
  refine ⟨_, _, _, c_mUndo l dC dI m0 aS aI aB aT aG aO aN aD aY th im ac sp en wg op se dn (nI tm.length) kd nu tv bv cS cI fS fI s.heap.size , ⟨rfl, rfl, hPc, (K_mem hK hTM).sub [0, 1] rfl, bl_Dsub hD [0, 1, 2] (by decide) rfl⟩, fun o t hQ => ?_, fun q hq => bl_A hwc q hq⟩
  obtain ⟨⟨r, u9, rfl, hpost, hB⟩, hz, hkp⟩ := hQ
  obtain ⟨fS9, rfl⟩ : ∃ z9, z9 = u9 := ⟨_, rfl⟩
  try dsimp only at hpost hB
  obtain ⟨hP1, hK1, hD1⟩ := hB
  rcases hpost with ⟨him, er, e1⟩ | ⟨him, er, q2⟩
  · skip
    obtain rfl := e1.symm
    have hJ := bl_gen (F' := [(zo14irriiiiiirriirrrrlriiii m0 th aS aI im ac sp en wg op aB aT se dn aG aO aN aD bv aY (nI tm.length) kd nu tv), (zaI aS cS 901 fS), (zaI aI cI 901 fI), (zaI aB cB 6 fB), (zaI aT cT 64 fT), (zaI aG cG 9 fG), (zaL aO cO 36 fO), (zaL aN cN 36 fN), (zaI aD cD 36 fD), (zaI aY cY 20 fY)]) hP hD [0, 1, 2] rfl hkp hP1 hD1 [some 0, some 1, some 2, none, none, none, none, none, none, none] [0, 1, 2] rfl (Or.inl rfl) rfl
    exact ⟨⟨r, (im, (n, wk, kb, mi, sn, yk, yv, yc, hl, tp, tc, hC, ee), kvm, tm), rfl, Or.inl ⟨him, er, rfl⟩, _, (fun M9 k9 => k9 aS aI aB aT aG aO aN aD aY th ac sp en wg op se dn ((nI tm.length)) kd nu tv bv cS cI cB cT cG cO cN cD cY (fS) fI fB fT fG fO fN fD fY rfl hJ.1 ⟨hJ.2.1, fun _ _ _ => trivial⟩ hTM ⟨(show MOK fS n wk kb hl tp from hMS), (show MH fS hl tp tc hC from hMH), (show MV fS n mi sn yk yv yc ee from hMV)⟩ ((show im = 0 ∨ (MOK fI (kvm.1) (kvm.2.1) (kvm.2.2.1) (kvm.2.2.2.2.2.2.2.2.1) (kvm.2.2.2.2.2.2.2.2.2.1) ∧ MH fI (kvm.2.2.2.2.2.2.2.2.1) (kvm.2.2.2.2.2.2.2.2.2.1) (kvm.2.2.2.2.2.2.2.2.2.2.1) (kvm.2.2.2.2.2.2.2.2.2.2.2.1) ∧ MV fI (kvm.1) (kvm.2.2.2.1) (kvm.2.2.2.2.1) (kvm.2.2.2.2.2.1) (kvm.2.2.2.2.2.2.1) (kvm.2.2.2.2.2.2.2.1) (kvm.2.2.2.2.2.2.2.2.2.2.2.2)) from hMI)) (⟨hrq, rfl, hYm⟩)), hJ.2, rfl⟩, hz, fun q h1 h2 => hkp q h1 (fun h => h2 (bl_A hwc _ h))⟩
  · skip
    obtain ⟨hI9, hH9, hV9⟩ := hMI.resolve_left him
    have hn9 := (MOK_n hI9).2
    have hb9 := MOK_b hI9
    have hJ := bl_gen (F' := [(zo14irriiiiiirriirrrrlriiii m0 th aS aI im ac sp en wg op aB aT se dn aG aO aN aD bv aY (nI tm.length) kd nu tv), (zaI aS cS 901 fS9), (zaI aI cI 901 fI), (zaI aB cB 6 fB), (zaI aT cT 64 fT), (zaI aG cG 9 fG), (zaL aO cO 36 fO), (zaL aN cN 36 fN), (zaI aD cD 36 fD), (zaI aY cY 20 fY)]) hP hD [0, 1, 2] rfl hkp hP1 hD1 [some 0, some 1, some 2, none, none, none, none, none, none, none] [0, 1, 2] rfl (Or.inl rfl) rfl
    exact ⟨⟨r, (im, kvm, kvm, tm), rfl, Or.inr ⟨him, er.trans (MOK_n hI9).1, rfl⟩, _, (fun M9 k9 => k9 aS aI aB aT aG aO aN aD aY th ac sp en wg op se dn ((nI tm.length)) kd nu tv bv cS cI cB cT cG cO cN cD cY (fS9) fI fB fT fG fO fN fD fY rfl hJ.1 ⟨hJ.2.1, fun _ _ _ => trivial⟩ hTM ⟨(show MOK fS9 (kvm.1) (kvm.2.1) (kvm.2.2.1) (kvm.2.2.2.2.2.2.2.2.1) (kvm.2.2.2.2.2.2.2.2.2.1) from MOK_rest hI9 (fun i hi => q2 i (by omega))), (show MH fS9 (kvm.2.2.2.2.2.2.2.2.1) (kvm.2.2.2.2.2.2.2.2.2.1) (kvm.2.2.2.2.2.2.2.2.2.2.1) (kvm.2.2.2.2.2.2.2.2.2.2.2.1) from MH_of hH9 hb9.1 hb9.2 (fun i hi => q2 i (by omega))), (show MV fS9 (kvm.1) (kvm.2.2.2.1) (kvm.2.2.2.2.1) (kvm.2.2.2.2.2.1) (kvm.2.2.2.2.2.2.1) (kvm.2.2.2.2.2.2.2.1) (kvm.2.2.2.2.2.2.2.2.2.2.2.2) from MV_of hV9 (fun i hi => q2 i (by omega)))⟩ ((show im = 0 ∨ (MOK fI (kvm.1) (kvm.2.1) (kvm.2.2.1) (kvm.2.2.2.2.2.2.2.2.1) (kvm.2.2.2.2.2.2.2.2.2.1) ∧ MH fI (kvm.2.2.2.2.2.2.2.2.1) (kvm.2.2.2.2.2.2.2.2.2.1) (kvm.2.2.2.2.2.2.2.2.2.2.1) (kvm.2.2.2.2.2.2.2.2.2.2.2.1) ∧ MV fI (kvm.1) (kvm.2.2.2.1) (kvm.2.2.2.2.1) (kvm.2.2.2.2.2.1) (kvm.2.2.2.2.2.2.1) (kvm.2.2.2.2.2.2.2.1) (kvm.2.2.2.2.2.2.2.2.2.2.2.2)) from hMI)) (⟨hrq, rfl, hYm⟩)), hJ.2, rfl⟩, hz, fun q h1 h2 => hkp q h1 (fun h => h2 (bl_A hwc _ h))⟩
