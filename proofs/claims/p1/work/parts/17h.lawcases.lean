theorem dL_law_611 : decode cL_law 611 = .ok (.aload_n 1, 1) := by decide +kernel
theorem dL_law_612 : decode cL_law 612 = .ok (.aload_n 0, 1) := by decide +kernel
theorem dL_law_613 : decode cL_law 613 = .ok (.iload_n 3, 1) := by decide +kernel
theorem dL_law_614 : decode cL_law 614 = .ok (.iconst 1, 1) := by decide +kernel
theorem dL_law_615 : decode cL_law 615 = .ok (.iadd, 1) := by decide +kernel
theorem dL_law_616 : decode cL_law 616 = .ok (.iaload, 1) := by decide +kernel
set_option maxRecDepth 20000 in
theorem ggL_law_X11_drift_c0 : GoodIn wsL_law ((wsX11_drift).take 40) := goodIn_r _ [769, 16, 411, 412, 2, 413, 770, 771, 772, 15, 773, 774, 42, 47, 775, 257, 150, 258, 501, 502, 503, 504, 500, 505, 506, 507, 508, 509, 510, 511, 21, 512, 143, 53, 54, 513, 514, 515, 516, 55] (by decide +kernel) (by decide +kernel)
set_option maxRecDepth 20000 in
theorem ggL_law_X11_drift_c1 : GoodIn wsL_law ((wsX11_drift).drop 40) := goodIn_r _ [56, 517, 518, 519, 1236, 1237, 1238, 1239, 1240, 1241, 1242, 1266, 1267, 1268, 1269, 1270, 1271, 1272, 1273, 1274, 1275, 1276, 1277, 1278, 1279, 1280, 1281, 1282, 1283, 1284, 1285, 1286, 1287, 1288, 1289, 1290] (by decide +kernel) (by decide +kernel)
theorem ggL_law_X11_drift : GoodIn wsL_law wsX11_drift := goodIn_td 40 ggL_law_X11_drift_c0 (ggL_law_X11_drift_c1)
set_option maxRecDepth 20000 in
theorem gL_law_X11_drift : GoodIn wsL_law (wsV RL 77 RX11 yX11_drift wsX11_drift) := goodIn_app (goodIn_of _ (by decide +kernel)) ggL_law_X11_drift
theorem dL_law_617 : decode cL_law 617 = .ok (.invokevirtual 77, 3) := by decide +kernel
theorem dL_law_620 : decode cL_law 620 = .ok (.aload_n 2, 1) := by decide +kernel
theorem dL_law_621 : decode cL_law 621 = .ok (.aload_n 0, 1) := by decide +kernel
theorem dL_law_622 : decode cL_law 622 = .ok (.iload_n 3, 1) := by decide +kernel
theorem dL_law_623 : decode cL_law 623 = .ok (.iconst 1, 1) := by decide +kernel
theorem dL_law_624 : decode cL_law 624 = .ok (.iadd, 1) := by decide +kernel
theorem dL_law_625 : decode cL_law 625 = .ok (.iaload, 1) := by decide +kernel
set_option maxRecDepth 20000 in
theorem ggL_law_X12_drift_c0 : GoodIn wsL_law ((wsX12_drift).take 40) := goodIn_r _ [779, 471, 472, 5, 473, 125, 126, 127, 780, 781, 782, 783, 571, 567, 568, 569, 570, 107, 105, 566, 109, 1243, 1244, 1245, 1246, 1247, 1248, 1249, 1250, 1251, 1252, 1253, 1254, 1255, 1256, 1257, 1258, 1259, 1260, 1261] (by decide +kernel) (by decide +kernel)
set_option maxRecDepth 20000 in
theorem ggL_law_X12_drift_c1 : GoodIn wsL_law ((wsX12_drift).drop 40) := goodIn_r _ [1262, 1263, 1264, 1265] (by decide +kernel) (by decide +kernel)
theorem ggL_law_X12_drift : GoodIn wsL_law wsX12_drift := goodIn_td 40 ggL_law_X12_drift_c0 (ggL_law_X12_drift_c1)
set_option maxRecDepth 20000 in
theorem gL_law_X12_drift : GoodIn wsL_law (wsV RL 80 RX12 yX12_drift wsX12_drift) := goodIn_app (goodIn_of _ (by decide +kernel)) ggL_law_X12_drift
theorem dL_law_626 : decode cL_law 626 = .ok (.invokevirtual 80, 3) := by decide +kernel
theorem dL_law_629 : decode cL_law 629 = .ok (.if_icmp .eq 482, 3) := by decide +kernel
theorem dL_law_634 : decode cL_law 634 = .ok (.aload_n 1, 1) := by decide +kernel
theorem dL_law_635 : decode cL_law 635 = .ok (.aload_n 0, 1) := by decide +kernel
theorem dL_law_636 : decode cL_law 636 = .ok (.iload_n 3, 1) := by decide +kernel
theorem dL_law_637 : decode cL_law 637 = .ok (.iconst 1, 1) := by decide +kernel
theorem dL_law_638 : decode cL_law 638 = .ok (.iadd, 1) := by decide +kernel
theorem dL_law_639 : decode cL_law 639 = .ok (.iaload, 1) := by decide +kernel
set_option maxRecDepth 20000 in
theorem ggL_law_X11_walk : GoodIn wsL_law wsX11_walk := goodIn_r _ [787, 16, 788, 789, 1236, 1237, 1238, 1239, 1240, 1241, 1242, 1266, 1267, 1268, 1269, 1270, 1271, 1272, 1273, 1274, 1275, 1276, 1277, 1278, 1279] (by decide +kernel) (by decide +kernel)
set_option maxRecDepth 20000 in
theorem gL_law_X11_walk : GoodIn wsL_law (wsV RL 81 RX11 yX11_walk wsX11_walk) := goodIn_app (goodIn_of _ (by decide +kernel)) ggL_law_X11_walk
theorem dL_law_640 : decode cL_law 640 = .ok (.invokevirtual 81, 3) := by decide +kernel
theorem dL_law_643 : decode cL_law 643 = .ok (.aload_n 2, 1) := by decide +kernel
theorem dL_law_644 : decode cL_law 644 = .ok (.aload_n 0, 1) := by decide +kernel
theorem dL_law_645 : decode cL_law 645 = .ok (.iload_n 3, 1) := by decide +kernel
theorem dL_law_646 : decode cL_law 646 = .ok (.iconst 1, 1) := by decide +kernel
theorem dL_law_647 : decode cL_law 647 = .ok (.iadd, 1) := by decide +kernel
theorem dL_law_648 : decode cL_law 648 = .ok (.iaload, 1) := by decide +kernel
set_option maxRecDepth 20000 in
theorem ggL_law_X12_walk : GoodIn wsL_law wsX12_walk := goodIn_r _ [793, 105, 125, 126, 5, 127, 1243, 1244, 1245, 1246, 1247, 1248, 1249, 1250, 1251, 1252, 1253, 1254, 1255, 1256, 1257, 1258, 1259, 1260, 1261, 1262, 1263, 1264, 1265] (by decide +kernel) (by decide +kernel)
set_option maxRecDepth 20000 in
theorem gL_law_X12_walk : GoodIn wsL_law (wsV RL 84 RX12 yX12_walk wsX12_walk) := goodIn_app (goodIn_of _ (by decide +kernel)) ggL_law_X12_walk
theorem dL_law_649 : decode cL_law 649 = .ok (.invokevirtual 84, 3) := by decide +kernel
theorem dL_law_652 : decode cL_law 652 = .ok (.if_icmp .eq 459, 3) := by decide +kernel
set_option maxHeartbeats 4000000 in
set_option maxRecDepth 100000 in
theorem lc_14 {p : Program} {l : Launch} {e : Env} {s : State} {m : MethodId} {below : List Frame} {meth : Method} {c : Code} {b : Nat} {xs : Nat → Int32} {A : Nat → Prop} (hAe : A = fun q => s.heap.size ≤ q) (C0 : lw_At p s m meth c b 5 xs) (dC : Nat → ClassId) (dI : Nat → Nat → Nat) (h0 sc kp bl go ch bo aTp aHl aHs aWk aBk aFc bW bA bE bC kTp kHl kHs kWk kBk kFc kbW kbA kbE kbC eW eA eE eC gR gO gS dr tO hO bS m0 aS aI aB aT aG aO aN aD aY : Nat) (rt rh gd sK sV : Nat → Nat) (cTp cHs cWk cBk cFc kcTp kcHs kcWk kcBk kcFc cD cTO cHO cT cH cS cI cB cO cN cDm : ClassId) (hG : Gl gd A s) (hK : va_K (dC, dI) vwCl [(cFc, .int), (cS, .int), (cB, .int)] s) (H : Heap) (locs : List Loc) (hP : va_P (dC, dI) vwCl [(h0, .inr (13, [.ref sc, .ref kp, .int 0, .ref bl, .ref go, .ref ch, .ref bo])), (sc, .inr (10, [.ref aTp, .int 0, .ref aHl, .int 0, .long 0, .int 0, .int 0, .ref aHs, .int 0, .ref aWk, .int 0, .ref aBk, .int 0, .ref aFc])), (aHl, .inr (7, [.int 3, .int 0, .ref bW, .ref bA, .ref bE, .ref bC, .int 0, .null, .int 0, .int 0, .int 0])), (aFc, .inl (cFc, 6, .inl (fun _ => 0))), (m0, .inr (14, [.int 0, .ref aS, .ref aI, .int 0, .int 0, .int 0, .int 0, .int 0, .int 0, .ref aB, .ref aT, .int 0, .int 0, .ref aG, .ref aO, .ref aN, .ref aD, .long 0, .ref aY, .int 0, .int 0, .int 0, .int 0])), (aS, .inl (cS, 901, .inl s0)), (aB, .inl (cB, 6, .inl (fun _ => 0)))] H) (hD : va_D A [(h0, .inr (13, [.ref sc, .ref kp, .int 0, .ref bl, .ref go, .ref ch, .ref bo])), (sc, .inr (10, [.ref aTp, .int 0, .ref aHl, .int 0, .long 0, .int 0, .int 0, .ref aHs, .int 0, .ref aWk, .int 0, .ref aBk, .int 0, .ref aFc])), (aHl, .inr (7, [.int 3, .int 0, .ref bW, .ref bA, .ref bE, .ref bC, .int 0, .null, .int 0, .int 0, .int 0])), (aFc, .inl (cFc, 6, .inl (fun _ => 0))), (m0, .inr (14, [.int 0, .ref aS, .ref aI, .int 0, .int 0, .int 0, .int 0, .int 0, .int 0, .ref aB, .ref aT, .int 0, .int 0, .ref aG, .ref aO, .ref aN, .ref aD, .long 0, .ref aY, .int 0, .int 0, .int 0, .int 0])), (aS, .inl (cS, 901, .inl s0)), (aB, .inl (cB, 6, .inl (fun _ => 0)))]) (hS : va_S A s.heap H locs) (ls : Array Slot) (hl : lv_has ls 4 [(0, .ref b), (1, .ref h0), (2, .ref m0), (3, .int 0)]) : W p l e room_1 s m #[Value.ref b] below meth c H locs 58 3229 (lw_Z below #[Value.ref b] s) (F0 m 611 ls []) := by
  obtain ⟨hx, hb, hr, hml, hown, hts0, hX, hbl, hlocks, hgv⟩ := id C0
  have hown : s.vm.findClass RL = some m.cls := hown
  have hb : c.code = cL_law := hb
  have hts : ∀ w ∈ wsL_law, w.before #[Value.ref b] s = true := fun w h => hts0 w (wsL_law_in w h)
  have hA : ∀ q : Nat, s.heap.size ≤ q → A q := fun q h => by rw [hAe]; exact h
  have hbA : ¬ A b := by rw [hAe]; exact Nat.not_le.mpr hbl
  refine lv_aload_n hx hb dL_law_611 rfl (lv_at hl 1 rfl) ?_
  refine lv_aload_n hx hb dL_law_612 rfl (lv_at hl 0 rfl) ?_
  refine lv_iload_n hx hb dL_law_613 rfl (lv_at hl 3 rfl) ?_
  refine lv_iconst (v := 1) hx hb dL_law_614 (by decide) ?_
  refine lv_iadd hx hb dL_law_615 ?_
  refine qi_as (y := 1) (by decide) ?_
  refine va_sld hx hb hX hbl hbA hS (vp_in_nI (n := 1) (N := 5) (by omega) (by omega)) dL_law_616 ?_
  refine qi_as (y := xs 1) (by rfl) ?_
  have hPc := hP.sub (ws' := [(h0, .inr (13, [.ref sc, .ref kp, .int 0, .ref bl, .ref go, .ref ch, .ref bo])), (sc, .inr (10, [.ref aTp, .int 0, .ref aHl, .int 0, .long 0, .int 0, .int 0, .ref aHs, .int 0, .ref aWk, .int 0, .ref aBk, .int 0, .ref aFc])), (aHl, .inr (7, [.int 3, .int 0, .ref bW, .ref bA, .ref bE, .ref bC, .int 0, .null, .int 0, .int 0, .int 0])), (aFc, .inl (cFc, 6, .inl (fun _ => 0)))]) [0, 1, 2, 3] rfl
  have hDc := hD.sub (ws' := [(h0, .inr (13, [.ref sc, .ref kp, .int 0, .ref bl, .ref go, .ref ch, .ref bo])), (sc, .inr (10, [.ref aTp, .int 0, .ref aHl, .int 0, .long 0, .int 0, .int 0, .ref aHs, .int 0, .ref aWk, .int 0, .ref aBk, .int 0, .ref aFc])), (aHl, .inr (7, [.int 3, .int 0, .ref bW, .ref bA, .ref bE, .ref bC, .int 0, .null, .int 0, .int 0, .int 0])), (aFc, .inl (cFc, 6, .inl (fun _ => 0)))]) [0, 1, 2, 3] (by decide) rfl
  have hKc := hK.sub (tys' := [(cFc, .int)]) [0] rfl
  have hFc := va_free (wc := [(h0, .inr (13, [.ref sc, .ref kp, .int 0, .ref bl, .ref go, .ref ch, .ref bo])), (sc, .inr (10, [.ref aTp, .int 0, .ref aHl, .int 0, .long 0, .int 0, .int 0, .ref aHs, .int 0, .ref aWk, .int 0, .ref aBk, .int 0, .ref aFc])), (aHl, .inr (7, [.int 3, .int 0, .ref bW, .ref bA, .ref bE, .ref bC, .int 0, .null, .int 0, .int 0, .int 0])), (aFc, .inl (cFc, 6, .inl (fun _ => 0)))]) hD hS hA [0, 1, 2, 3] rfl
  refine va_calli (va_runV (As := [.int (xs 1)]) (rest := []) ⟨hx, hb, hml, hown, hts⟩ (c_xDrift l dC dI gd h0 sc kp bl go ch bo aTp aHl aHs aWk aBk aFc bW bA bE bC cFc (fun _ => 0) (xs 1) H.size) (cwV 1 hts gL_law_X11_drift rfl rfl rfl (by decide +kernel) ⟨Nat.le_of_ble_eq_true rfl, Nat.le_of_ble_eq_true rfl⟩) ⟨fun a U g mk q => by obtain ⟨q0, q1, qP, qK, qD, qhG⟩ := q; exact ⟨q0, q1, qP, va_K.moved (u := U) (U := U.calling g mk a) (Vm.Alike.refl U.vm) qK, qD, qhG.same rfl rfl⟩, va_recv hK hP (ci := 13) (q0 := 0) rfl rfl, fun U hU hW => ⟨rfl, by rw [hU], by rw [hU]; exact hPc, va_K.moved hW.alike hKc, hDc.weaken (fun _ _ _ _ => trivial), hG.call hS hU hW (fun q h => hFc q h)⟩⟩ rfl rfl hl.1 rfl (lv_room (Nat.le_of_ble_eq_true rfl)) dL_law_617 ⟨Nat.le_of_ble_eq_true rfl, Nat.le_of_ble_eq_true rfl⟩) hS (fun q _ h => hFc q h) hFc (fun r_1 u tC H1 locs htC hvm hw_2 hB hz1 hk1 hS => ?_)
  obtain ⟨⟩ := u
  try dsimp only at hw_2 hB
  obtain ⟨hP, hD⟩ := va_join (wr := [(m0, .inr (14, [.int 0, .ref aS, .ref aI, .int 0, .int 0, .int 0, .int 0, .int 0, .int 0, .ref aB, .ref aT, .int 0, .int 0, .ref aG, .ref aO, .ref aN, .ref aD, .long 0, .ref aY, .int 0, .int 0, .int 0, .int 0])), (aS, .inl (cS, 901, .inl s0)), (aB, .inl (cB, 6, .inl (fun _ => 0)))]) (w1 := []) hP hD [0, 1, 2, 3] [4, 5, 6] rfl rfl (by decide) (by decide) hk1 hFc (fun k q h => by simp at h) ⟨fun i j p q h => by simp at h, fun k q h => by simp at h⟩
  have hK := hK.sub (tys' := [(cS, .int), (cB, .int)]) [1, 2] rfl
  generalize H1 = H at hP hS ⊢
  have hP : va_P (dC, dI) vwCl [(m0, .inr (14, [.int 0, .ref aS, .ref aI, .int 0, .int 0, .int 0, .int 0, .int 0, .int 0, .ref aB, .ref aT, .int 0, .int 0, .ref aG, .ref aO, .ref aN, .ref aD, .long 0, .ref aY, .int 0, .int 0, .int 0, .int 0])), (aS, .inl (cS, 901, .inl s0)), (aB, .inl (cB, 6, .inl (fun _ => 0)))] H := hP
  have hD : va_D A [(m0, .inr (14, [.int 0, .ref aS, .ref aI, .int 0, .int 0, .int 0, .int 0, .int 0, .int 0, .ref aB, .ref aT, .int 0, .int 0, .ref aG, .ref aO, .ref aN, .ref aD, .long 0, .ref aY, .int 0, .int 0, .int 0, .int 0])), (aS, .inl (cS, 901, .inl s0)), (aB, .inl (cB, 6, .inl (fun _ => 0)))] := hD
  have hK : va_K (dC, dI) vwCl [(cS, .int), (cB, .int)] s := hK
  refine lv_aload_n hx hb dL_law_620 rfl (lv_at hl 2 rfl) ?_
  refine lv_aload_n hx hb dL_law_621 rfl (lv_at hl 0 rfl) ?_
  refine lv_iload_n hx hb dL_law_622 rfl (lv_at hl 3 rfl) ?_
  refine lv_iconst (v := 1) hx hb dL_law_623 (by decide) ?_
  refine lv_iadd hx hb dL_law_624 ?_
  refine qi_as (y := 1) (by decide) ?_
  refine va_sld hx hb hX hbl hbA hS (vp_in_nI (n := 1) (N := 5) (by omega) (by omega)) dL_law_625 ?_
  refine qi_as (y := xs 1) (by rfl) ?_
  have hPc := hP.sub (ws' := [(m0, .inr (14, [.int 0, .ref aS, .ref aI, .int 0, .int 0, .int 0, .int 0, .int 0, .int 0, .ref aB, .ref aT, .int 0, .int 0, .ref aG, .ref aO, .ref aN, .ref aD, .long 0, .ref aY, .int 0, .int 0, .int 0, .int 0])), (aS, .inl (cS, 901, .inl s0)), (aB, .inl (cB, 6, .inl (fun _ => 0)))]) [0, 1, 2] rfl
  have hDc := hD.sub (ws' := [(m0, .inr (14, [.int 0, .ref aS, .ref aI, .int 0, .int 0, .int 0, .int 0, .int 0, .int 0, .ref aB, .ref aT, .int 0, .int 0, .ref aG, .ref aO, .ref aN, .ref aD, .long 0, .ref aY, .int 0, .int 0, .int 0, .int 0])), (aS, .inl (cS, 901, .inl s0)), (aB, .inl (cB, 6, .inl (fun _ => 0)))]) [0, 1, 2] (by decide) rfl
  have hKc := hK.sub (tys' := [(cS, .int), (cB, .int)]) [0, 1] rfl
  have hFc := va_free (wc := [(m0, .inr (14, [.int 0, .ref aS, .ref aI, .int 0, .int 0, .int 0, .int 0, .int 0, .int 0, .ref aB, .ref aT, .int 0, .int 0, .ref aG, .ref aO, .ref aN, .ref aD, .long 0, .ref aY, .int 0, .int 0, .int 0, .int 0])), (aS, .inl (cS, 901, .inl s0)), (aB, .inl (cB, 6, .inl (fun _ => 0)))]) hD hS hA [0, 1, 2] rfl
  refine va_calli (va_runV (As := [.int (xs 1)]) (rest := [.int r_1]) ⟨hx, hb, hml, hown, hts⟩ (c_mDrift l dC dI m0 aS aI aB aT aG aO aN aD aY 0 cS cB (fun _ => 0) (xs 1) H.size) (cwV 1 hts gL_law_X12_drift rfl rfl rfl (by decide +kernel) ⟨Nat.le_of_ble_eq_true rfl, Nat.le_of_ble_eq_true rfl⟩) ⟨fun a U g mk q => by obtain ⟨q0, q1, qP, qK, qD⟩ := q; exact ⟨q0, q1, qP, va_K.moved (u := U) (U := U.calling g mk a) (Vm.Alike.refl U.vm) qK, qD⟩, va_recv hK hP (ci := 14) (q0 := 0) rfl rfl, fun U hU hW => ⟨rfl, by rw [hU], by rw [hU]; exact hPc, va_K.moved hW.alike hKc, hDc.weaken (fun _ _ _ _ => trivial)⟩⟩ rfl rfl hl.1 rfl (lv_room (Nat.le_of_ble_eq_true rfl)) dL_law_626 ⟨Nat.le_of_ble_eq_true rfl, Nat.le_of_ble_eq_true rfl⟩) hS (fun q _ h => hFc q h) hFc (fun r_3 u tC H1 locs htC hvm hw_4 hB hz1 hk1 hS => ?_)
  obtain ⟨⟩ := u
  try dsimp only at hw_4 hB
  obtain ⟨hP, hD⟩ := va_join (wr := []) (w1 := []) hP hD [0, 1, 2] [] rfl rfl (by decide) (by decide) hk1 hFc (fun k q h => by simp at h) ⟨fun i j p q h => by simp at h, fun k q h => by simp at h⟩
  have hK := hK.sub (tys' := []) [] rfl
  generalize H1 = H at hP hS ⊢
  have hP : va_P (dC, dI) vwCl [] H := hP
  have hD : va_D A [] := hD
  have hK : va_K (dC, dI) vwCl [] s := hK
  refine lv_icmp_eq (tgt := 1111) hx hb dL_law_629 (by decide) (fun c_5 => ?_) (fun c_5 => absurd c_5 (not_not_intro (hw_2.trans hw_4.symm)))
  exact law_end hAe C0 (by decide) (by decide) hS (lv_sub hl [0, 3] rfl)

set_option maxHeartbeats 4000000 in
set_option maxRecDepth 100000 in
theorem lc_15 {p : Program} {l : Launch} {e : Env} {s : State} {m : MethodId} {below : List Frame} {meth : Method} {c : Code} {b : Nat} {xs : Nat → Int32} {A : Nat → Prop} (hAe : A = fun q => s.heap.size ≤ q) (C0 : lw_At p s m meth c b 5 xs) (dC : Nat → ClassId) (dI : Nat → Nat → Nat) (h0 sc kp bl go ch bo aTp aHl aHs aWk aBk aFc bW bA bE bC kTp kHl kHs kWk kBk kFc kbW kbA kbE kbC eW eA eE eC gR gO gS dr tO hO bS m0 aS aI aB aT aG aO aN aD aY : Nat) (rt rh gd sK sV : Nat → Nat) (cTp cHs cWk cBk cFc kcTp kcHs kcWk kcBk kcFc cD cTO cHO cT cH cS cI cB cO cN cDm : ClassId) (hK : va_K (dC, dI) vwCl [(cWk, .int), (cS, .int)] s) (H : Heap) (locs : List Loc) (hP : va_P (dC, dI) vwCl [(h0, .inr (13, [.ref sc, .ref kp, .int 0, .ref bl, .ref go, .ref ch, .ref bo])), (sc, .inr (10, [.ref aTp, .int 0, .ref aHl, .int 0, .long 0, .int 0, .int 0, .ref aHs, .int 0, .ref aWk, .int 0, .ref aBk, .int 0, .ref aFc])), (aWk, .inl (cWk, 6, .inl (fun _ => 0))), (m0, .inr (14, [.int 0, .ref aS, .ref aI, .int 0, .int 0, .int 0, .int 0, .int 0, .int 0, .ref aB, .ref aT, .int 0, .int 0, .ref aG, .ref aO, .ref aN, .ref aD, .long 0, .ref aY, .int 0, .int 0, .int 0, .int 0])), (aS, .inl (cS, 901, .inl s0))] H) (hD : va_D A [(h0, .inr (13, [.ref sc, .ref kp, .int 0, .ref bl, .ref go, .ref ch, .ref bo])), (sc, .inr (10, [.ref aTp, .int 0, .ref aHl, .int 0, .long 0, .int 0, .int 0, .ref aHs, .int 0, .ref aWk, .int 0, .ref aBk, .int 0, .ref aFc])), (aWk, .inl (cWk, 6, .inl (fun _ => 0))), (m0, .inr (14, [.int 0, .ref aS, .ref aI, .int 0, .int 0, .int 0, .int 0, .int 0, .int 0, .ref aB, .ref aT, .int 0, .int 0, .ref aG, .ref aO, .ref aN, .ref aD, .long 0, .ref aY, .int 0, .int 0, .int 0, .int 0])), (aS, .inl (cS, 901, .inl s0))]) (hS : va_S A s.heap H locs) (ls : Array Slot) (hl : lv_has ls 4 [(0, .ref b), (1, .ref h0), (2, .ref m0), (3, .int 0)]) : W p l e room_1 s m #[Value.ref b] below meth c H locs 58 3229 (lw_Z below #[Value.ref b] s) (F0 m 634 ls []) := by
  obtain ⟨hx, hb, hr, hml, hown, hts0, hX, hbl, hlocks, hgv⟩ := id C0
  have hown : s.vm.findClass RL = some m.cls := hown
  have hb : c.code = cL_law := hb
  have hts : ∀ w ∈ wsL_law, w.before #[Value.ref b] s = true := fun w h => hts0 w (wsL_law_in w h)
  have hA : ∀ q : Nat, s.heap.size ≤ q → A q := fun q h => by rw [hAe]; exact h
  have hbA : ¬ A b := by rw [hAe]; exact Nat.not_le.mpr hbl
  refine lv_aload_n hx hb dL_law_634 rfl (lv_at hl 1 rfl) ?_
  refine lv_aload_n hx hb dL_law_635 rfl (lv_at hl 0 rfl) ?_
  refine lv_iload_n hx hb dL_law_636 rfl (lv_at hl 3 rfl) ?_
  refine lv_iconst (v := 1) hx hb dL_law_637 (by decide) ?_
  refine lv_iadd hx hb dL_law_638 ?_
  refine qi_as (y := 1) (by decide) ?_
  refine va_sld hx hb hX hbl hbA hS (vp_in_nI (n := 1) (N := 5) (by omega) (by omega)) dL_law_639 ?_
  refine qi_as (y := xs 1) (by rfl) ?_
  have hPc := hP.sub (ws' := [(h0, .inr (13, [.ref sc, .ref kp, .int 0, .ref bl, .ref go, .ref ch, .ref bo])), (sc, .inr (10, [.ref aTp, .int 0, .ref aHl, .int 0, .long 0, .int 0, .int 0, .ref aHs, .int 0, .ref aWk, .int 0, .ref aBk, .int 0, .ref aFc])), (aWk, .inl (cWk, 6, .inl (fun _ => 0)))]) [0, 1, 2] rfl
  have hDc := hD.sub (ws' := [(h0, .inr (13, [.ref sc, .ref kp, .int 0, .ref bl, .ref go, .ref ch, .ref bo])), (sc, .inr (10, [.ref aTp, .int 0, .ref aHl, .int 0, .long 0, .int 0, .int 0, .ref aHs, .int 0, .ref aWk, .int 0, .ref aBk, .int 0, .ref aFc])), (aWk, .inl (cWk, 6, .inl (fun _ => 0)))]) [0, 1, 2] (by decide) rfl
  have hKc := hK.sub (tys' := [(cWk, .int)]) [0] rfl
  have hFc := va_free (wc := [(h0, .inr (13, [.ref sc, .ref kp, .int 0, .ref bl, .ref go, .ref ch, .ref bo])), (sc, .inr (10, [.ref aTp, .int 0, .ref aHl, .int 0, .long 0, .int 0, .int 0, .ref aHs, .int 0, .ref aWk, .int 0, .ref aBk, .int 0, .ref aFc])), (aWk, .inl (cWk, 6, .inl (fun _ => 0)))]) hD hS hA [0, 1, 2] rfl
  refine va_calli (va_runV (As := [.int (xs 1)]) (rest := []) ⟨hx, hb, hml, hown, hts⟩ (c_xWalk l dC dI h0 sc kp bl go ch bo aTp aHl aHs aWk aBk aFc cWk (fun _ => 0) (xs 1) H.size) (cwV 1 hts gL_law_X11_walk rfl rfl rfl (by decide +kernel) ⟨Nat.le_of_ble_eq_true rfl, Nat.le_of_ble_eq_true rfl⟩) ⟨fun a U g mk q => by obtain ⟨q0, q1, qP, qK, qD⟩ := q; exact ⟨q0, q1, qP, va_K.moved (u := U) (U := U.calling g mk a) (Vm.Alike.refl U.vm) qK, qD⟩, va_recv hK hP (ci := 13) (q0 := 0) rfl rfl, fun U hU hW => ⟨rfl, by rw [hU], by rw [hU]; exact hPc, va_K.moved hW.alike hKc, hDc.weaken (fun _ _ _ _ => trivial)⟩⟩ rfl rfl hl.1 rfl (lv_room (Nat.le_of_ble_eq_true rfl)) dL_law_640 ⟨Nat.le_of_ble_eq_true rfl, Nat.le_of_ble_eq_true rfl⟩) hS (fun q _ h => hFc q h) hFc (fun r_1 u tC H1 locs htC hvm hw_2 hB hz1 hk1 hS => ?_)
  obtain ⟨⟩ := u
  try dsimp only at hw_2 hB
  obtain ⟨hP, hD⟩ := va_join (wr := [(m0, .inr (14, [.int 0, .ref aS, .ref aI, .int 0, .int 0, .int 0, .int 0, .int 0, .int 0, .ref aB, .ref aT, .int 0, .int 0, .ref aG, .ref aO, .ref aN, .ref aD, .long 0, .ref aY, .int 0, .int 0, .int 0, .int 0])), (aS, .inl (cS, 901, .inl s0))]) (w1 := []) hP hD [0, 1, 2] [3, 4] rfl rfl (by decide) (by decide) hk1 hFc (fun k q h => by simp at h) ⟨fun i j p q h => by simp at h, fun k q h => by simp at h⟩
  have hK := hK.sub (tys' := [(cS, .int)]) [1] rfl
  generalize H1 = H at hP hS ⊢
  have hP : va_P (dC, dI) vwCl [(m0, .inr (14, [.int 0, .ref aS, .ref aI, .int 0, .int 0, .int 0, .int 0, .int 0, .int 0, .ref aB, .ref aT, .int 0, .int 0, .ref aG, .ref aO, .ref aN, .ref aD, .long 0, .ref aY, .int 0, .int 0, .int 0, .int 0])), (aS, .inl (cS, 901, .inl s0))] H := hP
  have hD : va_D A [(m0, .inr (14, [.int 0, .ref aS, .ref aI, .int 0, .int 0, .int 0, .int 0, .int 0, .int 0, .ref aB, .ref aT, .int 0, .int 0, .ref aG, .ref aO, .ref aN, .ref aD, .long 0, .ref aY, .int 0, .int 0, .int 0, .int 0])), (aS, .inl (cS, 901, .inl s0))] := hD
  have hK : va_K (dC, dI) vwCl [(cS, .int)] s := hK
  refine lv_aload_n hx hb dL_law_643 rfl (lv_at hl 2 rfl) ?_
  refine lv_aload_n hx hb dL_law_644 rfl (lv_at hl 0 rfl) ?_
  refine lv_iload_n hx hb dL_law_645 rfl (lv_at hl 3 rfl) ?_
  refine lv_iconst (v := 1) hx hb dL_law_646 (by decide) ?_
  refine lv_iadd hx hb dL_law_647 ?_
  refine qi_as (y := 1) (by decide) ?_
  refine va_sld hx hb hX hbl hbA hS (vp_in_nI (n := 1) (N := 5) (by omega) (by omega)) dL_law_648 ?_
  refine qi_as (y := xs 1) (by rfl) ?_
  have hPc := hP.sub (ws' := [(m0, .inr (14, [.int 0, .ref aS, .ref aI, .int 0, .int 0, .int 0, .int 0, .int 0, .int 0, .ref aB, .ref aT, .int 0, .int 0, .ref aG, .ref aO, .ref aN, .ref aD, .long 0, .ref aY, .int 0, .int 0, .int 0, .int 0])), (aS, .inl (cS, 901, .inl s0))]) [0, 1] rfl
  have hDc := hD.sub (ws' := [(m0, .inr (14, [.int 0, .ref aS, .ref aI, .int 0, .int 0, .int 0, .int 0, .int 0, .int 0, .ref aB, .ref aT, .int 0, .int 0, .ref aG, .ref aO, .ref aN, .ref aD, .long 0, .ref aY, .int 0, .int 0, .int 0, .int 0])), (aS, .inl (cS, 901, .inl s0))]) [0, 1] (by decide) rfl
  have hKc := hK.sub (tys' := [(cS, .int)]) [0] rfl
  have hFc := va_free (wc := [(m0, .inr (14, [.int 0, .ref aS, .ref aI, .int 0, .int 0, .int 0, .int 0, .int 0, .int 0, .ref aB, .ref aT, .int 0, .int 0, .ref aG, .ref aO, .ref aN, .ref aD, .long 0, .ref aY, .int 0, .int 0, .int 0, .int 0])), (aS, .inl (cS, 901, .inl s0))]) hD hS hA [0, 1] rfl
  refine va_calli (va_runV (As := [.int (xs 1)]) (rest := [.int r_1]) ⟨hx, hb, hml, hown, hts⟩ (c_mWalk l dC dI m0 aS aI aB aT aG aO aN aD aY cS (xs 1) H.size) (cwV 1 hts gL_law_X12_walk rfl rfl rfl (by decide +kernel) ⟨Nat.le_of_ble_eq_true rfl, Nat.le_of_ble_eq_true rfl⟩) ⟨fun a U g mk q => by obtain ⟨q0, q1, qP, qK, qD⟩ := q; exact ⟨q0, q1, qP, va_K.moved (u := U) (U := U.calling g mk a) (Vm.Alike.refl U.vm) qK, qD⟩, va_recv hK hP (ci := 14) (q0 := 0) rfl rfl, fun U hU hW => ⟨rfl, by rw [hU], by rw [hU]; exact hPc, va_K.moved hW.alike hKc, hDc.weaken (fun _ _ _ _ => trivial)⟩⟩ rfl rfl hl.1 rfl (lv_room (Nat.le_of_ble_eq_true rfl)) dL_law_649 ⟨Nat.le_of_ble_eq_true rfl, Nat.le_of_ble_eq_true rfl⟩) hS (fun q _ h => hFc q h) hFc (fun r_3 u tC H1 locs htC hvm hw_4 hB hz1 hk1 hS => ?_)
  obtain ⟨⟩ := u
  try dsimp only at hw_4 hB
  obtain ⟨hP, hD⟩ := va_join (wr := []) (w1 := []) hP hD [0, 1] [] rfl rfl (by decide) (by decide) hk1 hFc (fun k q h => by simp at h) ⟨fun i j p q h => by simp at h, fun k q h => by simp at h⟩
  have hK := hK.sub (tys' := []) [] rfl
  generalize H1 = H at hP hS ⊢
  have hP : va_P (dC, dI) vwCl [] H := hP
  have hD : va_D A [] := hD
  have hK : va_K (dC, dI) vwCl [] s := hK
  refine lv_icmp_eq (tgt := 1111) hx hb dL_law_652 (by decide) (fun c_5 => ?_) (fun c_5 => absurd c_5 (not_not_intro (hw_2.trans hw_4.symm)))
  exact law_end hAe C0 (by decide) (by decide) hS (lv_sub hl [0, 3] rfl)
