theorem dL_law_884 : decode cL_law 884 = .ok (.aload_n 1, 1) := by decide +kernel
theorem dL_law_885 : decode cL_law 885 = .ok (.aload_n 0, 1) := by decide +kernel
theorem dL_law_886 : decode cL_law 886 = .ok (.iload_n 3, 1) := by decide +kernel
theorem dL_law_887 : decode cL_law 887 = .ok (.iconst 1, 1) := by decide +kernel
theorem dL_law_888 : decode cL_law 888 = .ok (.iadd, 1) := by decide +kernel
theorem dL_law_889 : decode cL_law 889 = .ok (.iaload, 1) := by decide +kernel
theorem dL_law_890 : decode cL_law 890 = .ok (.aload_n 0, 1) := by decide +kernel
theorem dL_law_891 : decode cL_law 891 = .ok (.iload_n 3, 1) := by decide +kernel
theorem dL_law_892 : decode cL_law 892 = .ok (.iconst 2, 1) := by decide +kernel
theorem dL_law_893 : decode cL_law 893 = .ok (.iadd, 1) := by decide +kernel
theorem dL_law_894 : decode cL_law 894 = .ok (.iaload, 1) := by decide +kernel
theorem dL_law_895 : decode cL_law 895 = .ok (.aload_n 0, 1) := by decide +kernel
theorem dL_law_896 : decode cL_law 896 = .ok (.iload_n 3, 1) := by decide +kernel
theorem dL_law_897 : decode cL_law 897 = .ok (.iconst 3, 1) := by decide +kernel
theorem dL_law_898 : decode cL_law 898 = .ok (.iadd, 1) := by decide +kernel
theorem dL_law_899 : decode cL_law 899 = .ok (.iaload, 1) := by decide +kernel
set_option maxRecDepth 20000 in
theorem ggL_law_X11_next_c0 : GoodIn wsL_law ((wsX11_next).take 40) := goodIn_r _ [945, 16, 488, 489, 490, 491, 15, 492, 418, 44, 594, 505, 2, 506, 595, 507, 508, 827, 828, 829, 1236, 1237, 1238, 1239, 1240, 1241, 1242, 1307, 1308, 1309, 1310, 1303, 1304, 1305, 1306, 1311, 1312, 1313, 1314, 1315] (by decide +kernel) (by decide +kernel)
set_option maxRecDepth 20000 in
theorem ggL_law_X11_next_c1 : GoodIn wsL_law ((wsX11_next).drop 40) := goodIn_r _ [1316, 1317, 1318, 1319, 1320, 1321, 1322, 1323, 1324, 1325, 1326, 1327, 1328, 1329, 1330, 1266, 1267, 1268, 1269, 1270, 1271, 1272, 1273, 1274, 1275, 1276, 1277, 1278, 1279] (by decide +kernel) (by decide +kernel)
theorem ggL_law_X11_next : GoodIn wsL_law wsX11_next := goodIn_td 40 ggL_law_X11_next_c0 (ggL_law_X11_next_c1)
set_option maxRecDepth 20000 in
theorem gL_law_X11_next : GoodIn wsL_law (wsV RL 108 RX11 yX11_next wsX11_next) := goodIn_app (goodIn_of _ (by decide +kernel)) ggL_law_X11_next
theorem dL_law_900 : decode cL_law 900 = .ok (.invokevirtual 108, 3) := by decide +kernel
theorem dL_law_903 : decode cL_law 903 = .ok (.aload_n 2, 1) := by decide +kernel
theorem dL_law_904 : decode cL_law 904 = .ok (.aload_n 0, 1) := by decide +kernel
theorem dL_law_905 : decode cL_law 905 = .ok (.iload_n 3, 1) := by decide +kernel
theorem dL_law_906 : decode cL_law 906 = .ok (.iconst 1, 1) := by decide +kernel
theorem dL_law_907 : decode cL_law 907 = .ok (.iadd, 1) := by decide +kernel
theorem dL_law_908 : decode cL_law 908 = .ok (.iaload, 1) := by decide +kernel
theorem dL_law_909 : decode cL_law 909 = .ok (.aload_n 0, 1) := by decide +kernel
theorem dL_law_910 : decode cL_law 910 = .ok (.iload_n 3, 1) := by decide +kernel
theorem dL_law_911 : decode cL_law 911 = .ok (.iconst 2, 1) := by decide +kernel
theorem dL_law_912 : decode cL_law 912 = .ok (.iadd, 1) := by decide +kernel
theorem dL_law_913 : decode cL_law 913 = .ok (.iaload, 1) := by decide +kernel
theorem dL_law_914 : decode cL_law 914 = .ok (.aload_n 0, 1) := by decide +kernel
theorem dL_law_915 : decode cL_law 915 = .ok (.iload_n 3, 1) := by decide +kernel
theorem dL_law_916 : decode cL_law 916 = .ok (.iconst 3, 1) := by decide +kernel
theorem dL_law_917 : decode cL_law 917 = .ok (.iadd, 1) := by decide +kernel
theorem dL_law_918 : decode cL_law 918 = .ok (.iaload, 1) := by decide +kernel
set_option maxRecDepth 20000 in
theorem ggL_law_X12_next : GoodIn wsL_law wsX12_next := goodIn_r _ [949, 105, 558, 559, 560, 5, 561, 125, 126, 127, 1243, 1244, 1245, 1246, 1247, 1248, 1249, 1250, 1251, 1252, 1253, 1254, 1255, 1256, 1257, 1258, 1259, 1260, 1261, 1262, 1263, 1264, 1265] (by decide +kernel) (by decide +kernel)
set_option maxRecDepth 20000 in
theorem gL_law_X12_next : GoodIn wsL_law (wsV RL 111 RX12 yX12_next wsX12_next) := goodIn_app (goodIn_of _ (by decide +kernel)) ggL_law_X12_next
theorem dL_law_919 : decode cL_law 919 = .ok (.invokevirtual 111, 3) := by decide +kernel
theorem dL_law_922 : decode cL_law 922 = .ok (.if_icmp .eq 189, 3) := by decide +kernel
theorem dL_law_927 : decode cL_law 927 = .ok (.aload_n 1, 1) := by decide +kernel
theorem dL_law_928 : decode cL_law 928 = .ok (.aload_n 0, 1) := by decide +kernel
theorem dL_law_929 : decode cL_law 929 = .ok (.iload_n 3, 1) := by decide +kernel
theorem dL_law_930 : decode cL_law 930 = .ok (.iconst 1, 1) := by decide +kernel
theorem dL_law_931 : decode cL_law 931 = .ok (.iadd, 1) := by decide +kernel
theorem dL_law_932 : decode cL_law 932 = .ok (.iaload, 1) := by decide +kernel
set_option maxRecDepth 20000 in
theorem ggL_law_X11_book : GoodIn wsL_law wsX11_book := goodIn_r _ [953, 16, 954, 955, 489, 490, 491, 15, 492, 418, 44, 1236, 1237, 1238, 1239, 1240, 1241, 1242, 1266, 1267, 1268, 1269, 1270, 1271, 1272, 1273, 1274, 1275, 1276, 1277, 1278, 1279] (by decide +kernel) (by decide +kernel)
set_option maxRecDepth 20000 in
theorem gL_law_X11_book : GoodIn wsL_law (wsV RL 112 RX11 yX11_book wsX11_book) := goodIn_app (goodIn_of _ (by decide +kernel)) ggL_law_X11_book
theorem dL_law_933 : decode cL_law 933 = .ok (.invokevirtual 112, 3) := by decide +kernel
theorem dL_law_936 : decode cL_law 936 = .ok (.aload_n 2, 1) := by decide +kernel
theorem dL_law_937 : decode cL_law 937 = .ok (.aload_n 0, 1) := by decide +kernel
theorem dL_law_938 : decode cL_law 938 = .ok (.iload_n 3, 1) := by decide +kernel
theorem dL_law_939 : decode cL_law 939 = .ok (.iconst 1, 1) := by decide +kernel
theorem dL_law_940 : decode cL_law 940 = .ok (.iadd, 1) := by decide +kernel
theorem dL_law_941 : decode cL_law 941 = .ok (.iaload, 1) := by decide +kernel
set_option maxRecDepth 20000 in
theorem ggL_law_X12_book : GoodIn wsL_law wsX12_book := goodIn_r _ [959, 105, 558, 559, 560, 5, 561, 125, 126, 127, 1243, 1244, 1245, 1246, 1247, 1248, 1249, 1250, 1251, 1252, 1253, 1254, 1255, 1256, 1257, 1258, 1259, 1260, 1261, 1262, 1263, 1264, 1265] (by decide +kernel) (by decide +kernel)
set_option maxRecDepth 20000 in
theorem gL_law_X12_book : GoodIn wsL_law (wsV RL 115 RX12 yX12_book wsX12_book) := goodIn_app (goodIn_of _ (by decide +kernel)) ggL_law_X12_book
theorem dL_law_942 : decode cL_law 942 = .ok (.invokevirtual 115, 3) := by decide +kernel
theorem dL_law_945 : decode cL_law 945 = .ok (.if_icmp .eq 166, 3) := by decide +kernel
set_option maxHeartbeats 4000000 in
set_option maxRecDepth 100000 in
theorem lc_21 {p : Program} {l : Launch} {e : Env} {s : State} {m : MethodId} {below : List Frame} {meth : Method} {c : Code} {b : Nat} {xs : Nat → Int32} {A : Nat → Prop} (hAe : A = fun q => s.heap.size ≤ q) (C0 : lw_At p s m meth c b 5 xs) (dC : Nat → ClassId) (dI : Nat → Nat → Nat) (h0 sc kp bl go ch bo aTp aHl aHs aWk aBk aFc bW bA bE bC kTp kHl kHs kWk kBk kFc kbW kbA kbE kbC eW eA eE eC gR gO gS dr tO hO bS m0 aS aI aB aT aG aO aN aD aY : Nat) (rt rh gd sK sV : Nat → Nat) (cTp cHs cWk cBk cFc kcTp kcHs kcWk kcBk kcFc cD cTO cHO cT cH cS cI cB cO cN cDm : ClassId) (hK : va_K (dC, dI) vwCl [(cS, .int)] s) (H : Heap) (locs : List Loc) (hP : va_P (dC, dI) vwCl [(h0, .inr (13, [.ref sc, .ref kp, .int 0, .ref bl, .ref go, .ref ch, .ref bo])), (sc, .inr (10, [.ref aTp, .int 0, .ref aHl, .int 0, .long 0, .int 0, .int 0, .ref aHs, .int 0, .ref aWk, .int 0, .ref aBk, .int 0, .ref aFc])), (m0, .inr (14, [.int 0, .ref aS, .ref aI, .int 0, .int 0, .int 0, .int 0, .int 0, .int 0, .ref aB, .ref aT, .int 0, .int 0, .ref aG, .ref aO, .ref aN, .ref aD, .long 0, .ref aY, .int 0, .int 0, .int 0, .int 0])), (aS, .inl (cS, 901, .inl s0))] H) (hD : va_D A [(h0, .inr (13, [.ref sc, .ref kp, .int 0, .ref bl, .ref go, .ref ch, .ref bo])), (sc, .inr (10, [.ref aTp, .int 0, .ref aHl, .int 0, .long 0, .int 0, .int 0, .ref aHs, .int 0, .ref aWk, .int 0, .ref aBk, .int 0, .ref aFc])), (m0, .inr (14, [.int 0, .ref aS, .ref aI, .int 0, .int 0, .int 0, .int 0, .int 0, .int 0, .ref aB, .ref aT, .int 0, .int 0, .ref aG, .ref aO, .ref aN, .ref aD, .long 0, .ref aY, .int 0, .int 0, .int 0, .int 0])), (aS, .inl (cS, 901, .inl s0))]) (hS : va_S A s.heap H locs) (ls : Array Slot) (hl : lv_has ls 4 [(0, .ref b), (1, .ref h0), (2, .ref m0), (3, .int 0)]) : W p l e room_1 s m #[Value.ref b] below meth c H locs 58 3229 (lw_Z below #[Value.ref b] s) (F0 m 884 ls []) := by
  obtain ⟨hx, hb, hr, hml, hown, hts0, hX, hbl, hlocks, hgv⟩ := id C0
  have hown : s.vm.findClass RL = some m.cls := hown
  have hb : c.code = cL_law := hb
  have hts : ∀ w ∈ wsL_law, w.before #[Value.ref b] s = true := fun w h => hts0 w (wsL_law_in w h)
  have hA : ∀ q : Nat, s.heap.size ≤ q → A q := fun q h => by rw [hAe]; exact h
  have hbA : ¬ A b := by rw [hAe]; exact Nat.not_le.mpr hbl
  refine lv_aload_n hx hb dL_law_884 rfl (lv_at hl 1 rfl) ?_
  refine lv_aload_n hx hb dL_law_885 rfl (lv_at hl 0 rfl) ?_
  refine lv_iload_n hx hb dL_law_886 rfl (lv_at hl 3 rfl) ?_
  refine lv_iconst (v := 1) hx hb dL_law_887 (by decide) ?_
  refine lv_iadd hx hb dL_law_888 ?_
  refine qi_as (y := 1) (by decide) ?_
  refine va_sld hx hb hX hbl hbA hS (vp_in_nI (n := 1) (N := 5) (by omega) (by omega)) dL_law_889 ?_
  refine qi_as (y := xs 1) (by rfl) ?_
  refine lv_aload_n hx hb dL_law_890 rfl (lv_at hl 0 rfl) ?_
  refine lv_iload_n hx hb dL_law_891 rfl (lv_at hl 3 rfl) ?_
  refine lv_iconst (v := 2) hx hb dL_law_892 (by decide) ?_
  refine lv_iadd hx hb dL_law_893 ?_
  refine qi_as (y := 2) (by decide) ?_
  refine va_sld hx hb hX hbl hbA hS (vp_in_nI (n := 2) (N := 5) (by omega) (by omega)) dL_law_894 ?_
  refine qi_as (y := xs 2) (by rfl) ?_
  refine lv_aload_n hx hb dL_law_895 rfl (lv_at hl 0 rfl) ?_
  refine lv_iload_n hx hb dL_law_896 rfl (lv_at hl 3 rfl) ?_
  refine lv_iconst (v := 3) hx hb dL_law_897 (by decide) ?_
  refine lv_iadd hx hb dL_law_898 ?_
  refine qi_as (y := 3) (by decide) ?_
  refine va_sld hx hb hX hbl hbA hS (vp_in_nI (n := 3) (N := 5) (by omega) (by omega)) dL_law_899 ?_
  refine qi_as (y := xs 3) (by rfl) ?_
  have hPc := hP.sub (ws' := [(h0, .inr (13, [.ref sc, .ref kp, .int 0, .ref bl, .ref go, .ref ch, .ref bo])), (sc, .inr (10, [.ref aTp, .int 0, .ref aHl, .int 0, .long 0, .int 0, .int 0, .ref aHs, .int 0, .ref aWk, .int 0, .ref aBk, .int 0, .ref aFc]))]) [0, 1] rfl
  have hKc := hK.sub (tys' := []) [] rfl
  refine vp_callSi (va_runV (As := [.int (xs 1), .int (xs 2), .int (xs 3)]) (rest := []) ⟨hx, hb, hml, hown, hts⟩ (c_xNext l dC dI h0 sc kp bl go ch bo aTp aHl aHs aWk aBk aFc (xs 1) (xs 2) (xs 3)) (cwV 3 hts gL_law_X11_next rfl rfl rfl (by decide +kernel) ⟨Nat.le_of_ble_eq_true rfl, Nat.le_of_ble_eq_true rfl⟩) ⟨fun a U g mk q => by obtain ⟨q0, qP, qK⟩ := q; exact ⟨q0, qP, va_K.moved (u := U) (U := U.calling g mk a) (Vm.Alike.refl U.vm) qK⟩, va_recv hK hP (ci := 13) (q0 := 0) rfl rfl, fun U hU hW => ⟨rfl, by rw [hU]; exact hPc, va_K.moved hW.alike hKc⟩⟩ rfl rfl hl.1 rfl (lv_room (Nat.le_of_ble_eq_true rfl)) dL_law_900 ⟨Nat.le_of_ble_eq_true rfl, Nat.le_of_ble_eq_true rfl⟩).run (fun r_1 hw_2 => ?_)
  refine lv_aload_n hx hb dL_law_903 rfl (lv_at hl 2 rfl) ?_
  refine lv_aload_n hx hb dL_law_904 rfl (lv_at hl 0 rfl) ?_
  refine lv_iload_n hx hb dL_law_905 rfl (lv_at hl 3 rfl) ?_
  refine lv_iconst (v := 1) hx hb dL_law_906 (by decide) ?_
  refine lv_iadd hx hb dL_law_907 ?_
  refine qi_as (y := 1) (by decide) ?_
  refine va_sld hx hb hX hbl hbA hS (vp_in_nI (n := 1) (N := 5) (by omega) (by omega)) dL_law_908 ?_
  refine qi_as (y := xs 1) (by rfl) ?_
  refine lv_aload_n hx hb dL_law_909 rfl (lv_at hl 0 rfl) ?_
  refine lv_iload_n hx hb dL_law_910 rfl (lv_at hl 3 rfl) ?_
  refine lv_iconst (v := 2) hx hb dL_law_911 (by decide) ?_
  refine lv_iadd hx hb dL_law_912 ?_
  refine qi_as (y := 2) (by decide) ?_
  refine va_sld hx hb hX hbl hbA hS (vp_in_nI (n := 2) (N := 5) (by omega) (by omega)) dL_law_913 ?_
  refine qi_as (y := xs 2) (by rfl) ?_
  refine lv_aload_n hx hb dL_law_914 rfl (lv_at hl 0 rfl) ?_
  refine lv_iload_n hx hb dL_law_915 rfl (lv_at hl 3 rfl) ?_
  refine lv_iconst (v := 3) hx hb dL_law_916 (by decide) ?_
  refine lv_iadd hx hb dL_law_917 ?_
  refine qi_as (y := 3) (by decide) ?_
  refine va_sld hx hb hX hbl hbA hS (vp_in_nI (n := 3) (N := 5) (by omega) (by omega)) dL_law_918 ?_
  refine qi_as (y := xs 3) (by rfl) ?_
  have hPc := hP.sub (ws' := [(m0, .inr (14, [.int 0, .ref aS, .ref aI, .int 0, .int 0, .int 0, .int 0, .int 0, .int 0, .ref aB, .ref aT, .int 0, .int 0, .ref aG, .ref aO, .ref aN, .ref aD, .long 0, .ref aY, .int 0, .int 0, .int 0, .int 0])), (aS, .inl (cS, 901, .inl s0))]) [2, 3] rfl
  have hKc := hK.sub (tys' := [(cS, .int)]) [0] rfl
  refine vp_callSi (va_runV (As := [.int (xs 1), .int (xs 2), .int (xs 3)]) (rest := [.int r_1]) ⟨hx, hb, hml, hown, hts⟩ (c_mNext l dC dI m0 aS aI aB aT aG aO aN aD aY cS (xs 1) (xs 2) (xs 3)) (cwV 3 hts gL_law_X12_next rfl rfl rfl (by decide +kernel) ⟨Nat.le_of_ble_eq_true rfl, Nat.le_of_ble_eq_true rfl⟩) ⟨fun a U g mk q => by obtain ⟨q0, qP, qK⟩ := q; exact ⟨q0, qP, va_K.moved (u := U) (U := U.calling g mk a) (Vm.Alike.refl U.vm) qK⟩, va_recv hK hP (ci := 14) (q0 := 2) rfl rfl, fun U hU hW => ⟨rfl, by rw [hU]; exact hPc, va_K.moved hW.alike hKc⟩⟩ rfl rfl hl.1 rfl (lv_room (Nat.le_of_ble_eq_true rfl)) dL_law_919 ⟨Nat.le_of_ble_eq_true rfl, Nat.le_of_ble_eq_true rfl⟩).run (fun r_3 hw_4 => ?_)
  refine lv_icmp_eq (tgt := 1111) hx hb dL_law_922 (by decide) (fun c_5 => ?_) (fun c_5 => absurd c_5 (not_not_intro (hw_2.trans hw_4.symm)))
  exact law_end hAe C0 (by decide) (by decide) hS (lv_sub hl [0, 3] rfl)

set_option maxHeartbeats 4000000 in
set_option maxRecDepth 100000 in
theorem lc_22 {p : Program} {l : Launch} {e : Env} {s : State} {m : MethodId} {below : List Frame} {meth : Method} {c : Code} {b : Nat} {xs : Nat → Int32} {A : Nat → Prop} (hAe : A = fun q => s.heap.size ≤ q) (C0 : lw_At p s m meth c b 5 xs) (dC : Nat → ClassId) (dI : Nat → Nat → Nat) (h0 sc kp bl go ch bo aTp aHl aHs aWk aBk aFc bW bA bE bC kTp kHl kHs kWk kBk kFc kbW kbA kbE kbC eW eA eE eC gR gO gS dr tO hO bS m0 aS aI aB aT aG aO aN aD aY : Nat) (rt rh gd sK sV : Nat → Nat) (cTp cHs cWk cBk cFc kcTp kcHs kcWk kcBk kcFc cD cTO cHO cT cH cS cI cB cO cN cDm : ClassId) (hK : va_K (dC, dI) vwCl [(cS, .int)] s) (H : Heap) (locs : List Loc) (hP : va_P (dC, dI) vwCl [(h0, .inr (13, [.ref sc, .ref kp, .int 0, .ref bl, .ref go, .ref ch, .ref bo])), (sc, .inr (10, [.ref aTp, .int 0, .ref aHl, .int 0, .long 0, .int 0, .int 0, .ref aHs, .int 0, .ref aWk, .int 0, .ref aBk, .int 0, .ref aFc])), (m0, .inr (14, [.int 0, .ref aS, .ref aI, .int 0, .int 0, .int 0, .int 0, .int 0, .int 0, .ref aB, .ref aT, .int 0, .int 0, .ref aG, .ref aO, .ref aN, .ref aD, .long 0, .ref aY, .int 0, .int 0, .int 0, .int 0])), (aS, .inl (cS, 901, .inl s0))] H) (hD : va_D A [(h0, .inr (13, [.ref sc, .ref kp, .int 0, .ref bl, .ref go, .ref ch, .ref bo])), (sc, .inr (10, [.ref aTp, .int 0, .ref aHl, .int 0, .long 0, .int 0, .int 0, .ref aHs, .int 0, .ref aWk, .int 0, .ref aBk, .int 0, .ref aFc])), (m0, .inr (14, [.int 0, .ref aS, .ref aI, .int 0, .int 0, .int 0, .int 0, .int 0, .int 0, .ref aB, .ref aT, .int 0, .int 0, .ref aG, .ref aO, .ref aN, .ref aD, .long 0, .ref aY, .int 0, .int 0, .int 0, .int 0])), (aS, .inl (cS, 901, .inl s0))]) (hS : va_S A s.heap H locs) (ls : Array Slot) (hl : lv_has ls 4 [(0, .ref b), (1, .ref h0), (2, .ref m0), (3, .int 0)]) : W p l e room_1 s m #[Value.ref b] below meth c H locs 58 3229 (lw_Z below #[Value.ref b] s) (F0 m 927 ls []) := by
  obtain ⟨hx, hb, hr, hml, hown, hts0, hX, hbl, hlocks, hgv⟩ := id C0
  have hown : s.vm.findClass RL = some m.cls := hown
  have hb : c.code = cL_law := hb
  have hts : ∀ w ∈ wsL_law, w.before #[Value.ref b] s = true := fun w h => hts0 w (wsL_law_in w h)
  have hA : ∀ q : Nat, s.heap.size ≤ q → A q := fun q h => by rw [hAe]; exact h
  have hbA : ¬ A b := by rw [hAe]; exact Nat.not_le.mpr hbl
  refine lv_aload_n hx hb dL_law_927 rfl (lv_at hl 1 rfl) ?_
  refine lv_aload_n hx hb dL_law_928 rfl (lv_at hl 0 rfl) ?_
  refine lv_iload_n hx hb dL_law_929 rfl (lv_at hl 3 rfl) ?_
  refine lv_iconst (v := 1) hx hb dL_law_930 (by decide) ?_
  refine lv_iadd hx hb dL_law_931 ?_
  refine qi_as (y := 1) (by decide) ?_
  refine va_sld hx hb hX hbl hbA hS (vp_in_nI (n := 1) (N := 5) (by omega) (by omega)) dL_law_932 ?_
  refine qi_as (y := xs 1) (by rfl) ?_
  have hPc := hP.sub (ws' := [(h0, .inr (13, [.ref sc, .ref kp, .int 0, .ref bl, .ref go, .ref ch, .ref bo])), (sc, .inr (10, [.ref aTp, .int 0, .ref aHl, .int 0, .long 0, .int 0, .int 0, .ref aHs, .int 0, .ref aWk, .int 0, .ref aBk, .int 0, .ref aFc]))]) [0, 1] rfl
  have hDc := hD.sub (ws' := [(h0, .inr (13, [.ref sc, .ref kp, .int 0, .ref bl, .ref go, .ref ch, .ref bo])), (sc, .inr (10, [.ref aTp, .int 0, .ref aHl, .int 0, .long 0, .int 0, .int 0, .ref aHs, .int 0, .ref aWk, .int 0, .ref aBk, .int 0, .ref aFc]))]) [0, 1] (by decide) rfl
  have hKc := hK.sub (tys' := []) [] rfl
  have hFc := va_free (wc := [(h0, .inr (13, [.ref sc, .ref kp, .int 0, .ref bl, .ref go, .ref ch, .ref bo])), (sc, .inr (10, [.ref aTp, .int 0, .ref aHl, .int 0, .long 0, .int 0, .int 0, .ref aHs, .int 0, .ref aWk, .int 0, .ref aBk, .int 0, .ref aFc]))]) hD hS hA [0, 1] rfl
  refine va_calli (va_runV (As := [.int (xs 1)]) (rest := []) ⟨hx, hb, hml, hown, hts⟩ (c_xBook l dC dI h0 sc kp bl go ch bo aTp aHl aHs aWk aBk aFc (xs 1) H.size) (cwV 1 hts gL_law_X11_book rfl rfl rfl (by decide +kernel) ⟨Nat.le_of_ble_eq_true rfl, Nat.le_of_ble_eq_true rfl⟩) ⟨fun a U g mk q => by obtain ⟨q0, q1, qP, qK, qD⟩ := q; exact ⟨q0, q1, qP, va_K.moved (u := U) (U := U.calling g mk a) (Vm.Alike.refl U.vm) qK, qD⟩, va_recv hK hP (ci := 13) (q0 := 0) rfl rfl, fun U hU hW => ⟨rfl, by rw [hU], by rw [hU]; exact hPc, va_K.moved hW.alike hKc, hDc.weaken (fun _ _ _ _ => trivial)⟩⟩ rfl rfl hl.1 rfl (lv_room (Nat.le_of_ble_eq_true rfl)) dL_law_933 ⟨Nat.le_of_ble_eq_true rfl, Nat.le_of_ble_eq_true rfl⟩) hS (fun q _ h => hFc q h) hFc (fun r_1 u tC H1 locs htC hvm hw_2 hB hz1 hk1 hS => ?_)
  obtain ⟨⟩ := u
  try dsimp only at hw_2 hB
  obtain ⟨hP, hD⟩ := va_join (wr := [(m0, .inr (14, [.int 0, .ref aS, .ref aI, .int 0, .int 0, .int 0, .int 0, .int 0, .int 0, .ref aB, .ref aT, .int 0, .int 0, .ref aG, .ref aO, .ref aN, .ref aD, .long 0, .ref aY, .int 0, .int 0, .int 0, .int 0])), (aS, .inl (cS, 901, .inl s0))]) (w1 := []) hP hD [0, 1] [2, 3] rfl rfl (by decide) (by decide) hk1 hFc (fun k q h => by simp at h) ⟨fun i j p q h => by simp at h, fun k q h => by simp at h⟩
  have hK := hK.sub (tys' := [(cS, .int)]) [0] rfl
  generalize H1 = H at hP hS ⊢
  have hP : va_P (dC, dI) vwCl [(m0, .inr (14, [.int 0, .ref aS, .ref aI, .int 0, .int 0, .int 0, .int 0, .int 0, .int 0, .ref aB, .ref aT, .int 0, .int 0, .ref aG, .ref aO, .ref aN, .ref aD, .long 0, .ref aY, .int 0, .int 0, .int 0, .int 0])), (aS, .inl (cS, 901, .inl s0))] H := hP
  have hD : va_D A [(m0, .inr (14, [.int 0, .ref aS, .ref aI, .int 0, .int 0, .int 0, .int 0, .int 0, .int 0, .ref aB, .ref aT, .int 0, .int 0, .ref aG, .ref aO, .ref aN, .ref aD, .long 0, .ref aY, .int 0, .int 0, .int 0, .int 0])), (aS, .inl (cS, 901, .inl s0))] := hD
  have hK : va_K (dC, dI) vwCl [(cS, .int)] s := hK
  refine lv_aload_n hx hb dL_law_936 rfl (lv_at hl 2 rfl) ?_
  refine lv_aload_n hx hb dL_law_937 rfl (lv_at hl 0 rfl) ?_
  refine lv_iload_n hx hb dL_law_938 rfl (lv_at hl 3 rfl) ?_
  refine lv_iconst (v := 1) hx hb dL_law_939 (by decide) ?_
  refine lv_iadd hx hb dL_law_940 ?_
  refine qi_as (y := 1) (by decide) ?_
  refine va_sld hx hb hX hbl hbA hS (vp_in_nI (n := 1) (N := 5) (by omega) (by omega)) dL_law_941 ?_
  refine qi_as (y := xs 1) (by rfl) ?_
  have hPc := hP.sub (ws' := [(m0, .inr (14, [.int 0, .ref aS, .ref aI, .int 0, .int 0, .int 0, .int 0, .int 0, .int 0, .ref aB, .ref aT, .int 0, .int 0, .ref aG, .ref aO, .ref aN, .ref aD, .long 0, .ref aY, .int 0, .int 0, .int 0, .int 0])), (aS, .inl (cS, 901, .inl s0))]) [0, 1] rfl
  have hDc := hD.sub (ws' := [(m0, .inr (14, [.int 0, .ref aS, .ref aI, .int 0, .int 0, .int 0, .int 0, .int 0, .int 0, .ref aB, .ref aT, .int 0, .int 0, .ref aG, .ref aO, .ref aN, .ref aD, .long 0, .ref aY, .int 0, .int 0, .int 0, .int 0])), (aS, .inl (cS, 901, .inl s0))]) [0, 1] (by decide) rfl
  have hKc := hK.sub (tys' := [(cS, .int)]) [0] rfl
  have hFc := va_free (wc := [(m0, .inr (14, [.int 0, .ref aS, .ref aI, .int 0, .int 0, .int 0, .int 0, .int 0, .int 0, .ref aB, .ref aT, .int 0, .int 0, .ref aG, .ref aO, .ref aN, .ref aD, .long 0, .ref aY, .int 0, .int 0, .int 0, .int 0])), (aS, .inl (cS, 901, .inl s0))]) hD hS hA [0, 1] rfl
  refine va_calli (va_runV (As := [.int (xs 1)]) (rest := [.int r_1]) ⟨hx, hb, hml, hown, hts⟩ (c_mBook l dC dI m0 aS aI aB aT aG aO aN aD aY cS (xs 1) H.size) (cwV 1 hts gL_law_X12_book rfl rfl rfl (by decide +kernel) ⟨Nat.le_of_ble_eq_true rfl, Nat.le_of_ble_eq_true rfl⟩) ⟨fun a U g mk q => by obtain ⟨q0, q1, qP, qK, qD⟩ := q; exact ⟨q0, q1, qP, va_K.moved (u := U) (U := U.calling g mk a) (Vm.Alike.refl U.vm) qK, qD⟩, va_recv hK hP (ci := 14) (q0 := 0) rfl rfl, fun U hU hW => ⟨rfl, by rw [hU], by rw [hU]; exact hPc, va_K.moved hW.alike hKc, hDc.weaken (fun _ _ _ _ => trivial)⟩⟩ rfl rfl hl.1 rfl (lv_room (Nat.le_of_ble_eq_true rfl)) dL_law_942 ⟨Nat.le_of_ble_eq_true rfl, Nat.le_of_ble_eq_true rfl⟩) hS (fun q _ h => hFc q h) hFc (fun r_3 u tC H1 locs htC hvm hw_4 hB hz1 hk1 hS => ?_)
  obtain ⟨⟩ := u
  try dsimp only at hw_4 hB
  obtain ⟨hP, hD⟩ := va_join (wr := []) (w1 := []) hP hD [0, 1] [] rfl rfl (by decide) (by decide) hk1 hFc (fun k q h => by simp at h) ⟨fun i j p q h => by simp at h, fun k q h => by simp at h⟩
  have hK := hK.sub (tys' := []) [] rfl
  generalize H1 = H at hP hS ⊢
  have hP : va_P (dC, dI) vwCl [] H := hP
  have hD : va_D A [] := hD
  have hK : va_K (dC, dI) vwCl [] s := hK
  refine lv_icmp_eq (tgt := 1111) hx hb dL_law_945 (by decide) (fun c_5 => ?_) (fun c_5 => absurd c_5 (not_not_intro (hw_2.trans hw_4.symm)))
  exact law_end hAe C0 (by decide) (by decide) hS (lv_sub hl [0, 3] rfl)
