theorem dL_law_701 : decode cL_law 701 = .ok (.aload_n 1, 1) := by decide +kernel
theorem dL_law_702 : decode cL_law 702 = .ok (.aload_n 0, 1) := by decide +kernel
theorem dL_law_703 : decode cL_law 703 = .ok (.iload_n 3, 1) := by decide +kernel
theorem dL_law_704 : decode cL_law 704 = .ok (.iconst 1, 1) := by decide +kernel
theorem dL_law_705 : decode cL_law 705 = .ok (.iadd, 1) := by decide +kernel
theorem dL_law_706 : decode cL_law 706 = .ok (.iaload, 1) := by decide +kernel
theorem dL_law_707 : decode cL_law 707 = .ok (.aload_n 0, 1) := by decide +kernel
theorem dL_law_708 : decode cL_law 708 = .ok (.iload_n 3, 1) := by decide +kernel
theorem dL_law_709 : decode cL_law 709 = .ok (.iconst 2, 1) := by decide +kernel
theorem dL_law_710 : decode cL_law 710 = .ok (.iadd, 1) := by decide +kernel
theorem dL_law_711 : decode cL_law 711 = .ok (.iaload, 1) := by decide +kernel
theorem dL_law_712 : decode cL_law 712 = .ok (.aload_n 0, 1) := by decide +kernel
theorem dL_law_713 : decode cL_law 713 = .ok (.iload_n 3, 1) := by decide +kernel
theorem dL_law_714 : decode cL_law 714 = .ok (.iconst 3, 1) := by decide +kernel
theorem dL_law_715 : decode cL_law 715 = .ok (.iadd, 1) := by decide +kernel
theorem dL_law_716 : decode cL_law 716 = .ok (.iaload, 1) := by decide +kernel
theorem dL_law_717 : decode cL_law 717 = .ok (.aload_n 0, 1) := by decide +kernel
theorem dL_law_718 : decode cL_law 718 = .ok (.iload_n 3, 1) := by decide +kernel
theorem dL_law_719 : decode cL_law 719 = .ok (.iconst 4, 1) := by decide +kernel
theorem dL_law_720 : decode cL_law 720 = .ok (.iadd, 1) := by decide +kernel
theorem dL_law_721 : decode cL_law 721 = .ok (.iaload, 1) := by decide +kernel
set_option maxRecDepth 20000 in
theorem ggL_law_X11_best_c0 : GoodIn wsL_law ((wsX11_best).take 40) := goodIn_r _ [876, 30, 16, 411, 412, 2, 413, 877, 878, 879, 29, 880, 881, 882, 83, 810, 811, 812, 813, 80, 814, 771, 772, 15, 773, 774, 42, 47, 775, 257, 150, 258, 501, 502, 503, 504, 500, 505, 506, 507] (by decide +kernel) (by decide +kernel)
set_option maxRecDepth 20000 in
theorem ggL_law_X11_best_c1 : GoodIn wsL_law (((wsX11_best).drop 40).take 40) := goodIn_r _ [508, 509, 510, 511, 21, 512, 143, 53, 54, 513, 514, 515, 516, 55, 56, 517, 518, 519, 883, 884, 885, 886, 85, 819, 821, 822, 887, 888, 889, 823, 824, 825, 826, 594, 595, 827, 828, 829, 815, 816] (by decide +kernel) (by decide +kernel)
set_option maxRecDepth 20000 in
theorem ggL_law_X11_best_c2 : GoodIn wsL_law ((((wsX11_best).drop 40).drop 40).take 40) := goodIn_r _ [817, 818, 820, 890, 891, 892, 893, 894, 895, 896, 897, 898, 1236, 1237, 1238, 1239, 1240, 1241, 1242, 1295, 1296, 1297, 1298, 1299, 1266, 1267, 1268, 1269, 1270, 1271, 1272, 1273, 1274, 1275, 1276, 1277, 1278, 1279, 1280, 1281] (by decide +kernel) (by decide +kernel)
set_option maxRecDepth 20000 in
theorem ggL_law_X11_best_c3 : GoodIn wsL_law ((((wsX11_best).drop 40).drop 40).drop 40) := goodIn_r _ [1282, 1283, 1284, 1285, 1286, 1287, 1288, 1289, 1290] (by decide +kernel) (by decide +kernel)
theorem ggL_law_X11_best : GoodIn wsL_law wsX11_best := goodIn_td 40 ggL_law_X11_best_c0 (goodIn_td 40 ggL_law_X11_best_c1 (goodIn_td 40 ggL_law_X11_best_c2 (ggL_law_X11_best_c3)))
set_option maxRecDepth 20000 in
theorem gL_law_X11_best : GoodIn wsL_law (wsV RL 90 RX11 yX11_best wsX11_best) := goodIn_app (goodIn_of _ (by decide +kernel)) ggL_law_X11_best
theorem dL_law_722 : decode cL_law 722 = .ok (.invokevirtual 90, 3) := by decide +kernel
theorem dL_law_725 : decode cL_law 725 = .ok (.aload_n 2, 1) := by decide +kernel
theorem dL_law_726 : decode cL_law 726 = .ok (.aload_n 0, 1) := by decide +kernel
theorem dL_law_727 : decode cL_law 727 = .ok (.iload_n 3, 1) := by decide +kernel
theorem dL_law_728 : decode cL_law 728 = .ok (.iconst 1, 1) := by decide +kernel
theorem dL_law_729 : decode cL_law 729 = .ok (.iadd, 1) := by decide +kernel
theorem dL_law_730 : decode cL_law 730 = .ok (.iaload, 1) := by decide +kernel
theorem dL_law_731 : decode cL_law 731 = .ok (.aload_n 0, 1) := by decide +kernel
theorem dL_law_732 : decode cL_law 732 = .ok (.iload_n 3, 1) := by decide +kernel
theorem dL_law_733 : decode cL_law 733 = .ok (.iconst 2, 1) := by decide +kernel
theorem dL_law_734 : decode cL_law 734 = .ok (.iadd, 1) := by decide +kernel
theorem dL_law_735 : decode cL_law 735 = .ok (.iaload, 1) := by decide +kernel
theorem dL_law_736 : decode cL_law 736 = .ok (.aload_n 0, 1) := by decide +kernel
theorem dL_law_737 : decode cL_law 737 = .ok (.iload_n 3, 1) := by decide +kernel
theorem dL_law_738 : decode cL_law 738 = .ok (.iconst 3, 1) := by decide +kernel
theorem dL_law_739 : decode cL_law 739 = .ok (.iadd, 1) := by decide +kernel
theorem dL_law_740 : decode cL_law 740 = .ok (.iaload, 1) := by decide +kernel
theorem dL_law_741 : decode cL_law 741 = .ok (.aload_n 0, 1) := by decide +kernel
theorem dL_law_742 : decode cL_law 742 = .ok (.iload_n 3, 1) := by decide +kernel
theorem dL_law_743 : decode cL_law 743 = .ok (.iconst 4, 1) := by decide +kernel
theorem dL_law_744 : decode cL_law 744 = .ok (.iadd, 1) := by decide +kernel
theorem dL_law_745 : decode cL_law 745 = .ok (.iaload, 1) := by decide +kernel
set_option maxRecDepth 20000 in
theorem ggL_law_X12_best_c0 : GoodIn wsL_law ((wsX12_best).take 40) := goodIn_r _ [902, 471, 472, 5, 473, 125, 126, 127, 903, 904, 905, 906, 111, 907, 843, 844, 845, 846, 113, 780, 781, 782, 783, 571, 567, 568, 569, 570, 107, 105, 566, 109, 908, 909, 910, 911, 847, 848, 849, 850] (by decide +kernel) (by decide +kernel)
set_option maxRecDepth 20000 in
theorem ggL_law_X12_best_c1 : GoodIn wsL_law (((wsX12_best).drop 40).take 40) := goodIn_r _ [851, 852, 853, 854, 112, 855, 856, 857, 858, 692, 693, 694, 698, 699, 700, 863, 864, 865, 866, 912, 913, 914, 1243, 1244, 1245, 1246, 1247, 1248, 1249, 1250, 1251, 1252, 1253, 1254, 1255, 1256, 1257, 1258, 1259, 1260] (by decide +kernel) (by decide +kernel)
set_option maxRecDepth 20000 in
theorem ggL_law_X12_best_c2 : GoodIn wsL_law (((wsX12_best).drop 40).drop 40) := goodIn_r _ [1261, 1262, 1263, 1264, 1265] (by decide +kernel) (by decide +kernel)
theorem ggL_law_X12_best : GoodIn wsL_law wsX12_best := goodIn_td 40 ggL_law_X12_best_c0 (goodIn_td 40 ggL_law_X12_best_c1 (ggL_law_X12_best_c2))
set_option maxRecDepth 20000 in
theorem gL_law_X12_best : GoodIn wsL_law (wsV RL 94 RX12 yX12_best wsX12_best) := goodIn_app (goodIn_of _ (by decide +kernel)) ggL_law_X12_best
theorem dL_law_746 : decode cL_law 746 = .ok (.invokevirtual 94, 3) := by decide +kernel
theorem dL_law_749 : decode cL_law 749 = .ok (.if_icmp .eq 362, 3) := by decide +kernel
set_option maxHeartbeats 4000000 in
set_option maxRecDepth 100000 in
theorem lc_17 {p : Program} {l : Launch} {e : Env} {s : State} {m : MethodId} {below : List Frame} {meth : Method} {c : Code} {b : Nat} {xs : Nat → Int32} {A : Nat → Prop} (hAe : A = fun q => s.heap.size ≤ q) (C0 : lw_At p s m meth c b 5 xs) (dC : Nat → ClassId) (dI : Nat → Nat → Nat) (h0 sc kp bl go ch bo aTp aHl aHs aWk aBk aFc bW bA bE bC kTp kHl kHs kWk kBk kFc kbW kbA kbE kbC eW eA eE eC gR gO gS dr tO hO bS m0 aS aI aB aT aG aO aN aD aY : Nat) (rt rh gd sK sV : Nat → Nat) (cTp cHs cWk cBk cFc kcTp kcHs kcWk kcBk kcFc cD cTO cHO cT cH cS cI cB cO cN cDm : ClassId) (hG : Gl gd A s) (hK : va_K (dC, dI) vwCl [(cFc, .int), (cD, .int), (cTO, .array .long), (cT, .long), (cT, .long), (cT, .long), (cHO, .array .int), (cH, .int), (cH, .int), (cH, .int), (cH, .int), (cH, .int), (cH, .int), (cH, .int), (cH, .int), (cS, .int), (cB, .int), (cO, .long), (cN, .long), (cDm, .int)] s) (H : Heap) (locs : List Loc) (hP : va_P (dC, dI) vwCl [(h0, .inr (13, [.ref sc, .ref kp, .int 0, .ref bl, .ref go, .ref ch, .ref bo])), (sc, .inr (10, [.ref aTp, .int 0, .ref aHl, .int 0, .long 0, .int 0, .int 0, .ref aHs, .int 0, .ref aWk, .int 0, .ref aBk, .int 0, .ref aFc])), (aHl, .inr (7, [.int 3, .int 0, .ref bW, .ref bA, .ref bE, .ref bC, .int 0, .null, .int 0, .int 0, .int 0])), (aFc, .inl (cFc, 6, .inl (fun _ => 0))), (ch, .inr (2, [.long 0, .int 0, .ref dr, .ref tO, .ref hO])), (dr, .inl (cD, 36, .inl (fun _ => 0))), (tO, .inl (cTO, 3, .inr (.inr (.inr (.inr (fun i => if i < 3 then some (rt i) else none)))))), ((rt 0), .inl (cT, 36, .inr (.inl (fun _ => 0)))), ((rt 1), .inl (cT, 36, .inr (.inl (fun _ => 0)))), ((rt 2), .inl (cT, 36, .inr (.inl (fun _ => 0)))), (hO, .inl (cHO, 8, .inr (.inr (.inr (.inr (fun i => if i < 8 then some (rh i) else none)))))), ((rh 0), .inl (cH, 36, .inl (fun _ => 0))), ((rh 1), .inl (cH, 36, .inl (fun _ => 0))), ((rh 2), .inl (cH, 36, .inl (fun _ => 0))), ((rh 3), .inl (cH, 36, .inl (fun _ => 0))), ((rh 4), .inl (cH, 36, .inl (fun _ => 0))), ((rh 5), .inl (cH, 36, .inl (fun _ => 0))), ((rh 6), .inl (cH, 36, .inl (fun _ => 0))), ((rh 7), .inl (cH, 36, .inl (fun _ => 0))), (m0, .inr (14, [.int 0, .ref aS, .ref aI, .int 0, .int 0, .int 0, .int 0, .int 0, .int 0, .ref aB, .ref aT, .int 0, .int 0, .ref aG, .ref aO, .ref aN, .ref aD, .long 0, .ref aY, .int 0, .int 0, .int 0, .int 0])), (aS, .inl (cS, 901, .inl s0)), (aB, .inl (cB, 6, .inl (fun _ => 0))), (aO, .inl (cO, 36, .inr (.inl (fun _ => 0)))), (aN, .inl (cN, 36, .inr (.inl (fun _ => 0)))), (aD, .inl (cDm, 36, .inl (fun _ => 0)))] H) (hD : va_D A [(h0, .inr (13, [.ref sc, .ref kp, .int 0, .ref bl, .ref go, .ref ch, .ref bo])), (sc, .inr (10, [.ref aTp, .int 0, .ref aHl, .int 0, .long 0, .int 0, .int 0, .ref aHs, .int 0, .ref aWk, .int 0, .ref aBk, .int 0, .ref aFc])), (aHl, .inr (7, [.int 3, .int 0, .ref bW, .ref bA, .ref bE, .ref bC, .int 0, .null, .int 0, .int 0, .int 0])), (aFc, .inl (cFc, 6, .inl (fun _ => 0))), (ch, .inr (2, [.long 0, .int 0, .ref dr, .ref tO, .ref hO])), (dr, .inl (cD, 36, .inl (fun _ => 0))), (tO, .inl (cTO, 3, .inr (.inr (.inr (.inr (fun i => if i < 3 then some (rt i) else none)))))), ((rt 0), .inl (cT, 36, .inr (.inl (fun _ => 0)))), ((rt 1), .inl (cT, 36, .inr (.inl (fun _ => 0)))), ((rt 2), .inl (cT, 36, .inr (.inl (fun _ => 0)))), (hO, .inl (cHO, 8, .inr (.inr (.inr (.inr (fun i => if i < 8 then some (rh i) else none)))))), ((rh 0), .inl (cH, 36, .inl (fun _ => 0))), ((rh 1), .inl (cH, 36, .inl (fun _ => 0))), ((rh 2), .inl (cH, 36, .inl (fun _ => 0))), ((rh 3), .inl (cH, 36, .inl (fun _ => 0))), ((rh 4), .inl (cH, 36, .inl (fun _ => 0))), ((rh 5), .inl (cH, 36, .inl (fun _ => 0))), ((rh 6), .inl (cH, 36, .inl (fun _ => 0))), ((rh 7), .inl (cH, 36, .inl (fun _ => 0))), (m0, .inr (14, [.int 0, .ref aS, .ref aI, .int 0, .int 0, .int 0, .int 0, .int 0, .int 0, .ref aB, .ref aT, .int 0, .int 0, .ref aG, .ref aO, .ref aN, .ref aD, .long 0, .ref aY, .int 0, .int 0, .int 0, .int 0])), (aS, .inl (cS, 901, .inl s0)), (aB, .inl (cB, 6, .inl (fun _ => 0))), (aO, .inl (cO, 36, .inr (.inl (fun _ => 0)))), (aN, .inl (cN, 36, .inr (.inl (fun _ => 0)))), (aD, .inl (cDm, 36, .inl (fun _ => 0)))]) (hS : va_S A s.heap H locs) (ls : Array Slot) (hl : lv_has ls 4 [(0, .ref b), (1, .ref h0), (2, .ref m0), (3, .int 0)]) : W p l e room_1 s m #[Value.ref b] below meth c H locs 58 3229 (lw_Z below #[Value.ref b] s) (F0 m 701 ls []) := by
  obtain ⟨hx, hb, hr, hml, hown, hts0, hX, hbl, hlocks, hgv⟩ := id C0
  have hown : s.vm.findClass RL = some m.cls := hown
  have hb : c.code = cL_law := hb
  have hts : ∀ w ∈ wsL_law, w.before #[Value.ref b] s = true := fun w h => hts0 w (wsL_law_in w h)
  have hA : ∀ q : Nat, s.heap.size ≤ q → A q := fun q h => by rw [hAe]; exact h
  have hbA : ¬ A b := by rw [hAe]; exact Nat.not_le.mpr hbl
  refine lv_aload_n hx hb dL_law_701 rfl (lv_at hl 1 rfl) ?_
  refine lv_aload_n hx hb dL_law_702 rfl (lv_at hl 0 rfl) ?_
  refine lv_iload_n hx hb dL_law_703 rfl (lv_at hl 3 rfl) ?_
  refine lv_iconst (v := 1) hx hb dL_law_704 (by decide) ?_
  refine lv_iadd hx hb dL_law_705 ?_
  refine qi_as (y := 1) (by decide) ?_
  refine va_sld hx hb hX hbl hbA hS (vp_in_nI (n := 1) (N := 5) (by omega) (by omega)) dL_law_706 ?_
  refine qi_as (y := xs 1) (by rfl) ?_
  refine lv_aload_n hx hb dL_law_707 rfl (lv_at hl 0 rfl) ?_
  refine lv_iload_n hx hb dL_law_708 rfl (lv_at hl 3 rfl) ?_
  refine lv_iconst (v := 2) hx hb dL_law_709 (by decide) ?_
  refine lv_iadd hx hb dL_law_710 ?_
  refine qi_as (y := 2) (by decide) ?_
  refine va_sld hx hb hX hbl hbA hS (vp_in_nI (n := 2) (N := 5) (by omega) (by omega)) dL_law_711 ?_
  refine qi_as (y := xs 2) (by rfl) ?_
  refine lv_aload_n hx hb dL_law_712 rfl (lv_at hl 0 rfl) ?_
  refine lv_iload_n hx hb dL_law_713 rfl (lv_at hl 3 rfl) ?_
  refine lv_iconst (v := 3) hx hb dL_law_714 (by decide) ?_
  refine lv_iadd hx hb dL_law_715 ?_
  refine qi_as (y := 3) (by decide) ?_
  refine va_sld hx hb hX hbl hbA hS (vp_in_nI (n := 3) (N := 5) (by omega) (by omega)) dL_law_716 ?_
  refine qi_as (y := xs 3) (by rfl) ?_
  refine lv_aload_n hx hb dL_law_717 rfl (lv_at hl 0 rfl) ?_
  refine lv_iload_n hx hb dL_law_718 rfl (lv_at hl 3 rfl) ?_
  refine lv_iconst (v := 4) hx hb dL_law_719 (by decide) ?_
  refine lv_iadd hx hb dL_law_720 ?_
  refine qi_as (y := 4) (by decide) ?_
  refine va_sld hx hb hX hbl hbA hS (vp_in_nI (n := 4) (N := 5) (by omega) (by omega)) dL_law_721 ?_
  refine qi_as (y := xs 4) (by rfl) ?_
  have hPc := hP.sub (ws' := [(h0, .inr (13, [.ref sc, .ref kp, .int 0, .ref bl, .ref go, .ref ch, .ref bo])), (sc, .inr (10, [.ref aTp, .int 0, .ref aHl, .int 0, .long 0, .int 0, .int 0, .ref aHs, .int 0, .ref aWk, .int 0, .ref aBk, .int 0, .ref aFc])), (aHl, .inr (7, [.int 3, .int 0, .ref bW, .ref bA, .ref bE, .ref bC, .int 0, .null, .int 0, .int 0, .int 0])), (aFc, .inl (cFc, 6, .inl (fun _ => 0))), (ch, .inr (2, [.long 0, .int 0, .ref dr, .ref tO, .ref hO])), (dr, .inl (cD, 36, .inl (fun _ => 0))), (tO, .inl (cTO, 3, .inr (.inr (.inr (.inr (fun i => if i < 3 then some (rt i) else none)))))), ((rt 0), .inl (cT, 36, .inr (.inl (fun _ => 0)))), ((rt 1), .inl (cT, 36, .inr (.inl (fun _ => 0)))), ((rt 2), .inl (cT, 36, .inr (.inl (fun _ => 0)))), (hO, .inl (cHO, 8, .inr (.inr (.inr (.inr (fun i => if i < 8 then some (rh i) else none)))))), ((rh 0), .inl (cH, 36, .inl (fun _ => 0))), ((rh 1), .inl (cH, 36, .inl (fun _ => 0))), ((rh 2), .inl (cH, 36, .inl (fun _ => 0))), ((rh 3), .inl (cH, 36, .inl (fun _ => 0))), ((rh 4), .inl (cH, 36, .inl (fun _ => 0))), ((rh 5), .inl (cH, 36, .inl (fun _ => 0))), ((rh 6), .inl (cH, 36, .inl (fun _ => 0))), ((rh 7), .inl (cH, 36, .inl (fun _ => 0)))]) [0, 1, 2, 3, 4, 5, 6, 7, 8, 9, 10, 11, 12, 13, 14, 15, 16, 17, 18] rfl
  have hDc := hD.sub (ws' := [(h0, .inr (13, [.ref sc, .ref kp, .int 0, .ref bl, .ref go, .ref ch, .ref bo])), (sc, .inr (10, [.ref aTp, .int 0, .ref aHl, .int 0, .long 0, .int 0, .int 0, .ref aHs, .int 0, .ref aWk, .int 0, .ref aBk, .int 0, .ref aFc])), (aHl, .inr (7, [.int 3, .int 0, .ref bW, .ref bA, .ref bE, .ref bC, .int 0, .null, .int 0, .int 0, .int 0])), (aFc, .inl (cFc, 6, .inl (fun _ => 0))), (ch, .inr (2, [.long 0, .int 0, .ref dr, .ref tO, .ref hO])), (dr, .inl (cD, 36, .inl (fun _ => 0))), (tO, .inl (cTO, 3, .inr (.inr (.inr (.inr (fun i => if i < 3 then some (rt i) else none)))))), ((rt 0), .inl (cT, 36, .inr (.inl (fun _ => 0)))), ((rt 1), .inl (cT, 36, .inr (.inl (fun _ => 0)))), ((rt 2), .inl (cT, 36, .inr (.inl (fun _ => 0)))), (hO, .inl (cHO, 8, .inr (.inr (.inr (.inr (fun i => if i < 8 then some (rh i) else none)))))), ((rh 0), .inl (cH, 36, .inl (fun _ => 0))), ((rh 1), .inl (cH, 36, .inl (fun _ => 0))), ((rh 2), .inl (cH, 36, .inl (fun _ => 0))), ((rh 3), .inl (cH, 36, .inl (fun _ => 0))), ((rh 4), .inl (cH, 36, .inl (fun _ => 0))), ((rh 5), .inl (cH, 36, .inl (fun _ => 0))), ((rh 6), .inl (cH, 36, .inl (fun _ => 0))), ((rh 7), .inl (cH, 36, .inl (fun _ => 0)))]) [0, 1, 2, 3, 4, 5, 6, 7, 8, 9, 10, 11, 12, 13, 14, 15, 16, 17, 18] (by decide) rfl
  have hKc := hK.sub (tys' := [(cFc, .int), (cD, .int), (cTO, .array .long), (cT, .long), (cT, .long), (cT, .long), (cHO, .array .int), (cH, .int), (cH, .int), (cH, .int), (cH, .int), (cH, .int), (cH, .int), (cH, .int), (cH, .int)]) [0, 1, 2, 3, 4, 5, 6, 7, 8, 9, 10, 11, 12, 13, 14] rfl
  have hFc := va_free (wc := [(h0, .inr (13, [.ref sc, .ref kp, .int 0, .ref bl, .ref go, .ref ch, .ref bo])), (sc, .inr (10, [.ref aTp, .int 0, .ref aHl, .int 0, .long 0, .int 0, .int 0, .ref aHs, .int 0, .ref aWk, .int 0, .ref aBk, .int 0, .ref aFc])), (aHl, .inr (7, [.int 3, .int 0, .ref bW, .ref bA, .ref bE, .ref bC, .int 0, .null, .int 0, .int 0, .int 0])), (aFc, .inl (cFc, 6, .inl (fun _ => 0))), (ch, .inr (2, [.long 0, .int 0, .ref dr, .ref tO, .ref hO])), (dr, .inl (cD, 36, .inl (fun _ => 0))), (tO, .inl (cTO, 3, .inr (.inr (.inr (.inr (fun i => if i < 3 then some (rt i) else none)))))), ((rt 0), .inl (cT, 36, .inr (.inl (fun _ => 0)))), ((rt 1), .inl (cT, 36, .inr (.inl (fun _ => 0)))), ((rt 2), .inl (cT, 36, .inr (.inl (fun _ => 0)))), (hO, .inl (cHO, 8, .inr (.inr (.inr (.inr (fun i => if i < 8 then some (rh i) else none)))))), ((rh 0), .inl (cH, 36, .inl (fun _ => 0))), ((rh 1), .inl (cH, 36, .inl (fun _ => 0))), ((rh 2), .inl (cH, 36, .inl (fun _ => 0))), ((rh 3), .inl (cH, 36, .inl (fun _ => 0))), ((rh 4), .inl (cH, 36, .inl (fun _ => 0))), ((rh 5), .inl (cH, 36, .inl (fun _ => 0))), ((rh 6), .inl (cH, 36, .inl (fun _ => 0))), ((rh 7), .inl (cH, 36, .inl (fun _ => 0)))]) hD hS hA [0, 1, 2, 3, 4, 5, 6, 7, 8, 9, 10, 11, 12, 13, 14, 15, 16, 17, 18] rfl
  refine va_calli (va_runV (As := [.int (xs 1), .int (xs 2), .int (xs 3), .int (xs 4)]) (rest := []) ⟨hx, hb, hml, hown, hts⟩ (c_xBest l dC dI gd h0 sc kp bl go ch bo aTp aHl aHs aWk aBk aFc bW bA bE bC dr tO hO rt rh cFc cD cTO cHO cT cH (fun _ => 0) (fun _ => 0) (fun _ => 0) (fun _ => 0) (fun _ => 0) (fun _ => 0) (fun _ => 0) (fun _ => 0) (fun _ => 0) (fun _ => 0) (fun _ => 0) (fun _ => 0) (fun _ => 0) (xs 1) (xs 2) (xs 3) (xs 4) H.size) (cwV 4 hts gL_law_X11_best rfl rfl rfl (by decide +kernel) ⟨Nat.le_of_ble_eq_true rfl, Nat.le_of_ble_eq_true rfl⟩) ⟨fun a U g mk q => by obtain ⟨q0, q1, qP, qK, qD, qhG⟩ := q; exact ⟨q0, q1, qP, va_K.moved (u := U) (U := U.calling g mk a) (Vm.Alike.refl U.vm) qK, qD, qhG.same rfl rfl⟩, va_recv hK hP (ci := 13) (q0 := 0) rfl rfl, fun U hU hW => ⟨rfl, by rw [hU], by rw [hU]; exact hPc, va_K.moved hW.alike hKc, hDc.weaken (fun _ _ _ _ => trivial), hG.call hS hU hW (fun q h => hFc q h)⟩⟩ rfl rfl hl.1 rfl (lv_room (Nat.le_of_ble_eq_true rfl)) dL_law_722 ⟨Nat.le_of_ble_eq_true rfl, Nat.le_of_ble_eq_true rfl⟩) hS (fun q _ h => hFc q h) hFc (fun r_1 u tC H1 locs htC hvm hw_2 hB hz1 hk1 hS => ?_)
  obtain ⟨⟩ := u
  try dsimp only at hw_2 hB
  obtain ⟨hP, hD⟩ := va_join (wr := [(m0, .inr (14, [.int 0, .ref aS, .ref aI, .int 0, .int 0, .int 0, .int 0, .int 0, .int 0, .ref aB, .ref aT, .int 0, .int 0, .ref aG, .ref aO, .ref aN, .ref aD, .long 0, .ref aY, .int 0, .int 0, .int 0, .int 0])), (aS, .inl (cS, 901, .inl s0)), (aB, .inl (cB, 6, .inl (fun _ => 0))), (aO, .inl (cO, 36, .inr (.inl (fun _ => 0)))), (aN, .inl (cN, 36, .inr (.inl (fun _ => 0)))), (aD, .inl (cDm, 36, .inl (fun _ => 0)))]) (w1 := []) hP hD [0, 1, 2, 3, 4, 5, 6, 7, 8, 9, 10, 11, 12, 13, 14, 15, 16, 17, 18] [19, 20, 21, 22, 23, 24] rfl rfl (by decide) (by decide) hk1 hFc (fun k q h => by simp at h) ⟨fun i j p q h => by simp at h, fun k q h => by simp at h⟩
  have hK := hK.sub (tys' := [(cS, .int), (cB, .int), (cO, .long), (cN, .long), (cDm, .int)]) [15, 16, 17, 18, 19] rfl
  generalize H1 = H at hP hS ⊢
  have hP : va_P (dC, dI) vwCl [(m0, .inr (14, [.int 0, .ref aS, .ref aI, .int 0, .int 0, .int 0, .int 0, .int 0, .int 0, .ref aB, .ref aT, .int 0, .int 0, .ref aG, .ref aO, .ref aN, .ref aD, .long 0, .ref aY, .int 0, .int 0, .int 0, .int 0])), (aS, .inl (cS, 901, .inl s0)), (aB, .inl (cB, 6, .inl (fun _ => 0))), (aO, .inl (cO, 36, .inr (.inl (fun _ => 0)))), (aN, .inl (cN, 36, .inr (.inl (fun _ => 0)))), (aD, .inl (cDm, 36, .inl (fun _ => 0)))] H := hP
  have hD : va_D A [(m0, .inr (14, [.int 0, .ref aS, .ref aI, .int 0, .int 0, .int 0, .int 0, .int 0, .int 0, .ref aB, .ref aT, .int 0, .int 0, .ref aG, .ref aO, .ref aN, .ref aD, .long 0, .ref aY, .int 0, .int 0, .int 0, .int 0])), (aS, .inl (cS, 901, .inl s0)), (aB, .inl (cB, 6, .inl (fun _ => 0))), (aO, .inl (cO, 36, .inr (.inl (fun _ => 0)))), (aN, .inl (cN, 36, .inr (.inl (fun _ => 0)))), (aD, .inl (cDm, 36, .inl (fun _ => 0)))] := hD
  have hK : va_K (dC, dI) vwCl [(cS, .int), (cB, .int), (cO, .long), (cN, .long), (cDm, .int)] s := hK
  refine lv_aload_n hx hb dL_law_725 rfl (lv_at hl 2 rfl) ?_
  refine lv_aload_n hx hb dL_law_726 rfl (lv_at hl 0 rfl) ?_
  refine lv_iload_n hx hb dL_law_727 rfl (lv_at hl 3 rfl) ?_
  refine lv_iconst (v := 1) hx hb dL_law_728 (by decide) ?_
  refine lv_iadd hx hb dL_law_729 ?_
  refine qi_as (y := 1) (by decide) ?_
  refine va_sld hx hb hX hbl hbA hS (vp_in_nI (n := 1) (N := 5) (by omega) (by omega)) dL_law_730 ?_
  refine qi_as (y := xs 1) (by rfl) ?_
  refine lv_aload_n hx hb dL_law_731 rfl (lv_at hl 0 rfl) ?_
  refine lv_iload_n hx hb dL_law_732 rfl (lv_at hl 3 rfl) ?_
  refine lv_iconst (v := 2) hx hb dL_law_733 (by decide) ?_
  refine lv_iadd hx hb dL_law_734 ?_
  refine qi_as (y := 2) (by decide) ?_
  refine va_sld hx hb hX hbl hbA hS (vp_in_nI (n := 2) (N := 5) (by omega) (by omega)) dL_law_735 ?_
  refine qi_as (y := xs 2) (by rfl) ?_
  refine lv_aload_n hx hb dL_law_736 rfl (lv_at hl 0 rfl) ?_
  refine lv_iload_n hx hb dL_law_737 rfl (lv_at hl 3 rfl) ?_
  refine lv_iconst (v := 3) hx hb dL_law_738 (by decide) ?_
  refine lv_iadd hx hb dL_law_739 ?_
  refine qi_as (y := 3) (by decide) ?_
  refine va_sld hx hb hX hbl hbA hS (vp_in_nI (n := 3) (N := 5) (by omega) (by omega)) dL_law_740 ?_
  refine qi_as (y := xs 3) (by rfl) ?_
  refine lv_aload_n hx hb dL_law_741 rfl (lv_at hl 0 rfl) ?_
  refine lv_iload_n hx hb dL_law_742 rfl (lv_at hl 3 rfl) ?_
  refine lv_iconst (v := 4) hx hb dL_law_743 (by decide) ?_
  refine lv_iadd hx hb dL_law_744 ?_
  refine qi_as (y := 4) (by decide) ?_
  refine va_sld hx hb hX hbl hbA hS (vp_in_nI (n := 4) (N := 5) (by omega) (by omega)) dL_law_745 ?_
  refine qi_as (y := xs 4) (by rfl) ?_
  have hPc := hP.sub (ws' := [(m0, .inr (14, [.int 0, .ref aS, .ref aI, .int 0, .int 0, .int 0, .int 0, .int 0, .int 0, .ref aB, .ref aT, .int 0, .int 0, .ref aG, .ref aO, .ref aN, .ref aD, .long 0, .ref aY, .int 0, .int 0, .int 0, .int 0])), (aS, .inl (cS, 901, .inl s0)), (aB, .inl (cB, 6, .inl (fun _ => 0))), (aO, .inl (cO, 36, .inr (.inl (fun _ => 0)))), (aN, .inl (cN, 36, .inr (.inl (fun _ => 0)))), (aD, .inl (cDm, 36, .inl (fun _ => 0)))]) [0, 1, 2, 3, 4, 5] rfl
  have hDc := hD.sub (ws' := [(m0, .inr (14, [.int 0, .ref aS, .ref aI, .int 0, .int 0, .int 0, .int 0, .int 0, .int 0, .ref aB, .ref aT, .int 0, .int 0, .ref aG, .ref aO, .ref aN, .ref aD, .long 0, .ref aY, .int 0, .int 0, .int 0, .int 0])), (aS, .inl (cS, 901, .inl s0)), (aB, .inl (cB, 6, .inl (fun _ => 0))), (aO, .inl (cO, 36, .inr (.inl (fun _ => 0)))), (aN, .inl (cN, 36, .inr (.inl (fun _ => 0)))), (aD, .inl (cDm, 36, .inl (fun _ => 0)))]) [0, 1, 2, 3, 4, 5] (by decide) rfl
  have hKc := hK.sub (tys' := [(cS, .int), (cB, .int), (cO, .long), (cN, .long), (cDm, .int)]) [0, 1, 2, 3, 4] rfl
  have hFc := va_free (wc := [(m0, .inr (14, [.int 0, .ref aS, .ref aI, .int 0, .int 0, .int 0, .int 0, .int 0, .int 0, .ref aB, .ref aT, .int 0, .int 0, .ref aG, .ref aO, .ref aN, .ref aD, .long 0, .ref aY, .int 0, .int 0, .int 0, .int 0])), (aS, .inl (cS, 901, .inl s0)), (aB, .inl (cB, 6, .inl (fun _ => 0))), (aO, .inl (cO, 36, .inr (.inl (fun _ => 0)))), (aN, .inl (cN, 36, .inr (.inl (fun _ => 0)))), (aD, .inl (cDm, 36, .inl (fun _ => 0)))]) hD hS hA [0, 1, 2, 3, 4, 5] rfl
  refine va_calli (va_runV (As := [.int (xs 1), .int (xs 2), .int (xs 3), .int (xs 4)]) (rest := [.int r_1]) ⟨hx, hb, hml, hown, hts⟩ (c_mBest l dC dI m0 aS aI aB aT aG aO aN aD aY 0 cS cB cO cN cDm (fun _ => 0) (fun _ => 0) (fun _ => 0) (fun _ => 0) (xs 1) (xs 2) (xs 3) (xs 4) H.size) (cwV 4 hts gL_law_X12_best rfl rfl rfl (by decide +kernel) ⟨Nat.le_of_ble_eq_true rfl, Nat.le_of_ble_eq_true rfl⟩) ⟨fun a U g mk q => by obtain ⟨q0, q1, qP, qK, qD⟩ := q; exact ⟨q0, q1, qP, va_K.moved (u := U) (U := U.calling g mk a) (Vm.Alike.refl U.vm) qK, qD⟩, va_recv hK hP (ci := 14) (q0 := 0) rfl rfl, fun U hU hW => ⟨rfl, by rw [hU], by rw [hU]; exact hPc, va_K.moved hW.alike hKc, hDc.weaken (fun _ _ _ _ => trivial)⟩⟩ rfl rfl hl.1 rfl (lv_room (Nat.le_of_ble_eq_true rfl)) dL_law_746 ⟨Nat.le_of_ble_eq_true rfl, Nat.le_of_ble_eq_true rfl⟩) hS (fun q _ h => hFc q h) hFc (fun r_3 u tC H1 locs htC hvm hw_4 hB hz1 hk1 hS => ?_)
  obtain ⟨⟩ := u
  try dsimp only at hw_4 hB
  obtain ⟨hP, hD⟩ := va_join (wr := []) (w1 := []) hP hD [0, 1, 2, 3, 4, 5] [] rfl rfl (by decide) (by decide) hk1 hFc (fun k q h => by simp at h) ⟨fun i j p q h => by simp at h, fun k q h => by simp at h⟩
  have hK := hK.sub (tys' := []) [] rfl
  generalize H1 = H at hP hS ⊢
  have hP : va_P (dC, dI) vwCl [] H := hP
  have hD : va_D A [] := hD
  have hK : va_K (dC, dI) vwCl [] s := hK
  refine lv_icmp_eq (tgt := 1111) hx hb dL_law_749 (by decide) (fun c_5 => ?_) (fun c_5 => absurd c_5 (not_not_intro (hw_2.trans hw_4.symm)))
  exact law_end hAe C0 (by decide) (by decide) hS (lv_sub hl [0, 3] rfl)
