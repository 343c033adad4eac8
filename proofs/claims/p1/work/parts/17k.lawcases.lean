theorem dL_law_754 : decode cL_law 754 = .ok (.aload_n 1, 1) := by decide +kernel
theorem dL_law_755 : decode cL_law 755 = .ok (.aload_n 0, 1) := by decide +kernel
theorem dL_law_756 : decode cL_law 756 = .ok (.iload_n 3, 1) := by decide +kernel
theorem dL_law_757 : decode cL_law 757 = .ok (.iconst 1, 1) := by decide +kernel
theorem dL_law_758 : decode cL_law 758 = .ok (.iadd, 1) := by decide +kernel
theorem dL_law_759 : decode cL_law 759 = .ok (.iaload, 1) := by decide +kernel
theorem dL_law_760 : decode cL_law 760 = .ok (.aload_n 0, 1) := by decide +kernel
theorem dL_law_761 : decode cL_law 761 = .ok (.iload_n 3, 1) := by decide +kernel
theorem dL_law_762 : decode cL_law 762 = .ok (.iconst 2, 1) := by decide +kernel
theorem dL_law_763 : decode cL_law 763 = .ok (.iadd, 1) := by decide +kernel
theorem dL_law_764 : decode cL_law 764 = .ok (.iaload, 1) := by decide +kernel
theorem dL_law_765 : decode cL_law 765 = .ok (.aload_n 0, 1) := by decide +kernel
theorem dL_law_766 : decode cL_law 766 = .ok (.iload_n 3, 1) := by decide +kernel
theorem dL_law_767 : decode cL_law 767 = .ok (.iconst 3, 1) := by decide +kernel
theorem dL_law_768 : decode cL_law 768 = .ok (.iadd, 1) := by decide +kernel
theorem dL_law_769 : decode cL_law 769 = .ok (.iaload, 1) := by decide +kernel
theorem dL_law_770 : decode cL_law 770 = .ok (.aload_n 0, 1) := by decide +kernel
theorem dL_law_771 : decode cL_law 771 = .ok (.iload_n 3, 1) := by decide +kernel
theorem dL_law_772 : decode cL_law 772 = .ok (.iconst 4, 1) := by decide +kernel
theorem dL_law_773 : decode cL_law 773 = .ok (.iadd, 1) := by decide +kernel
theorem dL_law_774 : decode cL_law 774 = .ok (.iaload, 1) := by decide +kernel
set_option maxRecDepth 20000 in
theorem ggL_law_X11_bestOdds_c0 : GoodIn wsL_law ((wsX11_bestOdds).take 40) := goodIn_r _ [918, 618, 30, 16, 919, 411, 412, 2, 413, 877, 878, 879, 29, 880, 881, 882, 83, 810, 811, 812, 813, 80, 814, 771, 772, 15, 773, 774, 42, 47, 775, 257, 150, 258, 501, 502, 503, 504, 500, 505] (by decide +kernel) (by decide +kernel)
set_option maxRecDepth 20000 in
theorem ggL_law_X11_bestOdds_c1 : GoodIn wsL_law (((wsX11_bestOdds).drop 40).take 40) := goodIn_r _ [506, 507, 508, 509, 510, 511, 21, 512, 143, 53, 54, 513, 514, 515, 516, 55, 56, 517, 518, 519, 883, 884, 885, 886, 85, 819, 821, 822, 887, 888, 889, 823, 824, 825, 826, 594, 595, 827, 828, 829] (by decide +kernel) (by decide +kernel)
set_option maxRecDepth 20000 in
theorem ggL_law_X11_bestOdds_c2 : GoodIn wsL_law ((((wsX11_bestOdds).drop 40).drop 40).take 40) := goodIn_r _ [815, 816, 817, 818, 820, 890, 891, 892, 893, 894, 830, 831, 832, 833, 834, 835, 836, 837, 838, 1236, 1237, 1238, 1239, 1240, 1241, 1242, 1295, 1296, 1297, 1298, 1299, 1266, 1267, 1268, 1269, 1270, 1271, 1272, 1273, 1274] (by decide +kernel) (by decide +kernel)
set_option maxRecDepth 20000 in
theorem ggL_law_X11_bestOdds_c3 : GoodIn wsL_law ((((wsX11_bestOdds).drop 40).drop 40).drop 40) := goodIn_r _ [1275, 1276, 1277, 1278, 1279, 1280, 1281, 1282, 1283, 1284, 1285, 1286, 1287, 1288, 1289, 1290] (by decide +kernel) (by decide +kernel)
theorem ggL_law_X11_bestOdds : GoodIn wsL_law wsX11_bestOdds := goodIn_td 40 ggL_law_X11_bestOdds_c0 (goodIn_td 40 ggL_law_X11_bestOdds_c1 (goodIn_td 40 ggL_law_X11_bestOdds_c2 (ggL_law_X11_bestOdds_c3)))
set_option maxRecDepth 20000 in
theorem gL_law_X11_bestOdds : GoodIn wsL_law (wsV RL 95 RX11 yX11_bestOdds wsX11_bestOdds) := goodIn_app (goodIn_of _ (by decide +kernel)) ggL_law_X11_bestOdds
theorem dL_law_775 : decode cL_law 775 = .ok (.invokevirtual 95, 3) := by decide +kernel
theorem dL_law_778 : decode cL_law 778 = .ok (.aload_n 2, 1) := by decide +kernel
theorem dL_law_779 : decode cL_law 779 = .ok (.aload_n 0, 1) := by decide +kernel
theorem dL_law_780 : decode cL_law 780 = .ok (.iload_n 3, 1) := by decide +kernel
theorem dL_law_781 : decode cL_law 781 = .ok (.iconst 1, 1) := by decide +kernel
theorem dL_law_782 : decode cL_law 782 = .ok (.iadd, 1) := by decide +kernel
theorem dL_law_783 : decode cL_law 783 = .ok (.iaload, 1) := by decide +kernel
theorem dL_law_784 : decode cL_law 784 = .ok (.aload_n 0, 1) := by decide +kernel
theorem dL_law_785 : decode cL_law 785 = .ok (.iload_n 3, 1) := by decide +kernel
theorem dL_law_786 : decode cL_law 786 = .ok (.iconst 2, 1) := by decide +kernel
theorem dL_law_787 : decode cL_law 787 = .ok (.iadd, 1) := by decide +kernel
theorem dL_law_788 : decode cL_law 788 = .ok (.iaload, 1) := by decide +kernel
theorem dL_law_789 : decode cL_law 789 = .ok (.aload_n 0, 1) := by decide +kernel
theorem dL_law_790 : decode cL_law 790 = .ok (.iload_n 3, 1) := by decide +kernel
theorem dL_law_791 : decode cL_law 791 = .ok (.iconst 3, 1) := by decide +kernel
theorem dL_law_792 : decode cL_law 792 = .ok (.iadd, 1) := by decide +kernel
theorem dL_law_793 : decode cL_law 793 = .ok (.iaload, 1) := by decide +kernel
theorem dL_law_794 : decode cL_law 794 = .ok (.aload_n 0, 1) := by decide +kernel
theorem dL_law_795 : decode cL_law 795 = .ok (.iload_n 3, 1) := by decide +kernel
theorem dL_law_796 : decode cL_law 796 = .ok (.iconst 4, 1) := by decide +kernel
theorem dL_law_797 : decode cL_law 797 = .ok (.iadd, 1) := by decide +kernel
theorem dL_law_798 : decode cL_law 798 = .ok (.iaload, 1) := by decide +kernel
set_option maxRecDepth 20000 in
theorem ggL_law_X12_bestOdds_c0 : GoodIn wsL_law ((wsX12_bestOdds).take 40) := goodIn_r _ [923, 623, 907, 471, 472, 5, 473, 125, 126, 127, 903, 904, 905, 906, 111, 843, 844, 845, 846, 113, 780, 781, 782, 783, 571, 567, 568, 569, 570, 107, 105, 566, 109, 908, 909, 910, 911, 847, 848, 849] (by decide +kernel) (by decide +kernel)
set_option maxRecDepth 20000 in
theorem ggL_law_X12_bestOdds_c1 : GoodIn wsL_law (((wsX12_bestOdds).drop 40).take 40) := goodIn_r _ [850, 851, 852, 853, 854, 112, 855, 856, 857, 858, 692, 693, 694, 698, 699, 700, 863, 864, 865, 866, 867, 868, 869, 870, 871, 872, 1243, 1244, 1245, 1246, 1247, 1248, 1249, 1250, 1251, 1252, 1253, 1254, 1255, 1256] (by decide +kernel) (by decide +kernel)
set_option maxRecDepth 20000 in
theorem ggL_law_X12_bestOdds_c2 : GoodIn wsL_law (((wsX12_bestOdds).drop 40).drop 40) := goodIn_r _ [1257, 1258, 1259, 1260, 1261, 1262, 1263, 1264, 1265] (by decide +kernel) (by decide +kernel)
theorem ggL_law_X12_bestOdds : GoodIn wsL_law wsX12_bestOdds := goodIn_td 40 ggL_law_X12_bestOdds_c0 (goodIn_td 40 ggL_law_X12_bestOdds_c1 (ggL_law_X12_bestOdds_c2))
set_option maxRecDepth 20000 in
theorem gL_law_X12_bestOdds : GoodIn wsL_law (wsV RL 99 RX12 yX12_bestOdds wsX12_bestOdds) := goodIn_app (goodIn_of _ (by decide +kernel)) ggL_law_X12_bestOdds
theorem dL_law_799 : decode cL_law 799 = .ok (.invokevirtual 99, 3) := by decide +kernel
theorem dL_law_802 : decode cL_law 802 = .ok (.lcmp, 1) := by decide +kernel
theorem dL_law_803 : decode cL_law 803 = .ok (.ifCond .eq 308, 3) := by decide +kernel
set_option maxHeartbeats 4000000 in
set_option maxRecDepth 100000 in
theorem lc_18 {p : Program} {l : Launch} {e : Env} {s : State} {m : MethodId} {below : List Frame} {meth : Method} {c : Code} {b : Nat} {xs : Nat → Int32} {A : Nat → Prop} (hAe : A = fun q => s.heap.size ≤ q) (C0 : lw_At p s m meth c b 5 xs) (dC : Nat → ClassId) (dI : Nat → Nat → Nat) (h0 sc kp bl go ch bo aTp aHl aHs aWk aBk aFc bW bA bE bC kTp kHl kHs kWk kBk kFc kbW kbA kbE kbC eW eA eE eC gR gO gS dr tO hO bS m0 aS aI aB aT aG aO aN aD aY : Nat) (rt rh gd sK sV : Nat → Nat) (cTp cHs cWk cBk cFc kcTp kcHs kcWk kcBk kcFc cD cTO cHO cT cH cS cI cB cO cN cDm : ClassId) (hG : Gl gd A s) (hK : va_K (dC, dI) vwCl [(cFc, .int), (cD, .int), (cTO, .array .long), (cT, .long), (cT, .long), (cT, .long), (cHO, .array .int), (cH, .int), (cH, .int), (cH, .int), (cH, .int), (cH, .int), (cH, .int), (cH, .int), (cH, .int), (cS, .int), (cB, .int), (cO, .long), (cN, .long), (cDm, .int)] s) (H : Heap) (locs : List Loc) (hP : va_P (dC, dI) vwCl [(h0, .inr (13, [.ref sc, .ref kp, .int 0, .ref bl, .ref go, .ref ch, .ref bo])), (sc, .inr (10, [.ref aTp, .int 0, .ref aHl, .int 0, .long 0, .int 0, .int 0, .ref aHs, .int 0, .ref aWk, .int 0, .ref aBk, .int 0, .ref aFc])), (aHl, .inr (7, [.int 3, .int 0, .ref bW, .ref bA, .ref bE, .ref bC, .int 0, .null, .int 0, .int 0, .int 0])), (aFc, .inl (cFc, 6, .inl (fun _ => 0))), (ch, .inr (2, [.long 0, .int 0, .ref dr, .ref tO, .ref hO])), (dr, .inl (cD, 36, .inl (fun _ => 0))), (tO, .inl (cTO, 3, .inr (.inr (.inr (.inr (fun i => if i < 3 then some (rt i) else none)))))), ((rt 0), .inl (cT, 36, .inr (.inl (fun _ => 0)))), ((rt 1), .inl (cT, 36, .inr (.inl (fun _ => 0)))), ((rt 2), .inl (cT, 36, .inr (.inl (fun _ => 0)))), (hO, .inl (cHO, 8, .inr (.inr (.inr (.inr (fun i => if i < 8 then some (rh i) else none)))))), ((rh 0), .inl (cH, 36, .inl (fun _ => 0))), ((rh 1), .inl (cH, 36, .inl (fun _ => 0))), ((rh 2), .inl (cH, 36, .inl (fun _ => 0))), ((rh 3), .inl (cH, 36, .inl (fun _ => 0))), ((rh 4), .inl (cH, 36, .inl (fun _ => 0))), ((rh 5), .inl (cH, 36, .inl (fun _ => 0))), ((rh 6), .inl (cH, 36, .inl (fun _ => 0))), ((rh 7), .inl (cH, 36, .inl (fun _ => 0))), (m0, .inr (14, [.int 0, .ref aS, .ref aI, .int 0, .int 0, .int 0, .int 0, .int 0, .int 0, .ref aB, .ref aT, .int 0, .int 0, .ref aG, .ref aO, .ref aN, .ref aD, .long 0, .ref aY, .int 0, .int 0, .int 0, .int 0])), (aS, .inl (cS, 901, .inl s0)), (aB, .inl (cB, 6, .inl (fun _ => 0))), (aO, .inl (cO, 36, .inr (.inl (fun _ => 0)))), (aN, .inl (cN, 36, .inr (.inl (fun _ => 0)))), (aD, .inl (cDm, 36, .inl (fun _ => 0)))] H) (hD : va_D A [(h0, .inr (13, [.ref sc, .ref kp, .int 0, .ref bl, .ref go, .ref ch, .ref bo])), (sc, .inr (10, [.ref aTp, .int 0, .ref aHl, .int 0, .long 0, .int 0, .int 0, .ref aHs, .int 0, .ref aWk, .int 0, .ref aBk, .int 0, .ref aFc])), (aHl, .inr (7, [.int 3, .int 0, .ref bW, .ref bA, .ref bE, .ref bC, .int 0, .null, .int 0, .int 0, .int 0])), (aFc, .inl (cFc, 6, .inl (fun _ => 0))), (ch, .inr (2, [.long 0, .int 0, .ref dr, .ref tO, .ref hO])), (dr, .inl (cD, 36, .inl (fun _ => 0))), (tO, .inl (cTO, 3, .inr (.inr (.inr (.inr (fun i => if i < 3 then some (rt i) else none)))))), ((rt 0), .inl (cT, 36, .inr (.inl (fun _ => 0)))), ((rt 1), .inl (cT, 36, .inr (.inl (fun _ => 0)))), ((rt 2), .inl (cT, 36, .inr (.inl (fun _ => 0)))), (hO, .inl (cHO, 8, .inr (.inr (.inr (.inr (fun i => if i < 8 then some (rh i) else none)))))), ((rh 0), .inl (cH, 36, .inl (fun _ => 0))), ((rh 1), .inl (cH, 36, .inl (fun _ => 0))), ((rh 2), .inl (cH, 36, .inl (fun _ => 0))), ((rh 3), .inl (cH, 36, .inl (fun _ => 0))), ((rh 4), .inl (cH, 36, .inl (fun _ => 0))), ((rh 5), .inl (cH, 36, .inl (fun _ => 0))), ((rh 6), .inl (cH, 36, .inl (fun _ => 0))), ((rh 7), .inl (cH, 36, .inl (fun _ => 0))), (m0, .inr (14, [.int 0, .ref aS, .ref aI, .int 0, .int 0, .int 0, .int 0, .int 0, .int 0, .ref aB, .ref aT, .int 0, .int 0, .ref aG, .ref aO, .ref aN, .ref aD, .long 0, .ref aY, .int 0, .int 0, .int 0, .int 0])), (aS, .inl (cS, 901, .inl s0)), (aB, .inl (cB, 6, .inl (fun _ => 0))), (aO, .inl (cO, 36, .inr (.inl (fun _ => 0)))), (aN, .inl (cN, 36, .inr (.inl (fun _ => 0)))), (aD, .inl (cDm, 36, .inl (fun _ => 0)))]) (hS : va_S A s.heap H locs) (ls : Array Slot) (hl : lv_has ls 4 [(0, .ref b), (1, .ref h0), (2, .ref m0), (3, .int 0)]) : W p l e room_1 s m #[Value.ref b] below meth c H locs 58 3229 (lw_Z below #[Value.ref b] s) (F0 m 754 ls []) := by
  obtain ⟨hx, hb, hr, hml, hown, hts0, hX, hbl, hlocks, hgv⟩ := id C0
  have hown : s.vm.findClass RL = some m.cls := hown
  have hb : c.code = cL_law := hb
  have hts : ∀ w ∈ wsL_law, w.before #[Value.ref b] s = true := fun w h => hts0 w (wsL_law_in w h)
  have hA : ∀ q : Nat, s.heap.size ≤ q → A q := fun q h => by rw [hAe]; exact h
  have hbA : ¬ A b := by rw [hAe]; exact Nat.not_le.mpr hbl
  refine lv_aload_n hx hb dL_law_754 rfl (lv_at hl 1 rfl) ?_
  refine lv_aload_n hx hb dL_law_755 rfl (lv_at hl 0 rfl) ?_
  refine lv_iload_n hx hb dL_law_756 rfl (lv_at hl 3 rfl) ?_
  refine lv_iconst (v := 1) hx hb dL_law_757 (by decide) ?_
  refine lv_iadd hx hb dL_law_758 ?_
  refine qi_as (y := 1) (by decide) ?_
  refine va_sld hx hb hX hbl hbA hS (vp_in_nI (n := 1) (N := 5) (by omega) (by omega)) dL_law_759 ?_
  refine qi_as (y := xs 1) (by rfl) ?_
  refine lv_aload_n hx hb dL_law_760 rfl (lv_at hl 0 rfl) ?_
  refine lv_iload_n hx hb dL_law_761 rfl (lv_at hl 3 rfl) ?_
  refine lv_iconst (v := 2) hx hb dL_law_762 (by decide) ?_
  refine lv_iadd hx hb dL_law_763 ?_
  refine qi_as (y := 2) (by decide) ?_
  refine va_sld hx hb hX hbl hbA hS (vp_in_nI (n := 2) (N := 5) (by omega) (by omega)) dL_law_764 ?_
  refine qi_as (y := xs 2) (by rfl) ?_
  refine lv_aload_n hx hb dL_law_765 rfl (lv_at hl 0 rfl) ?_
  refine lv_iload_n hx hb dL_law_766 rfl (lv_at hl 3 rfl) ?_
  refine lv_iconst (v := 3) hx hb dL_law_767 (by decide) ?_
  refine lv_iadd hx hb dL_law_768 ?_
  refine qi_as (y := 3) (by decide) ?_
  refine va_sld hx hb hX hbl hbA hS (vp_in_nI (n := 3) (N := 5) (by omega) (by omega)) dL_law_769 ?_
  refine qi_as (y := xs 3) (by rfl) ?_
  refine lv_aload_n hx hb dL_law_770 rfl (lv_at hl 0 rfl) ?_
  refine lv_iload_n hx hb dL_law_771 rfl (lv_at hl 3 rfl) ?_
  refine lv_iconst (v := 4) hx hb dL_law_772 (by decide) ?_
  refine lv_iadd hx hb dL_law_773 ?_
  refine qi_as (y := 4) (by decide) ?_
  refine va_sld hx hb hX hbl hbA hS (vp_in_nI (n := 4) (N := 5) (by omega) (by omega)) dL_law_774 ?_
  refine qi_as (y := xs 4) (by rfl) ?_
  have hPc := hP.sub (ws' := [(h0, .inr (13, [.ref sc, .ref kp, .int 0, .ref bl, .ref go, .ref ch, .ref bo])), (sc, .inr (10, [.ref aTp, .int 0, .ref aHl, .int 0, .long 0, .int 0, .int 0, .ref aHs, .int 0, .ref aWk, .int 0, .ref aBk, .int 0, .ref aFc])), (aHl, .inr (7, [.int 3, .int 0, .ref bW, .ref bA, .ref bE, .ref bC, .int 0, .null, .int 0, .int 0, .int 0])), (aFc, .inl (cFc, 6, .inl (fun _ => 0))), (ch, .inr (2, [.long 0, .int 0, .ref dr, .ref tO, .ref hO])), (dr, .inl (cD, 36, .inl (fun _ => 0))), (tO, .inl (cTO, 3, .inr (.inr (.inr (.inr (fun i => if i < 3 then some (rt i) else none)))))), ((rt 0), .inl (cT, 36, .inr (.inl (fun _ => 0)))), ((rt 1), .inl (cT, 36, .inr (.inl (fun _ => 0)))), ((rt 2), .inl (cT, 36, .inr (.inl (fun _ => 0)))), (hO, .inl (cHO, 8, .inr (.inr (.inr (.inr (fun i => if i < 8 then some (rh i) else none)))))), ((rh 0), .inl (cH, 36, .inl (fun _ => 0))), ((rh 1), .inl (cH, 36, .inl (fun _ => 0))), ((rh 2), .inl (cH, 36, .inl (fun _ => 0))), ((rh 3), .inl (cH, 36, .inl (fun _ => 0))), ((rh 4), .inl (cH, 36, .inl (fun _ => 0))), ((rh 5), .inl (cH, 36, .inl (fun _ => 0))), ((rh 6), .inl (cH, 36, .inl (fun _ => 0))), ((rh 7), .inl (cH, 36, .inl (fun _ => 0)))]) [0, 1, 2, 3, 4, 5, 6, 7, 8, 9, 10, 11, 12, 13, 14, 15, 16, 17, 18] rfl
  have hDc := hD.sub (ws' := [(h0, .inr (13, [.ref sc, .ref kp, .int 0, .ref bl, .ref go, .ref ch, .ref bo])), (sc, .inr (10, [.ref aTp, .int 0, .ref aHl, .int 0, .long 0, .int 0, .int 0, .ref aHs, .int 0, .ref aWk, .int 0, .ref aBk, .int 0, .ref aFc])), (aHl, .inr (7, [.int 3, .int 0, .ref bW, .ref bA, .ref bE, .ref bC, .int 0, .null, .int 0, .int 0, .int 0])), (aFc, .inl (cFc, 6, .inl (fun _ => 0))), (ch, .inr (2, [.long 0, .int 0, .ref dr, .ref tO, .ref hO])), (dr, .inl (cD, 36, .inl (fun _ => 0))), (tO, .inl (cTO, 3, .inr (.inr (.inr (.inr (fun i => if i < 3 then some (rt i) else none)))))), ((rt 0), .inl (cT, 36, .inr (.inl (fun _ => 0)))), ((rt 1), .inl (cT, 36, .inr (.inl (fun _ => 0)))), ((rt 2), .inl (cT, 36, .inr (.inl (fun _ => 0)))), (hO, .inl (cHO, 8, .inr (.inr (.inr (.inr (fun i => if i < 8 then some (rh i) else none)))))), ((rh 0), .inl (cH, 36, .inl (fun _ => 0))), ((rh 1), .inl (cH, 36, .inl (fun _ => 0))), ((rh 2), .inl (cH, 36, .inl (fun _ => 0))), ((rh 3), .inl (cH, 36, .inl (fun _ => 0))), ((rh 4), .inl (cH, 36, .inl (fun _ => 0))), ((rh 5), .inl (cH, 36, .inl (fun _ => 0))), ((rh 6), .inl (cH, 36, .inl (fun _ => 0))), ((rh 7), .inl (cH, 36, .inl (fun _ => 0)))]) [0, 1, 2, 3, 4, 5, 6, 7, 8, 9, 10, 11, 12, 13, 14, 15, 16, 17, 18] (by decide) rfl
  have hKc := hK.sub (tys' := [(cFc, .int), (cD, .int), (cTO, .array .long), (cT, .long), (cT, .long), (cT, .long), (cHO, .array .int), (cH, .int), (cH, .int), (cH, .int), (cH, .int), (cH, .int), (cH, .int), (cH, .int), (cH, .int)]) [0, 1, 2, 3, 4, 5, 6, 7, 8, 9, 10, 11, 12, 13, 14] rfl
  have hFc := va_free (wc := [(h0, .inr (13, [.ref sc, .ref kp, .int 0, .ref bl, .ref go, .ref ch, .ref bo])), (sc, .inr (10, [.ref aTp, .int 0, .ref aHl, .int 0, .long 0, .int 0, .int 0, .ref aHs, .int 0, .ref aWk, .int 0, .ref aBk, .int 0, .ref aFc])), (aHl, .inr (7, [.int 3, .int 0, .ref bW, .ref bA, .ref bE, .ref bC, .int 0, .null, .int 0, .int 0, .int 0])), (aFc, .inl (cFc, 6, .inl (fun _ => 0))), (ch, .inr (2, [.long 0, .int 0, .ref dr, .ref tO, .ref hO])), (dr, .inl (cD, 36, .inl (fun _ => 0))), (tO, .inl (cTO, 3, .inr (.inr (.inr (.inr (fun i => if i < 3 then some (rt i) else none)))))), ((rt 0), .inl (cT, 36, .inr (.inl (fun _ => 0)))), ((rt 1), .inl (cT, 36, .inr (.inl (fun _ => 0)))), ((rt 2), .inl (cT, 36, .inr (.inl (fun _ => 0)))), (hO, .inl (cHO, 8, .inr (.inr (.inr (.inr (fun i => if i < 8 then some (rh i) else none)))))), ((rh 0), .inl (cH, 36, .inl (fun _ => 0))), ((rh 1), .inl (cH, 36, .inl (fun _ => 0))), ((rh 2), .inl (cH, 36, .inl (fun _ => 0))), ((rh 3), .inl (cH, 36, .inl (fun _ => 0))), ((rh 4), .inl (cH, 36, .inl (fun _ => 0))), ((rh 5), .inl (cH, 36, .inl (fun _ => 0))), ((rh 6), .inl (cH, 36, .inl (fun _ => 0))), ((rh 7), .inl (cH, 36, .inl (fun _ => 0)))]) hD hS hA [0, 1, 2, 3, 4, 5, 6, 7, 8, 9, 10, 11, 12, 13, 14, 15, 16, 17, 18] rfl
  refine va_calll (va_runV (As := [.int (xs 1), .int (xs 2), .int (xs 3), .int (xs 4)]) (rest := []) ⟨hx, hb, hml, hown, hts⟩ (c_xBestOdds l dC dI gd h0 sc kp bl go ch bo aTp aHl aHs aWk aBk aFc bW bA bE bC dr tO hO rt rh cFc cD cTO cHO cT cH (fun _ => 0) (fun _ => 0) (fun _ => 0) (fun _ => 0) (fun _ => 0) (fun _ => 0) (fun _ => 0) (fun _ => 0) (fun _ => 0) (fun _ => 0) (fun _ => 0) (fun _ => 0) (fun _ => 0) (xs 1) (xs 2) (xs 3) (xs 4) H.size) (cwV 4 hts gL_law_X11_bestOdds rfl rfl rfl (by decide +kernel) ⟨Nat.le_of_ble_eq_true rfl, Nat.le_of_ble_eq_true rfl⟩) ⟨fun a U g mk q => by obtain ⟨q0, q1, qP, qK, qD, qhG⟩ := q; exact ⟨q0, q1, qP, va_K.moved (u := U) (U := U.calling g mk a) (Vm.Alike.refl U.vm) qK, qD, qhG.same rfl rfl⟩, va_recv hK hP (ci := 13) (q0 := 0) rfl rfl, fun U hU hW => ⟨rfl, by rw [hU], by rw [hU]; exact hPc, va_K.moved hW.alike hKc, hDc.weaken (fun _ _ _ _ => trivial), hG.call hS hU hW (fun q h => hFc q h)⟩⟩ rfl rfl hl.1 rfl (lv_room (Nat.le_of_ble_eq_true rfl)) dL_law_775 ⟨Nat.le_of_ble_eq_true rfl, Nat.le_of_ble_eq_true rfl⟩) hS (fun q _ h => hFc q h) hFc (fun r_1 u tC H1 locs htC hvm hw_2 hB hz1 hk1 hS => ?_)
  obtain ⟨⟩ := u
  try dsimp only at hw_2 hB
  obtain ⟨hP, hD⟩ := va_join (wr := [(m0, .inr (14, [.int 0, .ref aS, .ref aI, .int 0, .int 0, .int 0, .int 0, .int 0, .int 0, .ref aB, .ref aT, .int 0, .int 0, .ref aG, .ref aO, .ref aN, .ref aD, .long 0, .ref aY, .int 0, .int 0, .int 0, .int 0])), (aS, .inl (cS, 901, .inl s0)), (aB, .inl (cB, 6, .inl (fun _ => 0))), (aO, .inl (cO, 36, .inr (.inl (fun _ => 0)))), (aN, .inl (cN, 36, .inr (.inl (fun _ => 0)))), (aD, .inl (cDm, 36, .inl (fun _ => 0)))]) (w1 := []) hP hD [0, 1, 2, 3, 4, 5, 6, 7, 8, 9, 10, 11, 12, 13, 14, 15, 16, 17, 18] [19, 20, 21, 22, 23, 24] rfl rfl (by decide) (by decide) hk1 hFc (fun k q h => by simp at h) ⟨fun i j p q h => by simp at h, fun k q h => by simp at h⟩
  have hK := hK.sub (tys' := [(cS, .int), (cB, .int), (cO, .long), (cN, .long), (cDm, .int)]) [15, 16, 17, 18, 19] rfl
  generalize H1 = H at hP hS ⊢
  have hP : va_P (dC, dI) vwCl [(m0, .inr (14, [.int 0, .ref aS, .ref aI, .int 0, .int 0, .int 0, .int 0, .int 0, .int 0, .ref aB, .ref aT, .int 0, .int 0, .ref aG, .ref aO, .ref aN, .ref aD, .long 0, .ref aY, .int 0, .int 0, .int 0, .int 0])), (aS, .inl (cS, 901, .inl s0)), (aB, .inl (cB, 6, .inl (fun _ => 0))), (aO, .inl (cO, 36, .inr (.inl (fun _ => 0)))), (aN, .inl (cN, 36, .inr (.inl (fun _ => 0)))), (aD, .inl (cDm, 36, .inl (fun _ => 0)))] H := hP
  have hD : va_D A [(m0, .inr (14, [.int 0, .ref aS, .ref aI, .int 0, .int 0, .int 0, .int 0, .int 0, .int 0, .ref aB, .ref aT, .int 0, .int 0, .ref aG, .ref aO, .ref aN, .ref aD, .long 0, .ref aY, .int 0, .int 0, .int 0, .int 0])), (aS, .inl (cS, 901, .inl s0)), (aB, .inl (cB, 6, .inl (fun _ => 0))), (aO, .inl (cO, 36, .inr (.inl (fun _ => 0)))), (aN, .inl (cN, 36, .inr (.inl (fun _ => 0)))), (aD, .inl (cDm, 36, .inl (fun _ => 0)))] := hD
  have hK : va_K (dC, dI) vwCl [(cS, .int), (cB, .int), (cO, .long), (cN, .long), (cDm, .int)] s := hK
  refine lv_aload_n hx hb dL_law_778 rfl (lv_at hl 2 rfl) ?_
  refine lv_aload_n hx hb dL_law_779 rfl (lv_at hl 0 rfl) ?_
  refine lv_iload_n hx hb dL_law_780 rfl (lv_at hl 3 rfl) ?_
  refine lv_iconst (v := 1) hx hb dL_law_781 (by decide) ?_
  refine lv_iadd hx hb dL_law_782 ?_
  refine qi_as (y := 1) (by decide) ?_
  refine va_sld hx hb hX hbl hbA hS (vp_in_nI (n := 1) (N := 5) (by omega) (by omega)) dL_law_783 ?_
  refine qi_as (y := xs 1) (by rfl) ?_
  refine lv_aload_n hx hb dL_law_784 rfl (lv_at hl 0 rfl) ?_
  refine lv_iload_n hx hb dL_law_785 rfl (lv_at hl 3 rfl) ?_
  refine lv_iconst (v := 2) hx hb dL_law_786 (by decide) ?_
  refine lv_iadd hx hb dL_law_787 ?_
  refine qi_as (y := 2) (by decide) ?_
  refine va_sld hx hb hX hbl hbA hS (vp_in_nI (n := 2) (N := 5) (by omega) (by omega)) dL_law_788 ?_
  refine qi_as (y := xs 2) (by rfl) ?_
  refine lv_aload_n hx hb dL_law_789 rfl (lv_at hl 0 rfl) ?_
  refine lv_iload_n hx hb dL_law_790 rfl (lv_at hl 3 rfl) ?_
  refine lv_iconst (v := 3) hx hb dL_law_791 (by decide) ?_
  refine lv_iadd hx hb dL_law_792 ?_
  refine qi_as (y := 3) (by decide) ?_
  refine va_sld hx hb hX hbl hbA hS (vp_in_nI (n := 3) (N := 5) (by omega) (by omega)) dL_law_793 ?_
  refine qi_as (y := xs 3) (by rfl) ?_
  refine lv_aload_n hx hb dL_law_794 rfl (lv_at hl 0 rfl) ?_
  refine lv_iload_n hx hb dL_law_795 rfl (lv_at hl 3 rfl) ?_
  refine lv_iconst (v := 4) hx hb dL_law_796 (by decide) ?_
  refine lv_iadd hx hb dL_law_797 ?_
  refine qi_as (y := 4) (by decide) ?_
  refine va_sld hx hb hX hbl hbA hS (vp_in_nI (n := 4) (N := 5) (by omega) (by omega)) dL_law_798 ?_
  refine qi_as (y := xs 4) (by rfl) ?_
  have hPc := hP.sub (ws' := [(m0, .inr (14, [.int 0, .ref aS, .ref aI, .int 0, .int 0, .int 0, .int 0, .int 0, .int 0, .ref aB, .ref aT, .int 0, .int 0, .ref aG, .ref aO, .ref aN, .ref aD, .long 0, .ref aY, .int 0, .int 0, .int 0, .int 0])), (aS, .inl (cS, 901, .inl s0)), (aB, .inl (cB, 6, .inl (fun _ => 0))), (aO, .inl (cO, 36, .inr (.inl (fun _ => 0)))), (aN, .inl (cN, 36, .inr (.inl (fun _ => 0)))), (aD, .inl (cDm, 36, .inl (fun _ => 0)))]) [0, 1, 2, 3, 4, 5] rfl
  have hDc := hD.sub (ws' := [(m0, .inr (14, [.int 0, .ref aS, .ref aI, .int 0, .int 0, .int 0, .int 0, .int 0, .int 0, .ref aB, .ref aT, .int 0, .int 0, .ref aG, .ref aO, .ref aN, .ref aD, .long 0, .ref aY, .int 0, .int 0, .int 0, .int 0])), (aS, .inl (cS, 901, .inl s0)), (aB, .inl (cB, 6, .inl (fun _ => 0))), (aO, .inl (cO, 36, .inr (.inl (fun _ => 0)))), (aN, .inl (cN, 36, .inr (.inl (fun _ => 0)))), (aD, .inl (cDm, 36, .inl (fun _ => 0)))]) [0, 1, 2, 3, 4, 5] (by decide) rfl
  have hKc := hK.sub (tys' := [(cS, .int), (cB, .int), (cO, .long), (cN, .long), (cDm, .int)]) [0, 1, 2, 3, 4] rfl
  have hFc := va_free (wc := [(m0, .inr (14, [.int 0, .ref aS, .ref aI, .int 0, .int 0, .int 0, .int 0, .int 0, .int 0, .ref aB, .ref aT, .int 0, .int 0, .ref aG, .ref aO, .ref aN, .ref aD, .long 0, .ref aY, .int 0, .int 0, .int 0, .int 0])), (aS, .inl (cS, 901, .inl s0)), (aB, .inl (cB, 6, .inl (fun _ => 0))), (aO, .inl (cO, 36, .inr (.inl (fun _ => 0)))), (aN, .inl (cN, 36, .inr (.inl (fun _ => 0)))), (aD, .inl (cDm, 36, .inl (fun _ => 0)))]) hD hS hA [0, 1, 2, 3, 4, 5] rfl
  refine va_calll (va_runV (As := [.int (xs 1), .int (xs 2), .int (xs 3), .int (xs 4)]) (rest := [.long r_1]) ⟨hx, hb, hml, hown, hts⟩ (c_mBestOdds l dC dI m0 aS aI aB aT aG aO aN aD aY 0 cS cB cO cN cDm (fun _ => 0) (fun _ => 0) (fun _ => 0) (fun _ => 0) (xs 1) (xs 2) (xs 3) (xs 4) H.size) (cwV 4 hts gL_law_X12_bestOdds rfl rfl rfl (by decide +kernel) ⟨Nat.le_of_ble_eq_true rfl, Nat.le_of_ble_eq_true rfl⟩) ⟨fun a U g mk q => by obtain ⟨q0, q1, qP, qK, qD⟩ := q; exact ⟨q0, q1, qP, va_K.moved (u := U) (U := U.calling g mk a) (Vm.Alike.refl U.vm) qK, qD⟩, va_recv hK hP (ci := 14) (q0 := 0) rfl rfl, fun U hU hW => ⟨rfl, by rw [hU], by rw [hU]; exact hPc, va_K.moved hW.alike hKc, hDc.weaken (fun _ _ _ _ => trivial)⟩⟩ rfl rfl hl.1 rfl (lv_room (Nat.le_of_ble_eq_true rfl)) dL_law_799 ⟨Nat.le_of_ble_eq_true rfl, Nat.le_of_ble_eq_true rfl⟩) hS (fun q _ h => hFc q h) hFc (fun r_3 u tC H1 locs htC hvm hw_4 hB hz1 hk1 hS => ?_)
  obtain ⟨⟩ := u
  try dsimp only at hw_4 hB
  obtain ⟨hP, hD⟩ := va_join (wr := []) (w1 := []) hP hD [0, 1, 2, 3, 4, 5] [] rfl rfl (by decide) (by decide) hk1 hFc (fun k q h => by simp at h) ⟨fun i j p q h => by simp at h, fun k q h => by simp at h⟩
  have hK := hK.sub (tys' := []) [] rfl
  generalize H1 = H at hP hS ⊢
  have hP : va_P (dC, dI) vwCl [] H := hP
  have hD : va_D A [] := hD
  have hK : va_K (dC, dI) vwCl [] s := hK
  refine W.lcmp hx hb dL_law_802 ?_
  refine lv_if_eq (tgt := 1111) hx hb dL_law_803 (by decide) (fun c_5 => ?_) (fun c_5 => absurd c_5 (not_not_intro ((lg_cmp_eq _ _).mpr (hw_2.trans hw_4.symm))))
  exact law_end hAe C0 (by decide) (by decide) hS (lv_sub hl [0, 3] rfl)
