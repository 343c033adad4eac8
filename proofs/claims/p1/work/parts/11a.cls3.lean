theorem dX0_tellHits_0 : decode cX0_tellHits 0 = .ok (.iconst 0, 1) := by decide +kernel
theorem dX0_tellHits_1 : decode cX0_tellHits 1 = .ok (.istore 4, 2) := by decide +kernel
theorem dX0_tellHits_3 : decode cX0_tellHits 3 = .ok (.iload 4, 2) := by decide +kernel
theorem dX0_tellHits_5 : decode cX0_tellHits 5 = .ok (.bipush 8, 2) := by decide +kernel
theorem dX0_tellHits_7 : decode cX0_tellHits 7 = .ok (.if_icmp .ge 134, 3) := by decide +kernel
theorem dX0_tellHits_141 : decode cX0_tellHits 141 = .ok (.return_, 1) := by decide +kernel
theorem dX0_tellHits_10 : decode cX0_tellHits 10 = .ok (.iconst 0, 1) := by decide +kernel
theorem dX0_tellHits_11 : decode cX0_tellHits 11 = .ok (.istore 5, 2) := by decide +kernel
theorem dX0_tellHits_13 : decode cX0_tellHits 13 = .ok (.iload 5, 2) := by decide +kernel
theorem dX0_tellHits_15 : decode cX0_tellHits 15 = .ok (.bipush 36, 2) := by decide +kernel
theorem dX0_tellHits_17 : decode cX0_tellHits 17 = .ok (.if_icmp .ge 118, 3) := by decide +kernel
theorem dX0_tellHits_135 : decode cX0_tellHits 135 = .ok (.iinc 4 1, 3) := by decide +kernel
theorem dX0_tellHits_138 : decode cX0_tellHits 138 = .ok (.goto (-135), 3) := by decide +kernel
theorem dX0_tellHits_20 : decode cX0_tellHits 20 = .ok (.aload_n 0, 1) := by decide +kernel
theorem dX0_tellHits_21 : decode cX0_tellHits 21 = .ok (.getfield 22, 3) := by decide +kernel
theorem dX0_tellHits_24 : decode cX0_tellHits 24 = .ok (.iload 4, 2) := by decide +kernel
theorem dX0_tellHits_26 : decode cX0_tellHits 26 = .ok (.aaload, 1) := by decide +kernel
theorem dX0_tellHits_27 : decode cX0_tellHits 27 = .ok (.iload 5, 2) := by decide +kernel
theorem dX0_tellHits_29 : decode cX0_tellHits 29 = .ok (.aload_n 1, 1) := by decide +kernel
theorem dX0_tellHits_30 : decode cX0_tellHits 30 = .ok (.getfield 52, 3) := by decide +kernel
theorem dX0_tellHits_33 : decode cX0_tellHits 33 = .ok (.iload 5, 2) := by decide +kernel
set_option maxRecDepth 20000 in
theorem ggX0_tellHits_X11_isIn : GoodIn wsX0_tellHits wsX11_isIn := goodIn_r _ [6] (by decide +kernel) (by decide +kernel)
theorem dX0_tellHits_35 : decode cX0_tellHits 35 = .ok (.invokestatic 44, 3) := by decide +kernel
theorem dX0_tellHits_38 : decode cX0_tellHits 38 = .ok (.ifCond .eq 15, 3) := by decide +kernel
theorem dX0_tellHits_53 : decode cX0_tellHits 53 = .ok (.bipush 20, 2) := by decide +kernel
theorem dX0_tellHits_55 : decode cX0_tellHits 55 = .ok (.iconst 2, 1) := by decide +kernel
theorem dX0_tellHits_56 : decode cX0_tellHits 56 = .ok (.aload_n 0, 1) := by decide +kernel
theorem dX0_tellHits_57 : decode cX0_tellHits 57 = .ok (.getfield 9, 3) := by decide +kernel
theorem dX0_tellHits_60 : decode cX0_tellHits 60 = .ok (.iload 5, 2) := by decide +kernel
theorem dX0_tellHits_62 : decode cX0_tellHits 62 = .ok (.iaload, 1) := by decide +kernel
theorem dX0_tellHits_63 : decode cX0_tellHits 63 = .ok (.imul, 1) := by decide +kernel
theorem dX0_tellHits_64 : decode cX0_tellHits 64 = .ok (.isub, 1) := by decide +kernel
theorem dX0_tellHits_65 : decode cX0_tellHits 65 = .ok (.lload_n 2, 1) := by decide +kernel
theorem dX0_tellHits_66 : decode cX0_tellHits 66 = .ok (.iload 5, 2) := by decide +kernel
theorem dX0_tellHits_68 : decode cX0_tellHits 68 = .ok (.iload 4, 2) := by decide +kernel
set_option maxRecDepth 20000 in
theorem ggX0_tellHits_X11_besideOrSame : GoodIn wsX0_tellHits wsX11_besideOrSame := goodIn_r _ [12, 13, 14, 15, 16, 5, 17, 18, 19, 20, 21, 22, 23] (by decide +kernel) (by decide +kernel)
theorem dX0_tellHits_70 : decode cX0_tellHits 70 = .ok (.invokestatic 56, 3) := by decide +kernel
set_option maxRecDepth 20000 in
theorem ggX0_tellHits_X0_hit : GoodIn wsX0_tellHits wsX0_hit := goodIn_r _ [10, 4, 5, 6] (by decide +kernel) (by decide +kernel)
set_option maxRecDepth 20000 in
theorem gX0_tellHits_X0_hit : GoodIn wsX0_tellHits (va_wsS RX0 73 yX0_hit wsX0_hit) := goodIn_app (goodIn_of _ (by decide +kernel)) ggX0_tellHits_X0_hit
theorem dX0_tellHits_73 : decode cX0_tellHits 73 = .ok (.invokestatic 73, 3) := by decide +kernel
theorem dX0_tellHits_76 : decode cX0_tellHits 76 = .ok (.imul, 1) := by decide +kernel
theorem dX0_tellHits_77 : decode cX0_tellHits 77 = .ok (.aload_n 0, 1) := by decide +kernel
theorem dX0_tellHits_78 : decode cX0_tellHits 78 = .ok (.getfield 9, 3) := by decide +kernel
theorem dX0_tellHits_81 : decode cX0_tellHits 81 = .ok (.iload 5, 2) := by decide +kernel
theorem dX0_tellHits_83 : decode cX0_tellHits 83 = .ok (.iaload, 1) := by decide +kernel
theorem dX0_tellHits_84 : decode cX0_tellHits 84 = .ok (.lload_n 2, 1) := by decide +kernel
theorem dX0_tellHits_85 : decode cX0_tellHits 85 = .ok (.iload 5, 2) := by decide +kernel
theorem dX0_tellHits_87 : decode cX0_tellHits 87 = .ok (.iload 4, 2) := by decide +kernel
theorem dX0_tellHits_89 : decode cX0_tellHits 89 = .ok (.bipush 7, 2) := by decide +kernel
theorem dX0_tellHits_91 : decode cX0_tellHits 91 = .ok (.iadd, 1) := by decide +kernel
theorem dX0_tellHits_92 : decode cX0_tellHits 92 = .ok (.bipush 7, 2) := by decide +kernel
theorem dX0_tellHits_94 : decode cX0_tellHits 94 = .ok (.iand, 1) := by decide +kernel
theorem dX0_tellHits_95 : decode cX0_tellHits 95 = .ok (.invokestatic 56, 3) := by decide +kernel
theorem dX0_tellHits_98 : decode cX0_tellHits 98 = .ok (.invokestatic 73, 3) := by decide +kernel
theorem dX0_tellHits_101 : decode cX0_tellHits 101 = .ok (.imul, 1) := by decide +kernel
theorem dX0_tellHits_102 : decode cX0_tellHits 102 = .ok (.iadd, 1) := by decide +kernel
theorem dX0_tellHits_103 : decode cX0_tellHits 103 = .ok (.aload_n 0, 1) := by decide +kernel
theorem dX0_tellHits_104 : decode cX0_tellHits 104 = .ok (.getfield 9, 3) := by decide +kernel
theorem dX0_tellHits_107 : decode cX0_tellHits 107 = .ok (.iload 5, 2) := by decide +kernel
theorem dX0_tellHits_109 : decode cX0_tellHits 109 = .ok (.iaload, 1) := by decide +kernel
theorem dX0_tellHits_110 : decode cX0_tellHits 110 = .ok (.lload_n 2, 1) := by decide +kernel
theorem dX0_tellHits_111 : decode cX0_tellHits 111 = .ok (.iload 5, 2) := by decide +kernel
theorem dX0_tellHits_113 : decode cX0_tellHits 113 = .ok (.iload 4, 2) := by decide +kernel
theorem dX0_tellHits_115 : decode cX0_tellHits 115 = .ok (.iconst 1, 1) := by decide +kernel
theorem dX0_tellHits_116 : decode cX0_tellHits 116 = .ok (.iadd, 1) := by decide +kernel
theorem dX0_tellHits_117 : decode cX0_tellHits 117 = .ok (.bipush 7, 2) := by decide +kernel
theorem dX0_tellHits_119 : decode cX0_tellHits 119 = .ok (.iand, 1) := by decide +kernel
theorem dX0_tellHits_120 : decode cX0_tellHits 120 = .ok (.invokestatic 56, 3) := by decide +kernel
theorem dX0_tellHits_123 : decode cX0_tellHits 123 = .ok (.invokestatic 73, 3) := by decide +kernel
theorem dX0_tellHits_126 : decode cX0_tellHits 126 = .ok (.imul, 1) := by decide +kernel
theorem dX0_tellHits_127 : decode cX0_tellHits 127 = .ok (.iadd, 1) := by decide +kernel
theorem dX0_tellHits_128 : decode cX0_tellHits 128 = .ok (.iastore, 1) := by decide +kernel
theorem dX0_tellHits_129 : decode cX0_tellHits 129 = .ok (.iinc 5 1, 3) := by decide +kernel
theorem dX0_tellHits_132 : decode cX0_tellHits 132 = .ok (.goto (-119), 3) := by decide +kernel
def pp (n j q : Nat) : Nat := match n with
  | 1 => j
  | 2 => nb j (q / 8)
  | _ => nb (nb j (q / 64)) (q / 8 % 8)
theorem pp_lt {n j q : Nat} (hj : j < 36) (hq : q < 512) : pp n j q < 36 := by
  unfold pp
  split
  · exact hj
  · exact if h : q / 8 < 8 then nb_lt hj h else by
      unfold nb; split
      · omega
      · exact hj
  · exact nb_lt (nb_lt hj (by omega)) (by omega)
theorem pth_pp (n j q : Nat) (h1 : 1 ≤ n) (h3 : n ≤ 3) (hq : q < 8 ^ n) : pth n j q = nb (pp n j q) (q % 8) := by
  have : n = 1 ∨ n = 2 ∨ n = 3 := by omega
  rcases this with rfl | rfl | rfl
  · rfl
  · show nb (nb j (q / 8 % 8)) (q % 8) = nb (nb j (q / 8)) (q % 8)
    have h : q < 64 := hq
    rw [show q / 8 % 8 = q / 8 by omega]
  · rfl
theorem hz_one' : ∀ o : Nat, o < 36 → ∀ c : Nat, c < 36 → hz ((1 : Int64) <<< ((nI o).toInt64 &&& 63)) c = if o = c then 1 else 0 := by decide +kernel
theorem hz_all' : ∀ c : Nat, c < 36 → hz 68719476735 c = 1 := by decide +kernel
theorem tv_best (n j o q : Nat) (hj : j < 36) (ho : o < 36) (h1 : 1 ≤ n) (h3 : n ≤ 3) (hq : q < 8 ^ n) : ind (pth n j q) n o = tv (n - 1) ((1 : Int64) <<< ((nI o).toInt64 &&& 63)) (pp n j q) (q % 8) := by
  have h512 : q < 512 := Nat.lt_of_lt_of_le hq (Nat.pow_le_pow_right (by omega) h3)
  rw [pth_pp n j q h1 h3 hq]
  unfold tv hv
  rw [hz_one' o ho _ (nb_lt (pp_lt hj h512) (by omega))]
  unfold ind
  split
  · have : ((20 : Int32) * 1).toInt64 = 20 := by decide
    rw [this, mul20', show n - 1 + 1 = n by omega]
  · have : ((20 : Int32) * 0).toInt64 = 0 := by decide
    rw [this, Int64.mul_zero]
theorem tv_safe (n j q : Nat) (hj : j < 36) (h1 : 1 ≤ n) (h3 : n ≤ 3) (hq : q < 8 ^ n) : lN (20 ^ n) = tv (n - 1) 68719476735 (pp n j q) (q % 8) := by
  have h512 : q < 512 := Nat.lt_of_lt_of_le hq (Nat.pow_le_pow_right (by omega) h3)
  unfold tv hv
  rw [hz_all' _ (nb_lt (pp_lt hj h512) (by omega)), show ((20 : Int32) * 1).toInt64 = 20 by decide, mul20', show n - 1 + 1 = n by omega]
theorem GG_const (a : Int64) (ha : (-1 : Int64) < a) : ∀ k, GG (fun _ => a) (k + 1) = (a, 0)
  | 0 => by
    show (if (-1 : Int64) < a then (a, 0) else ((-1 : Int64), 0)) = _
    rw [if_pos ha]
  | k + 1 => by
    have ih := GG_const a ha k
    show (if (GG (fun _ => a) (k + 1)).1 < a then (a, k + 1) else GG (fun _ => a) (k + 1)) = _
    rw [ih]
    exact if_neg (fun h => Int64.lt_irrefl h)
theorem wy_6 {n k : Nat} (hn : n ≤ 3) (hk : k < n) : (n = 1 ∧ k = 0) ∨ (n = 2 ∧ k = 0) ∨ (n = 2 ∧ k = 1) ∨ (n = 3 ∧ k = 0) ∨ (n = 3 ∧ k = 1) ∨ (n = 3 ∧ k = 2) := by omega

theorem kc_tellHits_0 : ∀ w ∈ wsX00, w ∈ wsX0_tellHits := by decide +kernel
theorem kc_tellHits_1 : (.fieldLink RX0 22 "MistHeaps$Chances" "hits" "[[I" : Cond) ∈ wsX0_tellHits := by decide +kernel
theorem kc_tellHits_2 : ∀ w ∈ wsX80, w ∈ wsX0_tellHits := by decide +kernel
theorem kc_tellHits_3 : (.fieldLink RX0 52 "MistHeaps$Scene" "edges" "J" : Cond) ∈ wsX0_tellHits := by decide +kernel
theorem kc_tellHits_4 : (.initialized RX11 : Cond) ∈ wsX0_tellHits := by decide +kernel
theorem kc_tellHits_5 : (.static yX11_isIn : Cond) ∈ wsX0_tellHits := by decide +kernel
theorem kc_tellHits_6 : (.fieldLink RX0 9 "MistHeaps$Chances" "drifts" "[I" : Cond) ∈ wsX0_tellHits := by decide +kernel
theorem kc_tellHits_7 : (.static yX11_besideOrSame : Cond) ∈ wsX0_tellHits := by decide +kernel
set_option maxHeartbeats 4000000 in
set_option maxRecDepth 100000 in
theorem c_tellHits (l : Launch) (dC : Nat → ClassId) (dI : Nat → Nat → Nat) (gd : Nat → Nat) (ch dr tO hO : Nat) (ft : Int64) (fr : Int32) (rh : Nat → Nat) (cD cHO cH : ClassId) (sc aTp aHl aHs aWk aBk aFc : Nat) (fD g0 g1 g2 g3 g4 g5 g6 g7 : Nat → Int32) (mk : Int64) (sz : Nat) (zD : ∀ x, x < 36 → fD x = 0) : Met l yX0_tellHits wsX0_tellHits ({ frames := 2, cells := 0, slots := 0, locals := 44 } : Room) (va_Pc [.ref ch, .ref sc, .long mk] (fun U => U.heap.size = sz ∧ va_P (dC, dI) vwCl [(ch, .inr (2, [.long ft, .int fr, .ref dr, .ref tO, .ref hO])), (sc, .inr (10, [.ref aTp, .int 0, .ref aHl, .int 0, .long 0, .int 0, .int 0, .ref aHs, .int 0, .ref aWk, .int 0, .ref aBk, .int 0, .ref aFc])), (dr, .inl (cD, 36, .inl fD)), (hO, .inl (cHO, 8, .inr (.inr (.inr (.inr (fun i => if i < 8 then some (rh i) else none)))))), ((rh 0), .inl (cH, 36, .inl g0)), ((rh 1), .inl (cH, 36, .inl g1)), ((rh 2), .inl (cH, 36, .inl g2)), ((rh 3), .inl (cH, 36, .inl g3)), ((rh 4), .inl (cH, 36, .inl g4)), ((rh 5), .inl (cH, 36, .inl g5)), ((rh 6), .inl (cH, 36, .inl g6)), ((rh 7), .inl (cH, 36, .inl g7))] U.heap ∧ va_K (dC, dI) vwCl [(cD, .int), (cHO, .array .int), (cH, .int), (cH, .int), (cH, .int), (cH, .int), (cH, .int), (cH, .int), (cH, .int), (cH, .int)] U ∧ va_D (fun _ => True) [(ch, .inr (2, [.long ft, .int fr, .ref dr, .ref tO, .ref hO])), (sc, .inr (10, [.ref aTp, .int 0, .ref aHl, .int 0, .long 0, .int 0, .int 0, .ref aHs, .int 0, .ref aWk, .int 0, .ref aBk, .int 0, .ref aFc])), (dr, .inl (cD, 36, .inl fD)), (hO, .inl (cHO, 8, .inr (.inr (.inr (.inr (fun i => if i < 8 then some (rh i) else none)))))), ((rh 0), .inl (cH, 36, .inl g0)), ((rh 1), .inl (cH, 36, .inl g1)), ((rh 2), .inl (cH, 36, .inl g2)), ((rh 3), .inl (cH, 36, .inl g3)), ((rh 4), .inl (cH, 36, .inl g4)), ((rh 5), .inl (cH, 36, .inl g5)), ((rh 6), .inl (cH, 36, .inl g6)), ((rh 7), .inl (cH, 36, .inl g7))] ∧ Gl gd (va_A [(ch, .inr (2, [.long ft, .int fr, .ref dr, .ref tO, .ref hO])), (sc, .inr (10, [.ref aTp, .int 0, .ref aHl, .int 0, .long 0, .int 0, .int 0, .ref aHs, .int 0, .ref aWk, .int 0, .ref aBk, .int 0, .ref aFc])), (dr, .inl (cD, 36, .inl fD)), (hO, .inl (cHO, 8, .inr (.inr (.inr (.inr (fun i => if i < 8 then some (rh i) else none)))))), ((rh 0), .inl (cH, 36, .inl g0)), ((rh 1), .inl (cH, 36, .inl g1)), ((rh 2), .inl (cH, 36, .inl g2)), ((rh 3), .inl (cH, 36, .inl g3)), ((rh 4), .inl (cH, 36, .inl g4)), ((rh 5), .inl (cH, 36, .inl g5)), ((rh 6), .inl (cH, 36, .inl g6)), ((rh 7), .inl (cH, 36, .inl g7))] sz) U)) (va_Qv (fun (u : (Nat → Int32) × (Nat → Int32) × (Nat → Int32) × (Nat → Int32) × (Nat → Int32) × (Nat → Int32) × (Nat → Int32) × (Nat → Int32)) => match u with | (g0b, g1b, g2b, g3b, g4b, g5b, g6b, g7b) => (∀ x, x < 36 → g0b x = hv mk 0 x) ∧ (∀ x, x < 36 → g1b x = hv mk 1 x) ∧ (∀ x, x < 36 → g2b x = hv mk 2 x) ∧ (∀ x, x < 36 → g3b x = hv mk 3 x) ∧ (∀ x, x < 36 → g4b x = hv mk 4 x) ∧ (∀ x, x < 36 → g5b x = hv mk 5 x) ∧ (∀ x, x < 36 → g6b x = hv mk 6 x) ∧ (∀ x, x < 36 → g7b x = hv mk 7 x)) (fun (u : (Nat → Int32) × (Nat → Int32) × (Nat → Int32) × (Nat → Int32) × (Nat → Int32) × (Nat → Int32) × (Nat → Int32) × (Nat → Int32)) (t : State) => match u with | (g0b, g1b, g2b, g3b, g4b, g5b, g6b, g7b) => va_P (dC, dI) vwCl [(ch, .inr (2, [.long ft, .int fr, .ref dr, .ref tO, .ref hO])), (sc, .inr (10, [.ref aTp, .int 0, .ref aHl, .int 0, .long 0, .int 0, .int 0, .ref aHs, .int 0, .ref aWk, .int 0, .ref aBk, .int 0, .ref aFc])), (dr, .inl (cD, 36, .inl fD)), (hO, .inl (cHO, 8, .inr (.inr (.inr (.inr (fun i => if i < 8 then some (rh i) else none)))))), ((rh 0), .inl (cH, 36, .inl g0b)), ((rh 1), .inl (cH, 36, .inl g1b)), ((rh 2), .inl (cH, 36, .inl g2b)), ((rh 3), .inl (cH, 36, .inl g3b)), ((rh 4), .inl (cH, 36, .inl g4b)), ((rh 5), .inl (cH, 36, .inl g5b)), ((rh 6), .inl (cH, 36, .inl g6b)), ((rh 7), .inl (cH, 36, .inl g7b))] t.heap ∧ va_K (dC, dI) vwCl [(cD, .int), (cHO, .array .int), (cH, .int), (cH, .int), (cH, .int), (cH, .int), (cH, .int), (cH, .int), (cH, .int), (cH, .int)] t ∧ va_D (va_A [(ch, .inr (2, [.long ft, .int fr, .ref dr, .ref tO, .ref hO])), (sc, .inr (10, [.ref aTp, .int 0, .ref aHl, .int 0, .long 0, .int 0, .int 0, .ref aHs, .int 0, .ref aWk, .int 0, .ref aBk, .int 0, .ref aFc])), (dr, .inl (cD, 36, .inl fD)), (hO, .inl (cHO, 8, .inr (.inr (.inr (.inr (fun i => if i < 8 then some (rh i) else none)))))), ((rh 0), .inl (cH, 36, .inl g0)), ((rh 1), .inl (cH, 36, .inl g1)), ((rh 2), .inl (cH, 36, .inl g2)), ((rh 3), .inl (cH, 36, .inl g3)), ((rh 4), .inl (cH, 36, .inl g4)), ((rh 5), .inl (cH, 36, .inl g5)), ((rh 6), .inl (cH, 36, .inl g6)), ((rh 7), .inl (cH, 36, .inl g7))] sz) [(ch, .inr (2, [.long ft, .int fr, .ref dr, .ref tO, .ref hO])), (sc, .inr (10, [.ref aTp, .int 0, .ref aHl, .int 0, .long 0, .int 0, .int 0, .ref aHs, .int 0, .ref aWk, .int 0, .ref aBk, .int 0, .ref aFc])), (dr, .inl (cD, 36, .inl fD)), (hO, .inl (cHO, 8, .inr (.inr (.inr (.inr (fun i => if i < 8 then some (rh i) else none)))))), ((rh 0), .inl (cH, 36, .inl g0b)), ((rh 1), .inl (cH, 36, .inl g1b)), ((rh 2), .inl (cH, 36, .inl g2b)), ((rh 3), .inl (cH, 36, .inl g3b)), ((rh 4), .inl (cH, 36, .inl g4b)), ((rh 5), .inl (cH, 36, .inl g5b)), ((rh 6), .inl (cH, 36, .inl g6b)), ((rh 7), .inl (cH, 36, .inl g7b))]) (va_A [(ch, .inr (2, [.long ft, .int fr, .ref dr, .ref tO, .ref hO])), (sc, .inr (10, [.ref aTp, .int 0, .ref aHl, .int 0, .long 0, .int 0, .int 0, .ref aHs, .int 0, .ref aWk, .int 0, .ref aBk, .int 0, .ref aFc])), (dr, .inl (cD, 36, .inl fD)), (hO, .inl (cHO, 8, .inr (.inr (.inr (.inr (fun i => if i < 8 then some (rh i) else none)))))), ((rh 0), .inl (cH, 36, .inl g0)), ((rh 1), .inl (cH, 36, .inl g1)), ((rh 2), .inl (cH, 36, .inl g2)), ((rh 3), .inl (cH, 36, .inl g3)), ((rh 4), .inl (cH, 36, .inl g4)), ((rh 5), .inl (cH, 36, .inl g5)), ((rh 6), .inl (cH, 36, .inl g6)), ((rh 7), .inl (cH, 36, .inl g7))] sz)) 0 0 (va_A [(ch, .inr (2, [.long ft, .int fr, .ref dr, .ref tO, .ref hO])), (sc, .inr (10, [.ref aTp, .int 0, .ref aHl, .int 0, .long 0, .int 0, .int 0, .ref aHs, .int 0, .ref aWk, .int 0, .ref aBk, .int 0, .ref aFc])), (dr, .inl (cD, 36, .inl fD)), (hO, .inl (cHO, 8, .inr (.inr (.inr (.inr (fun i => if i < 8 then some (rh i) else none)))))), ((rh 0), .inl (cH, 36, .inl g0)), ((rh 1), .inl (cH, 36, .inl g1)), ((rh 2), .inl (cH, 36, .inl g2)), ((rh 3), .inl (cH, 36, .inl g3)), ((rh 4), .inl (cH, 36, .inl g4)), ((rh 5), .inl (cH, 36, .inl g5)), ((rh 6), .inl (cH, 36, .inl g6)), ((rh 7), .inl (cH, 36, .inl g7))] sz) := by
  refine met_ofQ (cc := cX0_tellHits) (maxL := 6) (ret := none) (by decide) rfl ?_
  intro p e s m args below meth c s₁ Q B hml hv hQ
  obtain ⟨rfl, hsz, hP, hK, hD0, hG⟩ := hv
  have hx := B.exec
  have hb := B.bytes
  have hr := B.returns
  have hts := atoms_spec (ws := wsX0_tellHits) B.pre
  have hown : s.vm.findClass RX0 = some m.cls := findClass_of_methodNamed B.named
  have hlocks := B.notSynchronized
  subst hsz
  have hD := hD0.self (sz := s.heap.size)
  generalize hAe : va_A [(ch, .inr (2, [.long ft, .int fr, .ref dr, .ref tO, .ref hO])), (sc, .inr (10, [.ref aTp, .int 0, .ref aHl, .int 0, .long 0, .int 0, .int 0, .ref aHs, .int 0, .ref aWk, .int 0, .ref aBk, .int 0, .ref aFc])), (dr, .inl (cD, 36, .inl fD)), (hO, .inl (cHO, 8, .inr (.inr (.inr (.inr (fun i => if i < 8 then some (rh i) else none)))))), ((rh 0), .inl (cH, 36, .inl g0)), ((rh 1), .inl (cH, 36, .inl g1)), ((rh 2), .inl (cH, 36, .inl g2)), ((rh 3), .inl (cH, 36, .inl g3)), ((rh 4), .inl (cH, 36, .inl g4)), ((rh 5), .inl (cH, 36, .inl g5)), ((rh 6), .inl (cH, 36, .inl g6)), ((rh 7), .inl (cH, 36, .inl g7))] s.heap.size = A at hD hQ hG ⊢
  have hA : ∀ q : Nat, s.heap.size ≤ q → A q := fun q h => by rw [← hAe]; exact Or.inr h
  have hS : va_S A s.heap s.heap [] := va_S.rf
  have hl := lv_entry [.ref ch, .ref sc, .long mk] (n := 6) (Nat.le_of_ble_eq_true rfl)
  rw [lg_entry_eq]
  generalize (lg_sl [.ref ch, .ref sc, .long mk] ++ List.replicate (6 - (lg_sl [.ref ch, .ref sc, .long mk]).length) Slot.unset).toArray = ls at hl ⊢
  generalize hag : ([.ref ch, .ref sc, .long mk] : List Value).toArray = args at hts hQ ⊢
  have hl : lv_has ls 6 [(0, .ref ch), (1, .ref sc), (2, .long mk)] := hl
  obtain ⟨H, hH⟩ : ∃ H : Heap, H = s.heap := ⟨_, rfl⟩
  rw [← hH] at hP
  rw [← hH]
  have hS : va_S A s.heap H [] := by rw [hH]; exact hS
  obtain ⟨locs, hlo⟩ : ∃ L : List Loc, L = [] := ⟨_, rfl⟩
  rw [← hlo] at hS
  rw [← hlo]
  clear hH hlo
  refine lv_iconst (v := 0) hx hb dX0_tellHits_0 (by decide) ?_
  refine lv_istore (lv' := [(4, .int 0), (0, .ref ch), (1, .ref sc), (2, .long mk)]) hx hb dX0_tellHits_1 hl (by decide) rfl (fun ls hl => ?_)
  have L3 : ∀ (nF : Nat) (w : Nat) (b0 : Nat → Int32) (b1 : Nat → Int32) (b2 : Nat → Int32) (b3 : Nat → Int32) (b4 : Nat → Int32) (b5 : Nat → Int32) (b6 : Nat → Int32) (b7 : Nat → Int32), 8 - w < nF → (w ≤ 8) → ((0 < w → ∀ x, x < 36 → b0 x = hv mk 0 x)) → ((1 < w → ∀ x, x < 36 → b1 x = hv mk 1 x)) → ((2 < w → ∀ x, x < 36 → b2 x = hv mk 2 x)) → ((3 < w → ∀ x, x < 36 → b3 x = hv mk 3 x)) → ((4 < w → ∀ x, x < 36 → b4 x = hv mk 4 x)) → ((5 < w → ∀ x, x < 36 → b5 x = hv mk 5 x)) → ((6 < w → ∀ x, x < 36 → b6 x = hv mk 6 x)) → ((7 < w → ∀ x, x < 36 → b7 x = hv mk 7 x)) → ∀ (H : Heap) (locs : List Loc), va_K (dC, dI) vwCl [(cD, .int), (cHO, .array .int), (cH, .int), (cH, .int), (cH, .int), (cH, .int), (cH, .int), (cH, .int), (cH, .int), (cH, .int)] s → va_P (dC, dI) vwCl [(ch, .inr (2, [.long ft, .int fr, .ref dr, .ref tO, .ref hO])), (sc, .inr (10, [.ref aTp, .int 0, .ref aHl, .int 0, .long 0, .int 0, .int 0, .ref aHs, .int 0, .ref aWk, .int 0, .ref aBk, .int 0, .ref aFc])), (dr, .inl (cD, 36, .inl fD)), (hO, .inl (cHO, 8, .inr (.inr (.inr (.inr (fun i => if i < 8 then some (rh i) else none)))))), ((rh 0), .inl (cH, 36, .inl b0)), ((rh 1), .inl (cH, 36, .inl b1)), ((rh 2), .inl (cH, 36, .inl b2)), ((rh 3), .inl (cH, 36, .inl b3)), ((rh 4), .inl (cH, 36, .inl b4)), ((rh 5), .inl (cH, 36, .inl b5)), ((rh 6), .inl (cH, 36, .inl b6)), ((rh 7), .inl (cH, 36, .inl b7))] H → va_D A [(ch, .inr (2, [.long ft, .int fr, .ref dr, .ref tO, .ref hO])), (sc, .inr (10, [.ref aTp, .int 0, .ref aHl, .int 0, .long 0, .int 0, .int 0, .ref aHs, .int 0, .ref aWk, .int 0, .ref aBk, .int 0, .ref aFc])), (dr, .inl (cD, 36, .inl fD)), (hO, .inl (cHO, 8, .inr (.inr (.inr (.inr (fun i => if i < 8 then some (rh i) else none)))))), ((rh 0), .inl (cH, 36, .inl b0)), ((rh 1), .inl (cH, 36, .inl b1)), ((rh 2), .inl (cH, 36, .inl b2)), ((rh 3), .inl (cH, 36, .inl b3)), ((rh 4), .inl (cH, 36, .inl b4)), ((rh 5), .inl (cH, 36, .inl b5)), ((rh 6), .inl (cH, 36, .inl b6)), ((rh 7), .inl (cH, 36, .inl b7))] → va_S A s.heap H locs → ∀ (ls : Array Slot), lv_has ls 6 [(0, .ref ch), (1, .ref sc), (2, .long mk), (4, .int (nI w))] → W p l e ({ frames := 2, cells := 0, slots := 0, locals := 44 } : Room) s m args below meth c H locs 0 0 Q (F0 m 3 ls []) := by
    intro nF
    induction nF with
    | zero => intro w b0 b1 b2 b3 b4 b5 b6 b7 hm; exact absurd hm (Nat.not_lt_zero _)
    | succ nF ih3 =>
      intro w b0 b1 b2 b3 b4 b5 b6 b7 hm hi a0 a1 a2 a3 a4 a5 a6 a7 H locs hK hP hD hS ls hl
      refine lv_iload hx hb dX0_tellHits_3 (lv_at hl 3 rfl) ?_
      refine lv_bipush (v := 8) hx hb dX0_tellHits_5 (by decide) ?_
      refine lv_icmp_ge (tgt := 141) hx hb dX0_tellHits_7 (by decide) (fun c_1 => ?_) (fun c_1 => ?_)
      · skip
        have c_1 : 8 ≤ w := (nI_leI (a := 8) (b := w) (by omega) (by omega)).mp c_1
        rw [hQ]
        have hP9 := hP.sub (ws' := [(ch, .inr (2, [.long ft, .int fr, .ref dr, .ref tO, .ref hO])), (sc, .inr (10, [.ref aTp, .int 0, .ref aHl, .int 0, .long 0, .int 0, .int 0, .ref aHs, .int 0, .ref aWk, .int 0, .ref aBk, .int 0, .ref aFc])), (dr, .inl (cD, 36, .inl fD)), (hO, .inl (cHO, 8, .inr (.inr (.inr (.inr (fun i => if i < 8 then some (rh i) else none)))))), ((rh 0), .inl (cH, 36, .inl b0)), ((rh 1), .inl (cH, 36, .inl b1)), ((rh 2), .inl (cH, 36, .inl b2)), ((rh 3), .inl (cH, 36, .inl b3)), ((rh 4), .inl (cH, 36, .inl b4)), ((rh 5), .inl (cH, 36, .inl b5)), ((rh 6), .inl (cH, 36, .inl b6)), ((rh 7), .inl (cH, 36, .inl b7))]) [0, 1, 2, 3, 4, 5, 6, 7, 8, 9, 10, 11] rfl
        have hD9 := hD.sub (ws' := [(ch, .inr (2, [.long ft, .int fr, .ref dr, .ref tO, .ref hO])), (sc, .inr (10, [.ref aTp, .int 0, .ref aHl, .int 0, .long 0, .int 0, .int 0, .ref aHs, .int 0, .ref aWk, .int 0, .ref aBk, .int 0, .ref aFc])), (dr, .inl (cD, 36, .inl fD)), (hO, .inl (cHO, 8, .inr (.inr (.inr (.inr (fun i => if i < 8 then some (rh i) else none)))))), ((rh 0), .inl (cH, 36, .inl b0)), ((rh 1), .inl (cH, 36, .inl b1)), ((rh 2), .inl (cH, 36, .inl b2)), ((rh 3), .inl (cH, 36, .inl b3)), ((rh 4), .inl (cH, 36, .inl b4)), ((rh 5), .inl (cH, 36, .inl b5)), ((rh 6), .inl (cH, 36, .inl b6)), ((rh 7), .inl (cH, 36, .inl b7))]) [0, 1, 2, 3, 4, 5, 6, 7, 8, 9, 10, 11] (by decide) rfl
        have hK9 := hK.sub (tys' := [(cD, .int), (cHO, .array .int), (cH, .int), (cH, .int), (cH, .int), (cH, .int), (cH, .int), (cH, .int), (cH, .int), (cH, .int)]) [0, 1, 2, 3, 4, 5, 6, 7, 8, 9] rfl
        exact W.vret hx hb hr (fun tQ htQ hWQ => ⟨⟨(b0, b1, b2, b3, b4, b5, b6, b7), rfl, ⟨a0 (by omega), a1 (by omega), a2 (by omega), a3 (by omega), a4 (by omega), a5 (by omega), a6 (by omega), a7 (by omega)⟩, by rw [htQ]; exact hP9, va_K.moved hWQ.alike hK9, hD9⟩, hS.F htQ⟩) hS.2.2 dX0_tellHits_141
      · skip
        have c_1 : ¬ 8 ≤ w := fun q => c_1 ((nI_leI (a := 8) (b := w) (by omega) (by omega)).mpr q)
        rcases lt8 (w := w) (by omega) with rfl | rfl | rfl | rfl | rfl | rfl | rfl | rfl
        · skip
          refine lv_iconst (v := 0) hx hb dX0_tellHits_10 (by decide) ?_
          refine lv_istore (lv' := [(5, .int 0), (0, .ref ch), (1, .ref sc), (2, .long mk), (4, .int 0)]) hx hb dX0_tellHits_11 hl (by decide) rfl (fun ls hl => ?_)
          have L13 : ∀ (nF : Nat) (i : Nat) (g : Nat → Int32), 36 - i < nF → (i ≤ 36) → ((∀ x, x < i → g x = hv mk 0 x)) → ∀ (H : Heap) (locs : List Loc), va_K (dC, dI) vwCl [(cD, .int), (cHO, .array .int), (cH, .int), (cH, .int), (cH, .int), (cH, .int), (cH, .int), (cH, .int), (cH, .int), (cH, .int)] s → va_P (dC, dI) vwCl [(ch, .inr (2, [.long ft, .int fr, .ref dr, .ref tO, .ref hO])), (sc, .inr (10, [.ref aTp, .int 0, .ref aHl, .int 0, .long 0, .int 0, .int 0, .ref aHs, .int 0, .ref aWk, .int 0, .ref aBk, .int 0, .ref aFc])), (dr, .inl (cD, 36, .inl fD)), (hO, .inl (cHO, 8, .inr (.inr (.inr (.inr (fun i => if i < 8 then some (rh i) else none)))))), ((rh 0), .inl (cH, 36, .inl g)), ((rh 1), .inl (cH, 36, .inl b1)), ((rh 2), .inl (cH, 36, .inl b2)), ((rh 3), .inl (cH, 36, .inl b3)), ((rh 4), .inl (cH, 36, .inl b4)), ((rh 5), .inl (cH, 36, .inl b5)), ((rh 6), .inl (cH, 36, .inl b6)), ((rh 7), .inl (cH, 36, .inl b7))] H → va_D A [(ch, .inr (2, [.long ft, .int fr, .ref dr, .ref tO, .ref hO])), (sc, .inr (10, [.ref aTp, .int 0, .ref aHl, .int 0, .long 0, .int 0, .int 0, .ref aHs, .int 0, .ref aWk, .int 0, .ref aBk, .int 0, .ref aFc])), (dr, .inl (cD, 36, .inl fD)), (hO, .inl (cHO, 8, .inr (.inr (.inr (.inr (fun i => if i < 8 then some (rh i) else none)))))), ((rh 0), .inl (cH, 36, .inl g)), ((rh 1), .inl (cH, 36, .inl b1)), ((rh 2), .inl (cH, 36, .inl b2)), ((rh 3), .inl (cH, 36, .inl b3)), ((rh 4), .inl (cH, 36, .inl b4)), ((rh 5), .inl (cH, 36, .inl b5)), ((rh 6), .inl (cH, 36, .inl b6)), ((rh 7), .inl (cH, 36, .inl b7))] → va_S A s.heap H locs → ∀ (ls : Array Slot), lv_has ls 6 [(0, .ref ch), (1, .ref sc), (2, .long mk), (4, .int 0), (5, .int (nI i))] → W p l e ({ frames := 2, cells := 0, slots := 0, locals := 44 } : Room) s m args below meth c H locs 0 0 Q (F0 m 13 ls []) := by
            intro nF
            induction nF with
            | zero => intro i g hm; exact absurd hm (Nat.not_lt_zero _)
            | succ nF ih13 =>
              intro i g hm hi2 hg H locs hK hP hD hS ls hl
              refine lv_iload hx hb dX0_tellHits_13 (lv_at hl 4 rfl) ?_
              refine lv_bipush (v := 36) hx hb dX0_tellHits_15 (by decide) ?_
              refine lv_icmp_ge (tgt := 135) hx hb dX0_tellHits_17 (by decide) (fun c_2 => ?_) (fun c_2 => ?_)
              · skip
                have c_2 : 36 ≤ i := (nI_leI (a := 36) (b := i) (by omega) (by omega)).mp c_2
                refine lv_iinc (v := 1) (lv' := [(4, .int 1), (0, .ref ch), (1, .ref sc), (2, .long mk), (5, .int (nI i))]) hx hb dX0_tellHits_135 hl (k := 3) rfl (by decide) (by decide) rfl (fun ls hl => ?_)
                refine lv_goto (tgt := 3) hx hb dX0_tellHits_138 (by decide) ?_
                exact ih3 (1) _ _ _ _ _ _ _ _ (by omega) (by omega) (fun _ x hx => hg x (by omega)) (fun q => absurd q (by omega)) (fun q => absurd q (by omega)) (fun q => absurd q (by omega)) (fun q => absurd q (by omega)) (fun q => absurd q (by omega)) (fun q => absurd q (by omega)) (fun q => absurd q (by omega)) _ _ (hK.sub [0, 1, 2, 3, 4, 5, 6, 7, 8, 9] rfl) (hP.sub [0, 1, 2, 3, 4, 5, 6, 7, 8, 9, 10, 11] rfl) (hD.sub [0, 1, 2, 3, 4, 5, 6, 7, 8, 9, 10, 11] (by decide) rfl) hS ls (lv_sub hl [1, 2, 3, 0] rfl)
              · skip
                have c_2 : ¬ 36 ≤ i := fun q => c_2 ((nI_leI (a := 36) (b := i) (by omega) (by omega)).mpr q)
                refine lv_aload_n hx hb dX0_tellHits_20 rfl (lv_at hl 0 rfl) ?_
                refine va_get (D := (dC, dI)) (ci := 2) (v := .ref hO) (C := RX0) (T := TX0) (N := 5) hx hb hts kc_tellHits_0 hown hK hP 0 rfl rfl 4 (by decide) (hts (.fieldLink RX0 22 "MistHeaps$Chances" "hits" "[[I") kc_tellHits_1) (fun _ h9 => h9) rfl dX0_tellHits_21 ?_
                refine lv_iload hx hb dX0_tellHits_24 (lv_at hl 3 rfl) ?_
                refine va_alda hx hb hK hP 3 1 rfl rfl (vp_in_nI (n := 0) (N := 8) (by omega) (by omega)) dX0_tellHits_26 ?_
                refine qq_as (v := .ref (rh 0)) (rfl) ?_
                refine lv_iload hx hb dX0_tellHits_27 (lv_at hl 4 rfl) ?_
                refine lv_aload_n hx hb dX0_tellHits_29 rfl (lv_at hl 1 rfl) ?_
                refine va_get (D := (dC, dI)) (ci := 10) (v := .long 0) (C := RX8) (T := TX8) (N := 14) hx hb hts kc_tellHits_2 hown hK hP 1 rfl rfl 4 (by decide) (hts (.fieldLink RX0 52 "MistHeaps$Scene" "edges" "J") kc_tellHits_3) (fun _ h9 => h9) rfl dX0_tellHits_30 ?_
                refine lv_iload hx hb dX0_tellHits_33 (lv_at hl 4 rfl) ?_
                refine vp_callSi (va_runSN (As := [.long 0, .int (nI i)]) (rest := [.int (nI i), .ref (rh 0)]) ⟨hx, hb, hml, hown, hts⟩ (c_isIn l dC dI 0 i) ⟨va_cnB 2 hts ggX0_tellHits_X11_isIn rfl rfl rfl (hG.1 (.methodLinkNest RX0 44 yX11_isIn "MistHeaps") (by decide +kernel)) (hts (.initialized RX11) kc_tellHits_4) (by decide +kernel) ⟨Nat.le_of_ble_eq_true rfl, Nat.le_of_ble_eq_true rfl⟩, (hts (.static yX11_isIn) kc_tellHits_5), trivial⟩ ⟨fun a U g mk q => ⟨q.1, trivial⟩, fun U hU hW => ⟨rfl, trivial⟩⟩ rfl rfl hl.1 rfl (lv_room (Nat.le_of_ble_eq_true rfl)) dX0_tellHits_35 ⟨Nat.le_of_ble_eq_true rfl, Nat.le_of_ble_eq_true rfl⟩).run (fun r_3 hw_4 => ?_)
                refine qi_as (y := 0) (hw_4.trans (hz_e0 i (by omega))) ?_
                refine lv_if_eq (tgt := 53) hx hb dX0_tellHits_38 (by decide) (fun _ => ?_) (fun c_5 => absurd c_5 (by decide))
                refine lv_bipush (v := 20) hx hb dX0_tellHits_53 (by decide) ?_
                refine lv_iconst (v := 2) hx hb dX0_tellHits_55 (by decide) ?_
                refine lv_aload_n hx hb dX0_tellHits_56 rfl (lv_at hl 0 rfl) ?_
                refine va_get (D := (dC, dI)) (ci := 2) (v := .ref dr) (C := RX0) (T := TX0) (N := 5) hx hb hts kc_tellHits_0 hown hK hP 0 rfl rfl 2 (by decide) (hts (.fieldLink RX0 9 "MistHeaps$Chances" "drifts" "[I") kc_tellHits_6) (fun _ h9 => h9) rfl dX0_tellHits_57 ?_
                refine lv_iload hx hb dX0_tellHits_60 (lv_at hl 4 rfl) ?_
                refine va_iald hx hb hK hP 2 0 rfl rfl (vp_in_nI (n := i) (N := 36) (by omega) (by omega)) dX0_tellHits_62 ?_
                refine qi_as (y := 0) ((show fD (nI i).toNatClampNeg = fD i from by rw [nI_clamp (by omega)]).trans (zD i (by omega))) ?_
                refine lv_imul hx hb dX0_tellHits_63 ?_
                refine qi_as (y := 0) (by decide) ?_
                refine lv_isub hx hb dX0_tellHits_64 ?_
                refine qi_as (y := 20) (by decide) ?_
                refine lv_lload_n hx hb dX0_tellHits_65 rfl (lv_at hl 2 rfl) ?_
                refine lv_iload hx hb dX0_tellHits_66 (lv_at hl 4 rfl) ?_
                refine lv_iload hx hb dX0_tellHits_68 (lv_at hl 3 rfl) ?_
                refine vp_callSi (va_runSN (As := [.int (nI i), .int 0]) (rest := [.long mk, .int 20, .int (nI i), .ref (rh 0)]) ⟨hx, hb, hml, hown, hts⟩ (c_beside l dC dI gd i (0) (by omega) (by omega)) ⟨va_cnB 2 hts ggX0_tellHits_X11_besideOrSame rfl rfl rfl (hG.1 (.methodLinkNest RX0 56 yX11_besideOrSame "MistHeaps") (by decide +kernel)) (hts (.initialized RX11) kc_tellHits_4) (by decide +kernel) ⟨Nat.le_of_ble_eq_true rfl, Nat.le_of_ble_eq_true rfl⟩, (hts (.static yX11_besideOrSame) kc_tellHits_7), trivial⟩ ⟨fun a U g mk q => by obtain ⟨q0, qhG⟩ := q; exact ⟨q0, qhG.same rfl rfl⟩, fun U hU hW => ⟨rfl, hG.callF hS hU hW⟩⟩ rfl rfl hl.1 rfl (lv_room (Nat.le_of_ble_eq_true rfl)) dX0_tellHits_70 ⟨Nat.le_of_ble_eq_true rfl, Nat.le_of_ble_eq_true rfl⟩).run (fun r_6 hw_7 => ?_)
                refine qi_as (y := nI (nb i 0)) (hw_7) ?_
                have hn_8 : nb i 0 < 36 := nb_lt (by omega) (by omega)
                refine vp_callSi (va_runS (As := [.long mk, .int (nI (nb i 0))]) (rest := [.int 20, .int (nI i), .ref (rh 0)]) ⟨hx, hb, hml, hown, hts⟩ (c_hit l dC dI gd mk (nb i 0)) (va_cwS 2 hts gX0_tellHits_X0_hit rfl rfl rfl (by decide +kernel) ⟨Nat.le_of_ble_eq_true rfl, Nat.le_of_ble_eq_true rfl⟩) ⟨fun a U g mk q => by obtain ⟨q0, qhG⟩ := q; exact ⟨q0, qhG.same rfl rfl⟩, fun U hU hW => ⟨rfl, hG.callF hS hU hW⟩⟩ rfl rfl hl.1 rfl (lv_room (Nat.le_of_ble_eq_true rfl)) dX0_tellHits_73 ⟨Nat.le_of_ble_eq_true rfl, Nat.le_of_ble_eq_true rfl⟩).run (fun r_9 hw_10 => ?_)
                refine qi_as (y := hz mk (nb i 0)) (hw_10) ?_
                refine lv_imul hx hb dX0_tellHits_76 ?_
                refine lv_aload_n hx hb dX0_tellHits_77 rfl (lv_at hl 0 rfl) ?_
                refine va_get (D := (dC, dI)) (ci := 2) (v := .ref dr) (C := RX0) (T := TX0) (N := 5) hx hb hts kc_tellHits_0 hown hK hP 0 rfl rfl 2 (by decide) (hts (.fieldLink RX0 9 "MistHeaps$Chances" "drifts" "[I") kc_tellHits_6) (fun _ h9 => h9) rfl dX0_tellHits_78 ?_
                refine lv_iload hx hb dX0_tellHits_81 (lv_at hl 4 rfl) ?_
                refine va_iald hx hb hK hP 2 0 rfl rfl (vp_in_nI (n := i) (N := 36) (by omega) (by omega)) dX0_tellHits_83 ?_
                refine qi_as (y := 0) ((show fD (nI i).toNatClampNeg = fD i from by rw [nI_clamp (by omega)]).trans (zD i (by omega))) ?_
                refine lv_lload_n hx hb dX0_tellHits_84 rfl (lv_at hl 2 rfl) ?_
                refine lv_iload hx hb dX0_tellHits_85 (lv_at hl 4 rfl) ?_
                refine lv_iload hx hb dX0_tellHits_87 (lv_at hl 3 rfl) ?_
                refine lv_bipush (v := 7) hx hb dX0_tellHits_89 (by decide) ?_
                refine lv_iadd hx hb dX0_tellHits_91 ?_
                refine qi_as (y := 7) (by decide) ?_
                refine lv_bipush (v := 7) hx hb dX0_tellHits_92 (by decide) ?_
                refine lv_iand hx hb dX0_tellHits_94 ?_
                refine qi_as (y := 7) (by decide) ?_
                refine vp_callSi (va_runSN (As := [.int (nI i), .int 7]) (rest := [.long mk, .int 0, .int (20 * (hz mk (nb i 0))), .int (nI i), .ref (rh 0)]) ⟨hx, hb, hml, hown, hts⟩ (c_beside l dC dI gd i (7) (by omega) (by omega)) ⟨va_cnB 2 hts ggX0_tellHits_X11_besideOrSame rfl rfl rfl (hG.1 (.methodLinkNest RX0 56 yX11_besideOrSame "MistHeaps") (by decide +kernel)) (hts (.initialized RX11) kc_tellHits_4) (by decide +kernel) ⟨Nat.le_of_ble_eq_true rfl, Nat.le_of_ble_eq_true rfl⟩, (hts (.static yX11_besideOrSame) kc_tellHits_7), trivial⟩ ⟨fun a U g mk q => by obtain ⟨q0, qhG⟩ := q; exact ⟨q0, qhG.same rfl rfl⟩, fun U hU hW => ⟨rfl, hG.callF hS hU hW⟩⟩ rfl rfl hl.1 rfl (lv_room (Nat.le_of_ble_eq_true rfl)) dX0_tellHits_95 ⟨Nat.le_of_ble_eq_true rfl, Nat.le_of_ble_eq_true rfl⟩).run (fun r_11 hw_12 => ?_)
                refine qi_as (y := nI (nb i 7)) (hw_12) ?_
                have hn_13 : nb i 7 < 36 := nb_lt (by omega) (by omega)
                refine vp_callSi (va_runS (As := [.long mk, .int (nI (nb i 7))]) (rest := [.int 0, .int (20 * (hz mk (nb i 0))), .int (nI i), .ref (rh 0)]) ⟨hx, hb, hml, hown, hts⟩ (c_hit l dC dI gd mk (nb i 7)) (va_cwS 2 hts gX0_tellHits_X0_hit rfl rfl rfl (by decide +kernel) ⟨Nat.le_of_ble_eq_true rfl, Nat.le_of_ble_eq_true rfl⟩) ⟨fun a U g mk q => by obtain ⟨q0, qhG⟩ := q; exact ⟨q0, qhG.same rfl rfl⟩, fun U hU hW => ⟨rfl, hG.callF hS hU hW⟩⟩ rfl rfl hl.1 rfl (lv_room (Nat.le_of_ble_eq_true rfl)) dX0_tellHits_98 ⟨Nat.le_of_ble_eq_true rfl, Nat.le_of_ble_eq_true rfl⟩).run (fun r_14 hw_15 => ?_)
                refine qi_as (y := hz mk (nb i 7)) (hw_15) ?_
                refine lv_imul hx hb dX0_tellHits_101 ?_
                refine qi_as (y := 0) (Int32.zero_mul) ?_
                refine lv_iadd hx hb dX0_tellHits_102 ?_
                refine qi_as (y := 20 * hz mk (nb i 0)) (Int32.add_zero _) ?_
                refine lv_aload_n hx hb dX0_tellHits_103 rfl (lv_at hl 0 rfl) ?_
                refine va_get (D := (dC, dI)) (ci := 2) (v := .ref dr) (C := RX0) (T := TX0) (N := 5) hx hb hts kc_tellHits_0 hown hK hP 0 rfl rfl 2 (by decide) (hts (.fieldLink RX0 9 "MistHeaps$Chances" "drifts" "[I") kc_tellHits_6) (fun _ h9 => h9) rfl dX0_tellHits_104 ?_
                refine lv_iload hx hb dX0_tellHits_107 (lv_at hl 4 rfl) ?_
                refine va_iald hx hb hK hP 2 0 rfl rfl (vp_in_nI (n := i) (N := 36) (by omega) (by omega)) dX0_tellHits_109 ?_
                refine qi_as (y := 0) ((show fD (nI i).toNatClampNeg = fD i from by rw [nI_clamp (by omega)]).trans (zD i (by omega))) ?_
                refine lv_lload_n hx hb dX0_tellHits_110 rfl (lv_at hl 2 rfl) ?_
                refine lv_iload hx hb dX0_tellHits_111 (lv_at hl 4 rfl) ?_
                refine lv_iload hx hb dX0_tellHits_113 (lv_at hl 3 rfl) ?_
                refine lv_iconst (v := 1) hx hb dX0_tellHits_115 (by decide) ?_
                refine lv_iadd hx hb dX0_tellHits_116 ?_
                refine qi_as (y := 1) (by decide) ?_
                refine lv_bipush (v := 7) hx hb dX0_tellHits_117 (by decide) ?_
                refine lv_iand hx hb dX0_tellHits_119 ?_
                refine qi_as (y := 1) (by decide) ?_
                refine vp_callSi (va_runSN (As := [.int (nI i), .int 1]) (rest := [.long mk, .int 0, .int (20 * hz mk (nb i 0)), .int (nI i), .ref (rh 0)]) ⟨hx, hb, hml, hown, hts⟩ (c_beside l dC dI gd i (1) (by omega) (by omega)) ⟨va_cnB 2 hts ggX0_tellHits_X11_besideOrSame rfl rfl rfl (hG.1 (.methodLinkNest RX0 56 yX11_besideOrSame "MistHeaps") (by decide +kernel)) (hts (.initialized RX11) kc_tellHits_4) (by decide +kernel) ⟨Nat.le_of_ble_eq_true rfl, Nat.le_of_ble_eq_true rfl⟩, (hts (.static yX11_besideOrSame) kc_tellHits_7), trivial⟩ ⟨fun a U g mk q => by obtain ⟨q0, qhG⟩ := q; exact ⟨q0, qhG.same rfl rfl⟩, fun U hU hW => ⟨rfl, hG.callF hS hU hW⟩⟩ rfl rfl hl.1 rfl (lv_room (Nat.le_of_ble_eq_true rfl)) dX0_tellHits_120 ⟨Nat.le_of_ble_eq_true rfl, Nat.le_of_ble_eq_true rfl⟩).run (fun r_16 hw_17 => ?_)
                refine qi_as (y := nI (nb i 1)) (hw_17) ?_
                have hn_18 : nb i 1 < 36 := nb_lt (by omega) (by omega)
                refine vp_callSi (va_runS (As := [.long mk, .int (nI (nb i 1))]) (rest := [.int 0, .int (20 * hz mk (nb i 0)), .int (nI i), .ref (rh 0)]) ⟨hx, hb, hml, hown, hts⟩ (c_hit l dC dI gd mk (nb i 1)) (va_cwS 2 hts gX0_tellHits_X0_hit rfl rfl rfl (by decide +kernel) ⟨Nat.le_of_ble_eq_true rfl, Nat.le_of_ble_eq_true rfl⟩) ⟨fun a U g mk q => by obtain ⟨q0, qhG⟩ := q; exact ⟨q0, qhG.same rfl rfl⟩, fun U hU hW => ⟨rfl, hG.callF hS hU hW⟩⟩ rfl rfl hl.1 rfl (lv_room (Nat.le_of_ble_eq_true rfl)) dX0_tellHits_123 ⟨Nat.le_of_ble_eq_true rfl, Nat.le_of_ble_eq_true rfl⟩).run (fun r_19 hw_20 => ?_)
                refine qi_as (y := hz mk (nb i 1)) (hw_20) ?_
                refine lv_imul hx hb dX0_tellHits_126 ?_
                refine qi_as (y := 0) (Int32.zero_mul) ?_
                refine lv_iadd hx hb dX0_tellHits_127 ?_
                refine qi_as (y := 20 * hz mk (nb i 0)) (Int32.add_zero _) ?_
                refine va_iast hx hb hK hP hD hS 4 2 rfl rfl (vp_in_nI (n := i) (N := 36) (by omega) (by omega)) dX0_tellHits_128 (fun H locs hP hD hS => ?_)
                rw [nI_clamp (n := i) (by omega)] at hP hD
                have hP : va_P (dC, dI) vwCl [(ch, .inr (2, [.long ft, .int fr, .ref dr, .ref tO, .ref hO])), (sc, .inr (10, [.ref aTp, .int 0, .ref aHl, .int 0, .long 0, .int 0, .int 0, .ref aHs, .int 0, .ref aWk, .int 0, .ref aBk, .int 0, .ref aFc])), (dr, .inl (cD, 36, .inl fD)), (hO, .inl (cHO, 8, .inr (.inr (.inr (.inr (fun i => if i < 8 then some (rh i) else none)))))), ((rh 0), .inl (cH, 36, .inl (upd g i (20 * hz mk (nb i 0))))), ((rh 1), .inl (cH, 36, .inl b1)), ((rh 2), .inl (cH, 36, .inl b2)), ((rh 3), .inl (cH, 36, .inl b3)), ((rh 4), .inl (cH, 36, .inl b4)), ((rh 5), .inl (cH, 36, .inl b5)), ((rh 6), .inl (cH, 36, .inl b6)), ((rh 7), .inl (cH, 36, .inl b7))] H := hP
                have hD : va_D A [(ch, .inr (2, [.long ft, .int fr, .ref dr, .ref tO, .ref hO])), (sc, .inr (10, [.ref aTp, .int 0, .ref aHl, .int 0, .long 0, .int 0, .int 0, .ref aHs, .int 0, .ref aWk, .int 0, .ref aBk, .int 0, .ref aFc])), (dr, .inl (cD, 36, .inl fD)), (hO, .inl (cHO, 8, .inr (.inr (.inr (.inr (fun i => if i < 8 then some (rh i) else none)))))), ((rh 0), .inl (cH, 36, .inl (upd g i (20 * hz mk (nb i 0))))), ((rh 1), .inl (cH, 36, .inl b1)), ((rh 2), .inl (cH, 36, .inl b2)), ((rh 3), .inl (cH, 36, .inl b3)), ((rh 4), .inl (cH, 36, .inl b4)), ((rh 5), .inl (cH, 36, .inl b5)), ((rh 6), .inl (cH, 36, .inl b6)), ((rh 7), .inl (cH, 36, .inl b7))] := hD
                refine lv_iinc (v := nI (i + 1)) (lv' := [(5, .int (nI (i + 1))), (0, .ref ch), (1, .ref sc), (2, .long mk), (4, .int 0)]) hx hb dX0_tellHits_129 hl (k := 4) rfl (nI_add i 1) (by decide) rfl (fun ls hl => ?_)
                refine lv_goto (tgt := 13) hx hb dX0_tellHits_132 (by decide) ?_
                exact ih13 _ _ (by omega) (by omega) (upd_fill (v := hv mk 0) hg rfl) _ _ (hK.sub [0, 1, 2, 3, 4, 5, 6, 7, 8, 9] rfl) (hP.sub [0, 1, 2, 3, 4, 5, 6, 7, 8, 9, 10, 11] rfl) (hD.sub [0, 1, 2, 3, 4, 5, 6, 7, 8, 9, 10, 11] (by decide) rfl) hS ls (lv_sub hl [1, 2, 3, 4, 0] rfl)
          exact L13 _ (0) _ (Nat.lt_succ_self _) (by omega) (fun x h => absurd h (Nat.not_lt_zero x)) _ _ (hK.sub [0, 1, 2, 3, 4, 5, 6, 7, 8, 9] rfl) (hP.sub [0, 1, 2, 3, 4, 5, 6, 7, 8, 9, 10, 11] rfl) (hD.sub [0, 1, 2, 3, 4, 5, 6, 7, 8, 9, 10, 11] (by decide) rfl) hS ls (lv_sub hl [1, 2, 3, 4, 0] rfl)
        · skip
          refine lv_iconst (v := 0) hx hb dX0_tellHits_10 (by decide) ?_
          refine lv_istore (lv' := [(5, .int 0), (0, .ref ch), (1, .ref sc), (2, .long mk), (4, .int 1)]) hx hb dX0_tellHits_11 hl (by decide) rfl (fun ls hl => ?_)
          have L13 : ∀ (nF : Nat) (i : Nat) (g : Nat → Int32), 36 - i < nF → (i ≤ 36) → ((∀ x, x < i → g x = hv mk 1 x)) → ∀ (H : Heap) (locs : List Loc), va_K (dC, dI) vwCl [(cD, .int), (cHO, .array .int), (cH, .int), (cH, .int), (cH, .int), (cH, .int), (cH, .int), (cH, .int), (cH, .int), (cH, .int)] s → va_P (dC, dI) vwCl [(ch, .inr (2, [.long ft, .int fr, .ref dr, .ref tO, .ref hO])), (sc, .inr (10, [.ref aTp, .int 0, .ref aHl, .int 0, .long 0, .int 0, .int 0, .ref aHs, .int 0, .ref aWk, .int 0, .ref aBk, .int 0, .ref aFc])), (dr, .inl (cD, 36, .inl fD)), (hO, .inl (cHO, 8, .inr (.inr (.inr (.inr (fun i => if i < 8 then some (rh i) else none)))))), ((rh 0), .inl (cH, 36, .inl b0)), ((rh 1), .inl (cH, 36, .inl g)), ((rh 2), .inl (cH, 36, .inl b2)), ((rh 3), .inl (cH, 36, .inl b3)), ((rh 4), .inl (cH, 36, .inl b4)), ((rh 5), .inl (cH, 36, .inl b5)), ((rh 6), .inl (cH, 36, .inl b6)), ((rh 7), .inl (cH, 36, .inl b7))] H → va_D A [(ch, .inr (2, [.long ft, .int fr, .ref dr, .ref tO, .ref hO])), (sc, .inr (10, [.ref aTp, .int 0, .ref aHl, .int 0, .long 0, .int 0, .int 0, .ref aHs, .int 0, .ref aWk, .int 0, .ref aBk, .int 0, .ref aFc])), (dr, .inl (cD, 36, .inl fD)), (hO, .inl (cHO, 8, .inr (.inr (.inr (.inr (fun i => if i < 8 then some (rh i) else none)))))), ((rh 0), .inl (cH, 36, .inl b0)), ((rh 1), .inl (cH, 36, .inl g)), ((rh 2), .inl (cH, 36, .inl b2)), ((rh 3), .inl (cH, 36, .inl b3)), ((rh 4), .inl (cH, 36, .inl b4)), ((rh 5), .inl (cH, 36, .inl b5)), ((rh 6), .inl (cH, 36, .inl b6)), ((rh 7), .inl (cH, 36, .inl b7))] → va_S A s.heap H locs → ∀ (ls : Array Slot), lv_has ls 6 [(0, .ref ch), (1, .ref sc), (2, .long mk), (4, .int 1), (5, .int (nI i))] → W p l e ({ frames := 2, cells := 0, slots := 0, locals := 44 } : Room) s m args below meth c H locs 0 0 Q (F0 m 13 ls []) := by
            intro nF
            induction nF with
            | zero => intro i g hm; exact absurd hm (Nat.not_lt_zero _)
            | succ nF ih13 =>
              intro i g hm hi2 hg H locs hK hP hD hS ls hl
              refine lv_iload hx hb dX0_tellHits_13 (lv_at hl 4 rfl) ?_
              refine lv_bipush (v := 36) hx hb dX0_tellHits_15 (by decide) ?_
              refine lv_icmp_ge (tgt := 135) hx hb dX0_tellHits_17 (by decide) (fun c_21 => ?_) (fun c_21 => ?_)
              · skip
                have c_21 : 36 ≤ i := (nI_leI (a := 36) (b := i) (by omega) (by omega)).mp c_21
                refine lv_iinc (v := 2) (lv' := [(4, .int 2), (0, .ref ch), (1, .ref sc), (2, .long mk), (5, .int (nI i))]) hx hb dX0_tellHits_135 hl (k := 3) rfl (by decide) (by decide) rfl (fun ls hl => ?_)
                refine lv_goto (tgt := 3) hx hb dX0_tellHits_138 (by decide) ?_
                exact ih3 (2) _ _ _ _ _ _ _ _ (by omega) (by omega) (fun _ => a0 (by omega)) (fun _ x hx => hg x (by omega)) (fun q => absurd q (by omega)) (fun q => absurd q (by omega)) (fun q => absurd q (by omega)) (fun q => absurd q (by omega)) (fun q => absurd q (by omega)) (fun q => absurd q (by omega)) _ _ (hK.sub [0, 1, 2, 3, 4, 5, 6, 7, 8, 9] rfl) (hP.sub [0, 1, 2, 3, 4, 5, 6, 7, 8, 9, 10, 11] rfl) (hD.sub [0, 1, 2, 3, 4, 5, 6, 7, 8, 9, 10, 11] (by decide) rfl) hS ls (lv_sub hl [1, 2, 3, 0] rfl)
              · skip
                have c_21 : ¬ 36 ≤ i := fun q => c_21 ((nI_leI (a := 36) (b := i) (by omega) (by omega)).mpr q)
                refine lv_aload_n hx hb dX0_tellHits_20 rfl (lv_at hl 0 rfl) ?_
                refine va_get (D := (dC, dI)) (ci := 2) (v := .ref hO) (C := RX0) (T := TX0) (N := 5) hx hb hts kc_tellHits_0 hown hK hP 0 rfl rfl 4 (by decide) (hts (.fieldLink RX0 22 "MistHeaps$Chances" "hits" "[[I") kc_tellHits_1) (fun _ h9 => h9) rfl dX0_tellHits_21 ?_
                refine lv_iload hx hb dX0_tellHits_24 (lv_at hl 3 rfl) ?_
                refine va_alda hx hb hK hP 3 1 rfl rfl (vp_in_nI (n := 1) (N := 8) (by omega) (by omega)) dX0_tellHits_26 ?_
                refine qq_as (v := .ref (rh 1)) (rfl) ?_
                refine lv_iload hx hb dX0_tellHits_27 (lv_at hl 4 rfl) ?_
                refine lv_aload_n hx hb dX0_tellHits_29 rfl (lv_at hl 1 rfl) ?_
                refine va_get (D := (dC, dI)) (ci := 10) (v := .long 0) (C := RX8) (T := TX8) (N := 14) hx hb hts kc_tellHits_2 hown hK hP 1 rfl rfl 4 (by decide) (hts (.fieldLink RX0 52 "MistHeaps$Scene" "edges" "J") kc_tellHits_3) (fun _ h9 => h9) rfl dX0_tellHits_30 ?_
                refine lv_iload hx hb dX0_tellHits_33 (lv_at hl 4 rfl) ?_
                refine vp_callSi (va_runSN (As := [.long 0, .int (nI i)]) (rest := [.int (nI i), .ref (rh 1)]) ⟨hx, hb, hml, hown, hts⟩ (c_isIn l dC dI 0 i) ⟨va_cnB 2 hts ggX0_tellHits_X11_isIn rfl rfl rfl (hG.1 (.methodLinkNest RX0 44 yX11_isIn "MistHeaps") (by decide +kernel)) (hts (.initialized RX11) kc_tellHits_4) (by decide +kernel) ⟨Nat.le_of_ble_eq_true rfl, Nat.le_of_ble_eq_true rfl⟩, (hts (.static yX11_isIn) kc_tellHits_5), trivial⟩ ⟨fun a U g mk q => ⟨q.1, trivial⟩, fun U hU hW => ⟨rfl, trivial⟩⟩ rfl rfl hl.1 rfl (lv_room (Nat.le_of_ble_eq_true rfl)) dX0_tellHits_35 ⟨Nat.le_of_ble_eq_true rfl, Nat.le_of_ble_eq_true rfl⟩).run (fun r_22 hw_23 => ?_)
                refine qi_as (y := 0) (hw_23.trans (hz_e0 i (by omega))) ?_
                refine lv_if_eq (tgt := 53) hx hb dX0_tellHits_38 (by decide) (fun _ => ?_) (fun c_24 => absurd c_24 (by decide))
                refine lv_bipush (v := 20) hx hb dX0_tellHits_53 (by decide) ?_
                refine lv_iconst (v := 2) hx hb dX0_tellHits_55 (by decide) ?_
                refine lv_aload_n hx hb dX0_tellHits_56 rfl (lv_at hl 0 rfl) ?_
                refine va_get (D := (dC, dI)) (ci := 2) (v := .ref dr) (C := RX0) (T := TX0) (N := 5) hx hb hts kc_tellHits_0 hown hK hP 0 rfl rfl 2 (by decide) (hts (.fieldLink RX0 9 "MistHeaps$Chances" "drifts" "[I") kc_tellHits_6) (fun _ h9 => h9) rfl dX0_tellHits_57 ?_
                refine lv_iload hx hb dX0_tellHits_60 (lv_at hl 4 rfl) ?_
                refine va_iald hx hb hK hP 2 0 rfl rfl (vp_in_nI (n := i) (N := 36) (by omega) (by omega)) dX0_tellHits_62 ?_
                refine qi_as (y := 0) ((show fD (nI i).toNatClampNeg = fD i from by rw [nI_clamp (by omega)]).trans (zD i (by omega))) ?_
                refine lv_imul hx hb dX0_tellHits_63 ?_
                refine qi_as (y := 0) (by decide) ?_
                refine lv_isub hx hb dX0_tellHits_64 ?_
                refine qi_as (y := 20) (by decide) ?_
                refine lv_lload_n hx hb dX0_tellHits_65 rfl (lv_at hl 2 rfl) ?_
                refine lv_iload hx hb dX0_tellHits_66 (lv_at hl 4 rfl) ?_
                refine lv_iload hx hb dX0_tellHits_68 (lv_at hl 3 rfl) ?_
                refine vp_callSi (va_runSN (As := [.int (nI i), .int 1]) (rest := [.long mk, .int 20, .int (nI i), .ref (rh 1)]) ⟨hx, hb, hml, hown, hts⟩ (c_beside l dC dI gd i (1) (by omega) (by omega)) ⟨va_cnB 2 hts ggX0_tellHits_X11_besideOrSame rfl rfl rfl (hG.1 (.methodLinkNest RX0 56 yX11_besideOrSame "MistHeaps") (by decide +kernel)) (hts (.initialized RX11) kc_tellHits_4) (by decide +kernel) ⟨Nat.le_of_ble_eq_true rfl, Nat.le_of_ble_eq_true rfl⟩, (hts (.static yX11_besideOrSame) kc_tellHits_7), trivial⟩ ⟨fun a U g mk q => by obtain ⟨q0, qhG⟩ := q; exact ⟨q0, qhG.same rfl rfl⟩, fun U hU hW => ⟨rfl, hG.callF hS hU hW⟩⟩ rfl rfl hl.1 rfl (lv_room (Nat.le_of_ble_eq_true rfl)) dX0_tellHits_70 ⟨Nat.le_of_ble_eq_true rfl, Nat.le_of_ble_eq_true rfl⟩).run (fun r_25 hw_26 => ?_)
                refine qi_as (y := nI (nb i 1)) (hw_26) ?_
                have hn_27 : nb i 1 < 36 := nb_lt (by omega) (by omega)
                refine vp_callSi (va_runS (As := [.long mk, .int (nI (nb i 1))]) (rest := [.int 20, .int (nI i), .ref (rh 1)]) ⟨hx, hb, hml, hown, hts⟩ (c_hit l dC dI gd mk (nb i 1)) (va_cwS 2 hts gX0_tellHits_X0_hit rfl rfl rfl (by decide +kernel) ⟨Nat.le_of_ble_eq_true rfl, Nat.le_of_ble_eq_true rfl⟩) ⟨fun a U g mk q => by obtain ⟨q0, qhG⟩ := q; exact ⟨q0, qhG.same rfl rfl⟩, fun U hU hW => ⟨rfl, hG.callF hS hU hW⟩⟩ rfl rfl hl.1 rfl (lv_room (Nat.le_of_ble_eq_true rfl)) dX0_tellHits_73 ⟨Nat.le_of_ble_eq_true rfl, Nat.le_of_ble_eq_true rfl⟩).run (fun r_28 hw_29 => ?_)
                refine qi_as (y := hz mk (nb i 1)) (hw_29) ?_
                refine lv_imul hx hb dX0_tellHits_76 ?_
                refine lv_aload_n hx hb dX0_tellHits_77 rfl (lv_at hl 0 rfl) ?_
                refine va_get (D := (dC, dI)) (ci := 2) (v := .ref dr) (C := RX0) (T := TX0) (N := 5) hx hb hts kc_tellHits_0 hown hK hP 0 rfl rfl 2 (by decide) (hts (.fieldLink RX0 9 "MistHeaps$Chances" "drifts" "[I") kc_tellHits_6) (fun _ h9 => h9) rfl dX0_tellHits_78 ?_
                refine lv_iload hx hb dX0_tellHits_81 (lv_at hl 4 rfl) ?_
                refine va_iald hx hb hK hP 2 0 rfl rfl (vp_in_nI (n := i) (N := 36) (by omega) (by omega)) dX0_tellHits_83 ?_
                refine qi_as (y := 0) ((show fD (nI i).toNatClampNeg = fD i from by rw [nI_clamp (by omega)]).trans (zD i (by omega))) ?_
                refine lv_lload_n hx hb dX0_tellHits_84 rfl (lv_at hl 2 rfl) ?_
                refine lv_iload hx hb dX0_tellHits_85 (lv_at hl 4 rfl) ?_
                refine lv_iload hx hb dX0_tellHits_87 (lv_at hl 3 rfl) ?_
                refine lv_bipush (v := 7) hx hb dX0_tellHits_89 (by decide) ?_
                refine lv_iadd hx hb dX0_tellHits_91 ?_
                refine qi_as (y := 8) (by decide) ?_
                refine lv_bipush (v := 7) hx hb dX0_tellHits_92 (by decide) ?_
                refine lv_iand hx hb dX0_tellHits_94 ?_
                refine qi_as (y := 0) (by decide) ?_
                refine vp_callSi (va_runSN (As := [.int (nI i), .int 0]) (rest := [.long mk, .int 0, .int (20 * (hz mk (nb i 1))), .int (nI i), .ref (rh 1)]) ⟨hx, hb, hml, hown, hts⟩ (c_beside l dC dI gd i (0) (by omega) (by omega)) ⟨va_cnB 2 hts ggX0_tellHits_X11_besideOrSame rfl rfl rfl (hG.1 (.methodLinkNest RX0 56 yX11_besideOrSame "MistHeaps") (by decide +kernel)) (hts (.initialized RX11) kc_tellHits_4) (by decide +kernel) ⟨Nat.le_of_ble_eq_true rfl, Nat.le_of_ble_eq_true rfl⟩, (hts (.static yX11_besideOrSame) kc_tellHits_7), trivial⟩ ⟨fun a U g mk q => by obtain ⟨q0, qhG⟩ := q; exact ⟨q0, qhG.same rfl rfl⟩, fun U hU hW => ⟨rfl, hG.callF hS hU hW⟩⟩ rfl rfl hl.1 rfl (lv_room (Nat.le_of_ble_eq_true rfl)) dX0_tellHits_95 ⟨Nat.le_of_ble_eq_true rfl, Nat.le_of_ble_eq_true rfl⟩).run (fun r_30 hw_31 => ?_)
                refine qi_as (y := nI (nb i 0)) (hw_31) ?_
                have hn_32 : nb i 0 < 36 := nb_lt (by omega) (by omega)
                refine vp_callSi (va_runS (As := [.long mk, .int (nI (nb i 0))]) (rest := [.int 0, .int (20 * (hz mk (nb i 1))), .int (nI i), .ref (rh 1)]) ⟨hx, hb, hml, hown, hts⟩ (c_hit l dC dI gd mk (nb i 0)) (va_cwS 2 hts gX0_tellHits_X0_hit rfl rfl rfl (by decide +kernel) ⟨Nat.le_of_ble_eq_true rfl, Nat.le_of_ble_eq_true rfl⟩) ⟨fun a U g mk q => by obtain ⟨q0, qhG⟩ := q; exact ⟨q0, qhG.same rfl rfl⟩, fun U hU hW => ⟨rfl, hG.callF hS hU hW⟩⟩ rfl rfl hl.1 rfl (lv_room (Nat.le_of_ble_eq_true rfl)) dX0_tellHits_98 ⟨Nat.le_of_ble_eq_true rfl, Nat.le_of_ble_eq_true rfl⟩).run (fun r_33 hw_34 => ?_)
                refine qi_as (y := hz mk (nb i 0)) (hw_34) ?_
                refine lv_imul hx hb dX0_tellHits_101 ?_
                refine qi_as (y := 0) (Int32.zero_mul) ?_
                refine lv_iadd hx hb dX0_tellHits_102 ?_
                refine qi_as (y := 20 * hz mk (nb i 1)) (Int32.add_zero _) ?_
                refine lv_aload_n hx hb dX0_tellHits_103 rfl (lv_at hl 0 rfl) ?_
                refine va_get (D := (dC, dI)) (ci := 2) (v := .ref dr) (C := RX0) (T := TX0) (N := 5) hx hb hts kc_tellHits_0 hown hK hP 0 rfl rfl 2 (by decide) (hts (.fieldLink RX0 9 "MistHeaps$Chances" "drifts" "[I") kc_tellHits_6) (fun _ h9 => h9) rfl dX0_tellHits_104 ?_
                refine lv_iload hx hb dX0_tellHits_107 (lv_at hl 4 rfl) ?_
                refine va_iald hx hb hK hP 2 0 rfl rfl (vp_in_nI (n := i) (N := 36) (by omega) (by omega)) dX0_tellHits_109 ?_
                refine qi_as (y := 0) ((show fD (nI i).toNatClampNeg = fD i from by rw [nI_clamp (by omega)]).trans (zD i (by omega))) ?_
                refine lv_lload_n hx hb dX0_tellHits_110 rfl (lv_at hl 2 rfl) ?_
                refine lv_iload hx hb dX0_tellHits_111 (lv_at hl 4 rfl) ?_
                refine lv_iload hx hb dX0_tellHits_113 (lv_at hl 3 rfl) ?_
                refine lv_iconst (v := 1) hx hb dX0_tellHits_115 (by decide) ?_
                refine lv_iadd hx hb dX0_tellHits_116 ?_
                refine qi_as (y := 2) (by decide) ?_
                refine lv_bipush (v := 7) hx hb dX0_tellHits_117 (by decide) ?_
                refine lv_iand hx hb dX0_tellHits_119 ?_
                refine qi_as (y := 2) (by decide) ?_
                refine vp_callSi (va_runSN (As := [.int (nI i), .int 2]) (rest := [.long mk, .int 0, .int (20 * hz mk (nb i 1)), .int (nI i), .ref (rh 1)]) ⟨hx, hb, hml, hown, hts⟩ (c_beside l dC dI gd i (2) (by omega) (by omega)) ⟨va_cnB 2 hts ggX0_tellHits_X11_besideOrSame rfl rfl rfl (hG.1 (.methodLinkNest RX0 56 yX11_besideOrSame "MistHeaps") (by decide +kernel)) (hts (.initialized RX11) kc_tellHits_4) (by decide +kernel) ⟨Nat.le_of_ble_eq_true rfl, Nat.le_of_ble_eq_true rfl⟩, (hts (.static yX11_besideOrSame) kc_tellHits_7), trivial⟩ ⟨fun a U g mk q => by obtain ⟨q0, qhG⟩ := q; exact ⟨q0, qhG.same rfl rfl⟩, fun U hU hW => ⟨rfl, hG.callF hS hU hW⟩⟩ rfl rfl hl.1 rfl (lv_room (Nat.le_of_ble_eq_true rfl)) dX0_tellHits_120 ⟨Nat.le_of_ble_eq_true rfl, Nat.le_of_ble_eq_true rfl⟩).run (fun r_35 hw_36 => ?_)
                refine qi_as (y := nI (nb i 2)) (hw_36) ?_
                have hn_37 : nb i 2 < 36 := nb_lt (by omega) (by omega)
                refine vp_callSi (va_runS (As := [.long mk, .int (nI (nb i 2))]) (rest := [.int 0, .int (20 * hz mk (nb i 1)), .int (nI i), .ref (rh 1)]) ⟨hx, hb, hml, hown, hts⟩ (c_hit l dC dI gd mk (nb i 2)) (va_cwS 2 hts gX0_tellHits_X0_hit rfl rfl rfl (by decide +kernel) ⟨Nat.le_of_ble_eq_true rfl, Nat.le_of_ble_eq_true rfl⟩) ⟨fun a U g mk q => by obtain ⟨q0, qhG⟩ := q; exact ⟨q0, qhG.same rfl rfl⟩, fun U hU hW => ⟨rfl, hG.callF hS hU hW⟩⟩ rfl rfl hl.1 rfl (lv_room (Nat.le_of_ble_eq_true rfl)) dX0_tellHits_123 ⟨Nat.le_of_ble_eq_true rfl, Nat.le_of_ble_eq_true rfl⟩).run (fun r_38 hw_39 => ?_)
                refine qi_as (y := hz mk (nb i 2)) (hw_39) ?_
                refine lv_imul hx hb dX0_tellHits_126 ?_
                refine qi_as (y := 0) (Int32.zero_mul) ?_
                refine lv_iadd hx hb dX0_tellHits_127 ?_
                refine qi_as (y := 20 * hz mk (nb i 1)) (Int32.add_zero _) ?_
                refine va_iast hx hb hK hP hD hS 5 3 rfl rfl (vp_in_nI (n := i) (N := 36) (by omega) (by omega)) dX0_tellHits_128 (fun H locs hP hD hS => ?_)
                rw [nI_clamp (n := i) (by omega)] at hP hD
                have hP : va_P (dC, dI) vwCl [(ch, .inr (2, [.long ft, .int fr, .ref dr, .ref tO, .ref hO])), (sc, .inr (10, [.ref aTp, .int 0, .ref aHl, .int 0, .long 0, .int 0, .int 0, .ref aHs, .int 0, .ref aWk, .int 0, .ref aBk, .int 0, .ref aFc])), (dr, .inl (cD, 36, .inl fD)), (hO, .inl (cHO, 8, .inr (.inr (.inr (.inr (fun i => if i < 8 then some (rh i) else none)))))), ((rh 0), .inl (cH, 36, .inl b0)), ((rh 1), .inl (cH, 36, .inl (upd g i (20 * hz mk (nb i 1))))), ((rh 2), .inl (cH, 36, .inl b2)), ((rh 3), .inl (cH, 36, .inl b3)), ((rh 4), .inl (cH, 36, .inl b4)), ((rh 5), .inl (cH, 36, .inl b5)), ((rh 6), .inl (cH, 36, .inl b6)), ((rh 7), .inl (cH, 36, .inl b7))] H := hP
                have hD : va_D A [(ch, .inr (2, [.long ft, .int fr, .ref dr, .ref tO, .ref hO])), (sc, .inr (10, [.ref aTp, .int 0, .ref aHl, .int 0, .long 0, .int 0, .int 0, .ref aHs, .int 0, .ref aWk, .int 0, .ref aBk, .int 0, .ref aFc])), (dr, .inl (cD, 36, .inl fD)), (hO, .inl (cHO, 8, .inr (.inr (.inr (.inr (fun i => if i < 8 then some (rh i) else none)))))), ((rh 0), .inl (cH, 36, .inl b0)), ((rh 1), .inl (cH, 36, .inl (upd g i (20 * hz mk (nb i 1))))), ((rh 2), .inl (cH, 36, .inl b2)), ((rh 3), .inl (cH, 36, .inl b3)), ((rh 4), .inl (cH, 36, .inl b4)), ((rh 5), .inl (cH, 36, .inl b5)), ((rh 6), .inl (cH, 36, .inl b6)), ((rh 7), .inl (cH, 36, .inl b7))] := hD
                refine lv_iinc (v := nI (i + 1)) (lv' := [(5, .int (nI (i + 1))), (0, .ref ch), (1, .ref sc), (2, .long mk), (4, .int 1)]) hx hb dX0_tellHits_129 hl (k := 4) rfl (nI_add i 1) (by decide) rfl (fun ls hl => ?_)
                refine lv_goto (tgt := 13) hx hb dX0_tellHits_132 (by decide) ?_
                exact ih13 _ _ (by omega) (by omega) (upd_fill (v := hv mk 1) hg rfl) _ _ (hK.sub [0, 1, 2, 3, 4, 5, 6, 7, 8, 9] rfl) (hP.sub [0, 1, 2, 3, 4, 5, 6, 7, 8, 9, 10, 11] rfl) (hD.sub [0, 1, 2, 3, 4, 5, 6, 7, 8, 9, 10, 11] (by decide) rfl) hS ls (lv_sub hl [1, 2, 3, 4, 0] rfl)
          exact L13 _ (0) _ (Nat.lt_succ_self _) (by omega) (fun x h => absurd h (Nat.not_lt_zero x)) _ _ (hK.sub [0, 1, 2, 3, 4, 5, 6, 7, 8, 9] rfl) (hP.sub [0, 1, 2, 3, 4, 5, 6, 7, 8, 9, 10, 11] rfl) (hD.sub [0, 1, 2, 3, 4, 5, 6, 7, 8, 9, 10, 11] (by decide) rfl) hS ls (lv_sub hl [1, 2, 3, 4, 0] rfl)
        · skip
          refine lv_iconst (v := 0) hx hb dX0_tellHits_10 (by decide) ?_
          refine lv_istore (lv' := [(5, .int 0), (0, .ref ch), (1, .ref sc), (2, .long mk), (4, .int 2)]) hx hb dX0_tellHits_11 hl (by decide) rfl (fun ls hl => ?_)
          have L13 : ∀ (nF : Nat) (i : Nat) (g : Nat → Int32), 36 - i < nF → (i ≤ 36) → ((∀ x, x < i → g x = hv mk 2 x)) → ∀ (H : Heap) (locs : List Loc), va_K (dC, dI) vwCl [(cD, .int), (cHO, .array .int), (cH, .int), (cH, .int), (cH, .int), (cH, .int), (cH, .int), (cH, .int), (cH, .int), (cH, .int)] s → va_P (dC, dI) vwCl [(ch, .inr (2, [.long ft, .int fr, .ref dr, .ref tO, .ref hO])), (sc, .inr (10, [.ref aTp, .int 0, .ref aHl, .int 0, .long 0, .int 0, .int 0, .ref aHs, .int 0, .ref aWk, .int 0, .ref aBk, .int 0, .ref aFc])), (dr, .inl (cD, 36, .inl fD)), (hO, .inl (cHO, 8, .inr (.inr (.inr (.inr (fun i => if i < 8 then some (rh i) else none)))))), ((rh 0), .inl (cH, 36, .inl b0)), ((rh 1), .inl (cH, 36, .inl b1)), ((rh 2), .inl (cH, 36, .inl g)), ((rh 3), .inl (cH, 36, .inl b3)), ((rh 4), .inl (cH, 36, .inl b4)), ((rh 5), .inl (cH, 36, .inl b5)), ((rh 6), .inl (cH, 36, .inl b6)), ((rh 7), .inl (cH, 36, .inl b7))] H → va_D A [(ch, .inr (2, [.long ft, .int fr, .ref dr, .ref tO, .ref hO])), (sc, .inr (10, [.ref aTp, .int 0, .ref aHl, .int 0, .long 0, .int 0, .int 0, .ref aHs, .int 0, .ref aWk, .int 0, .ref aBk, .int 0, .ref aFc])), (dr, .inl (cD, 36, .inl fD)), (hO, .inl (cHO, 8, .inr (.inr (.inr (.inr (fun i => if i < 8 then some (rh i) else none)))))), ((rh 0), .inl (cH, 36, .inl b0)), ((rh 1), .inl (cH, 36, .inl b1)), ((rh 2), .inl (cH, 36, .inl g)), ((rh 3), .inl (cH, 36, .inl b3)), ((rh 4), .inl (cH, 36, .inl b4)), ((rh 5), .inl (cH, 36, .inl b5)), ((rh 6), .inl (cH, 36, .inl b6)), ((rh 7), .inl (cH, 36, .inl b7))] → va_S A s.heap H locs → ∀ (ls : Array Slot), lv_has ls 6 [(0, .ref ch), (1, .ref sc), (2, .long mk), (4, .int 2), (5, .int (nI i))] → W p l e ({ frames := 2, cells := 0, slots := 0, locals := 44 } : Room) s m args below meth c H locs 0 0 Q (F0 m 13 ls []) := by
            intro nF
            induction nF with
            | zero => intro i g hm; exact absurd hm (Nat.not_lt_zero _)
            | succ nF ih13 =>
              intro i g hm hi2 hg H locs hK hP hD hS ls hl
              refine lv_iload hx hb dX0_tellHits_13 (lv_at hl 4 rfl) ?_
              refine lv_bipush (v := 36) hx hb dX0_tellHits_15 (by decide) ?_
              refine lv_icmp_ge (tgt := 135) hx hb dX0_tellHits_17 (by decide) (fun c_40 => ?_) (fun c_40 => ?_)
              · skip
                have c_40 : 36 ≤ i := (nI_leI (a := 36) (b := i) (by omega) (by omega)).mp c_40
                refine lv_iinc (v := 3) (lv' := [(4, .int 3), (0, .ref ch), (1, .ref sc), (2, .long mk), (5, .int (nI i))]) hx hb dX0_tellHits_135 hl (k := 3) rfl (by decide) (by decide) rfl (fun ls hl => ?_)
                refine lv_goto (tgt := 3) hx hb dX0_tellHits_138 (by decide) ?_
                exact ih3 (3) _ _ _ _ _ _ _ _ (by omega) (by omega) (fun _ => a0 (by omega)) (fun _ => a1 (by omega)) (fun _ x hx => hg x (by omega)) (fun q => absurd q (by omega)) (fun q => absurd q (by omega)) (fun q => absurd q (by omega)) (fun q => absurd q (by omega)) (fun q => absurd q (by omega)) _ _ (hK.sub [0, 1, 2, 3, 4, 5, 6, 7, 8, 9] rfl) (hP.sub [0, 1, 2, 3, 4, 5, 6, 7, 8, 9, 10, 11] rfl) (hD.sub [0, 1, 2, 3, 4, 5, 6, 7, 8, 9, 10, 11] (by decide) rfl) hS ls (lv_sub hl [1, 2, 3, 0] rfl)
              · skip
                have c_40 : ¬ 36 ≤ i := fun q => c_40 ((nI_leI (a := 36) (b := i) (by omega) (by omega)).mpr q)
                refine lv_aload_n hx hb dX0_tellHits_20 rfl (lv_at hl 0 rfl) ?_
                refine va_get (D := (dC, dI)) (ci := 2) (v := .ref hO) (C := RX0) (T := TX0) (N := 5) hx hb hts kc_tellHits_0 hown hK hP 0 rfl rfl 4 (by decide) (hts (.fieldLink RX0 22 "MistHeaps$Chances" "hits" "[[I") kc_tellHits_1) (fun _ h9 => h9) rfl dX0_tellHits_21 ?_
                refine lv_iload hx hb dX0_tellHits_24 (lv_at hl 3 rfl) ?_
                refine va_alda hx hb hK hP 3 1 rfl rfl (vp_in_nI (n := 2) (N := 8) (by omega) (by omega)) dX0_tellHits_26 ?_
                refine qq_as (v := .ref (rh 2)) (rfl) ?_
                refine lv_iload hx hb dX0_tellHits_27 (lv_at hl 4 rfl) ?_
                refine lv_aload_n hx hb dX0_tellHits_29 rfl (lv_at hl 1 rfl) ?_
                refine va_get (D := (dC, dI)) (ci := 10) (v := .long 0) (C := RX8) (T := TX8) (N := 14) hx hb hts kc_tellHits_2 hown hK hP 1 rfl rfl 4 (by decide) (hts (.fieldLink RX0 52 "MistHeaps$Scene" "edges" "J") kc_tellHits_3) (fun _ h9 => h9) rfl dX0_tellHits_30 ?_
                refine lv_iload hx hb dX0_tellHits_33 (lv_at hl 4 rfl) ?_
                refine vp_callSi (va_runSN (As := [.long 0, .int (nI i)]) (rest := [.int (nI i), .ref (rh 2)]) ⟨hx, hb, hml, hown, hts⟩ (c_isIn l dC dI 0 i) ⟨va_cnB 2 hts ggX0_tellHits_X11_isIn rfl rfl rfl (hG.1 (.methodLinkNest RX0 44 yX11_isIn "MistHeaps") (by decide +kernel)) (hts (.initialized RX11) kc_tellHits_4) (by decide +kernel) ⟨Nat.le_of_ble_eq_true rfl, Nat.le_of_ble_eq_true rfl⟩, (hts (.static yX11_isIn) kc_tellHits_5), trivial⟩ ⟨fun a U g mk q => ⟨q.1, trivial⟩, fun U hU hW => ⟨rfl, trivial⟩⟩ rfl rfl hl.1 rfl (lv_room (Nat.le_of_ble_eq_true rfl)) dX0_tellHits_35 ⟨Nat.le_of_ble_eq_true rfl, Nat.le_of_ble_eq_true rfl⟩).run (fun r_41 hw_42 => ?_)
                refine qi_as (y := 0) (hw_42.trans (hz_e0 i (by omega))) ?_
                refine lv_if_eq (tgt := 53) hx hb dX0_tellHits_38 (by decide) (fun _ => ?_) (fun c_43 => absurd c_43 (by decide))
                refine lv_bipush (v := 20) hx hb dX0_tellHits_53 (by decide) ?_
                refine lv_iconst (v := 2) hx hb dX0_tellHits_55 (by decide) ?_
                refine lv_aload_n hx hb dX0_tellHits_56 rfl (lv_at hl 0 rfl) ?_
                refine va_get (D := (dC, dI)) (ci := 2) (v := .ref dr) (C := RX0) (T := TX0) (N := 5) hx hb hts kc_tellHits_0 hown hK hP 0 rfl rfl 2 (by decide) (hts (.fieldLink RX0 9 "MistHeaps$Chances" "drifts" "[I") kc_tellHits_6) (fun _ h9 => h9) rfl dX0_tellHits_57 ?_
                refine lv_iload hx hb dX0_tellHits_60 (lv_at hl 4 rfl) ?_
                refine va_iald hx hb hK hP 2 0 rfl rfl (vp_in_nI (n := i) (N := 36) (by omega) (by omega)) dX0_tellHits_62 ?_
                refine qi_as (y := 0) ((show fD (nI i).toNatClampNeg = fD i from by rw [nI_clamp (by omega)]).trans (zD i (by omega))) ?_
                refine lv_imul hx hb dX0_tellHits_63 ?_
                refine qi_as (y := 0) (by decide) ?_
                refine lv_isub hx hb dX0_tellHits_64 ?_
                refine qi_as (y := 20) (by decide) ?_
                refine lv_lload_n hx hb dX0_tellHits_65 rfl (lv_at hl 2 rfl) ?_
                refine lv_iload hx hb dX0_tellHits_66 (lv_at hl 4 rfl) ?_
                refine lv_iload hx hb dX0_tellHits_68 (lv_at hl 3 rfl) ?_
                refine vp_callSi (va_runSN (As := [.int (nI i), .int 2]) (rest := [.long mk, .int 20, .int (nI i), .ref (rh 2)]) ⟨hx, hb, hml, hown, hts⟩ (c_beside l dC dI gd i (2) (by omega) (by omega)) ⟨va_cnB 2 hts ggX0_tellHits_X11_besideOrSame rfl rfl rfl (hG.1 (.methodLinkNest RX0 56 yX11_besideOrSame "MistHeaps") (by decide +kernel)) (hts (.initialized RX11) kc_tellHits_4) (by decide +kernel) ⟨Nat.le_of_ble_eq_true rfl, Nat.le_of_ble_eq_true rfl⟩, (hts (.static yX11_besideOrSame) kc_tellHits_7), trivial⟩ ⟨fun a U g mk q => by obtain ⟨q0, qhG⟩ := q; exact ⟨q0, qhG.same rfl rfl⟩, fun U hU hW => ⟨rfl, hG.callF hS hU hW⟩⟩ rfl rfl hl.1 rfl (lv_room (Nat.le_of_ble_eq_true rfl)) dX0_tellHits_70 ⟨Nat.le_of_ble_eq_true rfl, Nat.le_of_ble_eq_true rfl⟩).run (fun r_44 hw_45 => ?_)
                refine qi_as (y := nI (nb i 2)) (hw_45) ?_
                have hn_46 : nb i 2 < 36 := nb_lt (by omega) (by omega)
                refine vp_callSi (va_runS (As := [.long mk, .int (nI (nb i 2))]) (rest := [.int 20, .int (nI i), .ref (rh 2)]) ⟨hx, hb, hml, hown, hts⟩ (c_hit l dC dI gd mk (nb i 2)) (va_cwS 2 hts gX0_tellHits_X0_hit rfl rfl rfl (by decide +kernel) ⟨Nat.le_of_ble_eq_true rfl, Nat.le_of_ble_eq_true rfl⟩) ⟨fun a U g mk q => by obtain ⟨q0, qhG⟩ := q; exact ⟨q0, qhG.same rfl rfl⟩, fun U hU hW => ⟨rfl, hG.callF hS hU hW⟩⟩ rfl rfl hl.1 rfl (lv_room (Nat.le_of_ble_eq_true rfl)) dX0_tellHits_73 ⟨Nat.le_of_ble_eq_true rfl, Nat.le_of_ble_eq_true rfl⟩).run (fun r_47 hw_48 => ?_)
                refine qi_as (y := hz mk (nb i 2)) (hw_48) ?_
                refine lv_imul hx hb dX0_tellHits_76 ?_
                refine lv_aload_n hx hb dX0_tellHits_77 rfl (lv_at hl 0 rfl) ?_
                refine va_get (D := (dC, dI)) (ci := 2) (v := .ref dr) (C := RX0) (T := TX0) (N := 5) hx hb hts kc_tellHits_0 hown hK hP 0 rfl rfl 2 (by decide) (hts (.fieldLink RX0 9 "MistHeaps$Chances" "drifts" "[I") kc_tellHits_6) (fun _ h9 => h9) rfl dX0_tellHits_78 ?_
                refine lv_iload hx hb dX0_tellHits_81 (lv_at hl 4 rfl) ?_
                refine va_iald hx hb hK hP 2 0 rfl rfl (vp_in_nI (n := i) (N := 36) (by omega) (by omega)) dX0_tellHits_83 ?_
                refine qi_as (y := 0) ((show fD (nI i).toNatClampNeg = fD i from by rw [nI_clamp (by omega)]).trans (zD i (by omega))) ?_
                refine lv_lload_n hx hb dX0_tellHits_84 rfl (lv_at hl 2 rfl) ?_
                refine lv_iload hx hb dX0_tellHits_85 (lv_at hl 4 rfl) ?_
                refine lv_iload hx hb dX0_tellHits_87 (lv_at hl 3 rfl) ?_
                refine lv_bipush (v := 7) hx hb dX0_tellHits_89 (by decide) ?_
                refine lv_iadd hx hb dX0_tellHits_91 ?_
                refine qi_as (y := 9) (by decide) ?_
                refine lv_bipush (v := 7) hx hb dX0_tellHits_92 (by decide) ?_
                refine lv_iand hx hb dX0_tellHits_94 ?_
                refine qi_as (y := 1) (by decide) ?_
                refine vp_callSi (va_runSN (As := [.int (nI i), .int 1]) (rest := [.long mk, .int 0, .int (20 * (hz mk (nb i 2))), .int (nI i), .ref (rh 2)]) ⟨hx, hb, hml, hown, hts⟩ (c_beside l dC dI gd i (1) (by omega) (by omega)) ⟨va_cnB 2 hts ggX0_tellHits_X11_besideOrSame rfl rfl rfl (hG.1 (.methodLinkNest RX0 56 yX11_besideOrSame "MistHeaps") (by decide +kernel)) (hts (.initialized RX11) kc_tellHits_4) (by decide +kernel) ⟨Nat.le_of_ble_eq_true rfl, Nat.le_of_ble_eq_true rfl⟩, (hts (.static yX11_besideOrSame) kc_tellHits_7), trivial⟩ ⟨fun a U g mk q => by obtain ⟨q0, qhG⟩ := q; exact ⟨q0, qhG.same rfl rfl⟩, fun U hU hW => ⟨rfl, hG.callF hS hU hW⟩⟩ rfl rfl hl.1 rfl (lv_room (Nat.le_of_ble_eq_true rfl)) dX0_tellHits_95 ⟨Nat.le_of_ble_eq_true rfl, Nat.le_of_ble_eq_true rfl⟩).run (fun r_49 hw_50 => ?_)
                refine qi_as (y := nI (nb i 1)) (hw_50) ?_
                have hn_51 : nb i 1 < 36 := nb_lt (by omega) (by omega)
                refine vp_callSi (va_runS (As := [.long mk, .int (nI (nb i 1))]) (rest := [.int 0, .int (20 * (hz mk (nb i 2))), .int (nI i), .ref (rh 2)]) ⟨hx, hb, hml, hown, hts⟩ (c_hit l dC dI gd mk (nb i 1)) (va_cwS 2 hts gX0_tellHits_X0_hit rfl rfl rfl (by decide +kernel) ⟨Nat.le_of_ble_eq_true rfl, Nat.le_of_ble_eq_true rfl⟩) ⟨fun a U g mk q => by obtain ⟨q0, qhG⟩ := q; exact ⟨q0, qhG.same rfl rfl⟩, fun U hU hW => ⟨rfl, hG.callF hS hU hW⟩⟩ rfl rfl hl.1 rfl (lv_room (Nat.le_of_ble_eq_true rfl)) dX0_tellHits_98 ⟨Nat.le_of_ble_eq_true rfl, Nat.le_of_ble_eq_true rfl⟩).run (fun r_52 hw_53 => ?_)
                refine qi_as (y := hz mk (nb i 1)) (hw_53) ?_
                refine lv_imul hx hb dX0_tellHits_101 ?_
                refine qi_as (y := 0) (Int32.zero_mul) ?_
                refine lv_iadd hx hb dX0_tellHits_102 ?_
                refine qi_as (y := 20 * hz mk (nb i 2)) (Int32.add_zero _) ?_
                refine lv_aload_n hx hb dX0_tellHits_103 rfl (lv_at hl 0 rfl) ?_
                refine va_get (D := (dC, dI)) (ci := 2) (v := .ref dr) (C := RX0) (T := TX0) (N := 5) hx hb hts kc_tellHits_0 hown hK hP 0 rfl rfl 2 (by decide) (hts (.fieldLink RX0 9 "MistHeaps$Chances" "drifts" "[I") kc_tellHits_6) (fun _ h9 => h9) rfl dX0_tellHits_104 ?_
                refine lv_iload hx hb dX0_tellHits_107 (lv_at hl 4 rfl) ?_
                refine va_iald hx hb hK hP 2 0 rfl rfl (vp_in_nI (n := i) (N := 36) (by omega) (by omega)) dX0_tellHits_109 ?_
                refine qi_as (y := 0) ((show fD (nI i).toNatClampNeg = fD i from by rw [nI_clamp (by omega)]).trans (zD i (by omega))) ?_
                refine lv_lload_n hx hb dX0_tellHits_110 rfl (lv_at hl 2 rfl) ?_
                refine lv_iload hx hb dX0_tellHits_111 (lv_at hl 4 rfl) ?_
                refine lv_iload hx hb dX0_tellHits_113 (lv_at hl 3 rfl) ?_
                refine lv_iconst (v := 1) hx hb dX0_tellHits_115 (by decide) ?_
                refine lv_iadd hx hb dX0_tellHits_116 ?_
                refine qi_as (y := 3) (by decide) ?_
                refine lv_bipush (v := 7) hx hb dX0_tellHits_117 (by decide) ?_
                refine lv_iand hx hb dX0_tellHits_119 ?_
                refine qi_as (y := 3) (by decide) ?_
                refine vp_callSi (va_runSN (As := [.int (nI i), .int 3]) (rest := [.long mk, .int 0, .int (20 * hz mk (nb i 2)), .int (nI i), .ref (rh 2)]) ⟨hx, hb, hml, hown, hts⟩ (c_beside l dC dI gd i (3) (by omega) (by omega)) ⟨va_cnB 2 hts ggX0_tellHits_X11_besideOrSame rfl rfl rfl (hG.1 (.methodLinkNest RX0 56 yX11_besideOrSame "MistHeaps") (by decide +kernel)) (hts (.initialized RX11) kc_tellHits_4) (by decide +kernel) ⟨Nat.le_of_ble_eq_true rfl, Nat.le_of_ble_eq_true rfl⟩, (hts (.static yX11_besideOrSame) kc_tellHits_7), trivial⟩ ⟨fun a U g mk q => by obtain ⟨q0, qhG⟩ := q; exact ⟨q0, qhG.same rfl rfl⟩, fun U hU hW => ⟨rfl, hG.callF hS hU hW⟩⟩ rfl rfl hl.1 rfl (lv_room (Nat.le_of_ble_eq_true rfl)) dX0_tellHits_120 ⟨Nat.le_of_ble_eq_true rfl, Nat.le_of_ble_eq_true rfl⟩).run (fun r_54 hw_55 => ?_)
                refine qi_as (y := nI (nb i 3)) (hw_55) ?_
                have hn_56 : nb i 3 < 36 := nb_lt (by omega) (by omega)
                refine vp_callSi (va_runS (As := [.long mk, .int (nI (nb i 3))]) (rest := [.int 0, .int (20 * hz mk (nb i 2)), .int (nI i), .ref (rh 2)]) ⟨hx, hb, hml, hown, hts⟩ (c_hit l dC dI gd mk (nb i 3)) (va_cwS 2 hts gX0_tellHits_X0_hit rfl rfl rfl (by decide +kernel) ⟨Nat.le_of_ble_eq_true rfl, Nat.le_of_ble_eq_true rfl⟩) ⟨fun a U g mk q => by obtain ⟨q0, qhG⟩ := q; exact ⟨q0, qhG.same rfl rfl⟩, fun U hU hW => ⟨rfl, hG.callF hS hU hW⟩⟩ rfl rfl hl.1 rfl (lv_room (Nat.le_of_ble_eq_true rfl)) dX0_tellHits_123 ⟨Nat.le_of_ble_eq_true rfl, Nat.le_of_ble_eq_true rfl⟩).run (fun r_57 hw_58 => ?_)
                refine qi_as (y := hz mk (nb i 3)) (hw_58) ?_
                refine lv_imul hx hb dX0_tellHits_126 ?_
                refine qi_as (y := 0) (Int32.zero_mul) ?_
                refine lv_iadd hx hb dX0_tellHits_127 ?_
                refine qi_as (y := 20 * hz mk (nb i 2)) (Int32.add_zero _) ?_
                refine va_iast hx hb hK hP hD hS 6 4 rfl rfl (vp_in_nI (n := i) (N := 36) (by omega) (by omega)) dX0_tellHits_128 (fun H locs hP hD hS => ?_)
                rw [nI_clamp (n := i) (by omega)] at hP hD
                have hP : va_P (dC, dI) vwCl [(ch, .inr (2, [.long ft, .int fr, .ref dr, .ref tO, .ref hO])), (sc, .inr (10, [.ref aTp, .int 0, .ref aHl, .int 0, .long 0, .int 0, .int 0, .ref aHs, .int 0, .ref aWk, .int 0, .ref aBk, .int 0, .ref aFc])), (dr, .inl (cD, 36, .inl fD)), (hO, .inl (cHO, 8, .inr (.inr (.inr (.inr (fun i => if i < 8 then some (rh i) else none)))))), ((rh 0), .inl (cH, 36, .inl b0)), ((rh 1), .inl (cH, 36, .inl b1)), ((rh 2), .inl (cH, 36, .inl (upd g i (20 * hz mk (nb i 2))))), ((rh 3), .inl (cH, 36, .inl b3)), ((rh 4), .inl (cH, 36, .inl b4)), ((rh 5), .inl (cH, 36, .inl b5)), ((rh 6), .inl (cH, 36, .inl b6)), ((rh 7), .inl (cH, 36, .inl b7))] H := hP
                have hD : va_D A [(ch, .inr (2, [.long ft, .int fr, .ref dr, .ref tO, .ref hO])), (sc, .inr (10, [.ref aTp, .int 0, .ref aHl, .int 0, .long 0, .int 0, .int 0, .ref aHs, .int 0, .ref aWk, .int 0, .ref aBk, .int 0, .ref aFc])), (dr, .inl (cD, 36, .inl fD)), (hO, .inl (cHO, 8, .inr (.inr (.inr (.inr (fun i => if i < 8 then some (rh i) else none)))))), ((rh 0), .inl (cH, 36, .inl b0)), ((rh 1), .inl (cH, 36, .inl b1)), ((rh 2), .inl (cH, 36, .inl (upd g i (20 * hz mk (nb i 2))))), ((rh 3), .inl (cH, 36, .inl b3)), ((rh 4), .inl (cH, 36, .inl b4)), ((rh 5), .inl (cH, 36, .inl b5)), ((rh 6), .inl (cH, 36, .inl b6)), ((rh 7), .inl (cH, 36, .inl b7))] := hD
                refine lv_iinc (v := nI (i + 1)) (lv' := [(5, .int (nI (i + 1))), (0, .ref ch), (1, .ref sc), (2, .long mk), (4, .int 2)]) hx hb dX0_tellHits_129 hl (k := 4) rfl (nI_add i 1) (by decide) rfl (fun ls hl => ?_)
                refine lv_goto (tgt := 13) hx hb dX0_tellHits_132 (by decide) ?_
                exact ih13 _ _ (by omega) (by omega) (upd_fill (v := hv mk 2) hg rfl) _ _ (hK.sub [0, 1, 2, 3, 4, 5, 6, 7, 8, 9] rfl) (hP.sub [0, 1, 2, 3, 4, 5, 6, 7, 8, 9, 10, 11] rfl) (hD.sub [0, 1, 2, 3, 4, 5, 6, 7, 8, 9, 10, 11] (by decide) rfl) hS ls (lv_sub hl [1, 2, 3, 4, 0] rfl)
          exact L13 _ (0) _ (Nat.lt_succ_self _) (by omega) (fun x h => absurd h (Nat.not_lt_zero x)) _ _ (hK.sub [0, 1, 2, 3, 4, 5, 6, 7, 8, 9] rfl) (hP.sub [0, 1, 2, 3, 4, 5, 6, 7, 8, 9, 10, 11] rfl) (hD.sub [0, 1, 2, 3, 4, 5, 6, 7, 8, 9, 10, 11] (by decide) rfl) hS ls (lv_sub hl [1, 2, 3, 4, 0] rfl)
        · skip
          refine lv_iconst (v := 0) hx hb dX0_tellHits_10 (by decide) ?_
          refine lv_istore (lv' := [(5, .int 0), (0, .ref ch), (1, .ref sc), (2, .long mk), (4, .int 3)]) hx hb dX0_tellHits_11 hl (by decide) rfl (fun ls hl => ?_)
          have L13 : ∀ (nF : Nat) (i : Nat) (g : Nat → Int32), 36 - i < nF → (i ≤ 36) → ((∀ x, x < i → g x = hv mk 3 x)) → ∀ (H : Heap) (locs : List Loc), va_K (dC, dI) vwCl [(cD, .int), (cHO, .array .int), (cH, .int), (cH, .int), (cH, .int), (cH, .int), (cH, .int), (cH, .int), (cH, .int), (cH, .int)] s → va_P (dC, dI) vwCl [(ch, .inr (2, [.long ft, .int fr, .ref dr, .ref tO, .ref hO])), (sc, .inr (10, [.ref aTp, .int 0, .ref aHl, .int 0, .long 0, .int 0, .int 0, .ref aHs, .int 0, .ref aWk, .int 0, .ref aBk, .int 0, .ref aFc])), (dr, .inl (cD, 36, .inl fD)), (hO, .inl (cHO, 8, .inr (.inr (.inr (.inr (fun i => if i < 8 then some (rh i) else none)))))), ((rh 0), .inl (cH, 36, .inl b0)), ((rh 1), .inl (cH, 36, .inl b1)), ((rh 2), .inl (cH, 36, .inl b2)), ((rh 3), .inl (cH, 36, .inl g)), ((rh 4), .inl (cH, 36, .inl b4)), ((rh 5), .inl (cH, 36, .inl b5)), ((rh 6), .inl (cH, 36, .inl b6)), ((rh 7), .inl (cH, 36, .inl b7))] H → va_D A [(ch, .inr (2, [.long ft, .int fr, .ref dr, .ref tO, .ref hO])), (sc, .inr (10, [.ref aTp, .int 0, .ref aHl, .int 0, .long 0, .int 0, .int 0, .ref aHs, .int 0, .ref aWk, .int 0, .ref aBk, .int 0, .ref aFc])), (dr, .inl (cD, 36, .inl fD)), (hO, .inl (cHO, 8, .inr (.inr (.inr (.inr (fun i => if i < 8 then some (rh i) else none)))))), ((rh 0), .inl (cH, 36, .inl b0)), ((rh 1), .inl (cH, 36, .inl b1)), ((rh 2), .inl (cH, 36, .inl b2)), ((rh 3), .inl (cH, 36, .inl g)), ((rh 4), .inl (cH, 36, .inl b4)), ((rh 5), .inl (cH, 36, .inl b5)), ((rh 6), .inl (cH, 36, .inl b6)), ((rh 7), .inl (cH, 36, .inl b7))] → va_S A s.heap H locs → ∀ (ls : Array Slot), lv_has ls 6 [(0, .ref ch), (1, .ref sc), (2, .long mk), (4, .int 3), (5, .int (nI i))] → W p l e ({ frames := 2, cells := 0, slots := 0, locals := 44 } : Room) s m args below meth c H locs 0 0 Q (F0 m 13 ls []) := by
            intro nF
            induction nF with
            | zero => intro i g hm; exact absurd hm (Nat.not_lt_zero _)
            | succ nF ih13 =>
              intro i g hm hi2 hg H locs hK hP hD hS ls hl
              refine lv_iload hx hb dX0_tellHits_13 (lv_at hl 4 rfl) ?_
              refine lv_bipush (v := 36) hx hb dX0_tellHits_15 (by decide) ?_
              refine lv_icmp_ge (tgt := 135) hx hb dX0_tellHits_17 (by decide) (fun c_59 => ?_) (fun c_59 => ?_)
              · skip
                have c_59 : 36 ≤ i := (nI_leI (a := 36) (b := i) (by omega) (by omega)).mp c_59
                refine lv_iinc (v := 4) (lv' := [(4, .int 4), (0, .ref ch), (1, .ref sc), (2, .long mk), (5, .int (nI i))]) hx hb dX0_tellHits_135 hl (k := 3) rfl (by decide) (by decide) rfl (fun ls hl => ?_)
                refine lv_goto (tgt := 3) hx hb dX0_tellHits_138 (by decide) ?_
                exact ih3 (4) _ _ _ _ _ _ _ _ (by omega) (by omega) (fun _ => a0 (by omega)) (fun _ => a1 (by omega)) (fun _ => a2 (by omega)) (fun _ x hx => hg x (by omega)) (fun q => absurd q (by omega)) (fun q => absurd q (by omega)) (fun q => absurd q (by omega)) (fun q => absurd q (by omega)) _ _ (hK.sub [0, 1, 2, 3, 4, 5, 6, 7, 8, 9] rfl) (hP.sub [0, 1, 2, 3, 4, 5, 6, 7, 8, 9, 10, 11] rfl) (hD.sub [0, 1, 2, 3, 4, 5, 6, 7, 8, 9, 10, 11] (by decide) rfl) hS ls (lv_sub hl [1, 2, 3, 0] rfl)
              · skip
                have c_59 : ¬ 36 ≤ i := fun q => c_59 ((nI_leI (a := 36) (b := i) (by omega) (by omega)).mpr q)
                refine lv_aload_n hx hb dX0_tellHits_20 rfl (lv_at hl 0 rfl) ?_
                refine va_get (D := (dC, dI)) (ci := 2) (v := .ref hO) (C := RX0) (T := TX0) (N := 5) hx hb hts kc_tellHits_0 hown hK hP 0 rfl rfl 4 (by decide) (hts (.fieldLink RX0 22 "MistHeaps$Chances" "hits" "[[I") kc_tellHits_1) (fun _ h9 => h9) rfl dX0_tellHits_21 ?_
                refine lv_iload hx hb dX0_tellHits_24 (lv_at hl 3 rfl) ?_
                refine va_alda hx hb hK hP 3 1 rfl rfl (vp_in_nI (n := 3) (N := 8) (by omega) (by omega)) dX0_tellHits_26 ?_
                refine qq_as (v := .ref (rh 3)) (rfl) ?_
                refine lv_iload hx hb dX0_tellHits_27 (lv_at hl 4 rfl) ?_
                refine lv_aload_n hx hb dX0_tellHits_29 rfl (lv_at hl 1 rfl) ?_
                refine va_get (D := (dC, dI)) (ci := 10) (v := .long 0) (C := RX8) (T := TX8) (N := 14) hx hb hts kc_tellHits_2 hown hK hP 1 rfl rfl 4 (by decide) (hts (.fieldLink RX0 52 "MistHeaps$Scene" "edges" "J") kc_tellHits_3) (fun _ h9 => h9) rfl dX0_tellHits_30 ?_
                refine lv_iload hx hb dX0_tellHits_33 (lv_at hl 4 rfl) ?_
                refine vp_callSi (va_runSN (As := [.long 0, .int (nI i)]) (rest := [.int (nI i), .ref (rh 3)]) ⟨hx, hb, hml, hown, hts⟩ (c_isIn l dC dI 0 i) ⟨va_cnB 2 hts ggX0_tellHits_X11_isIn rfl rfl rfl (hG.1 (.methodLinkNest RX0 44 yX11_isIn "MistHeaps") (by decide +kernel)) (hts (.initialized RX11) kc_tellHits_4) (by decide +kernel) ⟨Nat.le_of_ble_eq_true rfl, Nat.le_of_ble_eq_true rfl⟩, (hts (.static yX11_isIn) kc_tellHits_5), trivial⟩ ⟨fun a U g mk q => ⟨q.1, trivial⟩, fun U hU hW => ⟨rfl, trivial⟩⟩ rfl rfl hl.1 rfl (lv_room (Nat.le_of_ble_eq_true rfl)) dX0_tellHits_35 ⟨Nat.le_of_ble_eq_true rfl, Nat.le_of_ble_eq_true rfl⟩).run (fun r_60 hw_61 => ?_)
                refine qi_as (y := 0) (hw_61.trans (hz_e0 i (by omega))) ?_
                refine lv_if_eq (tgt := 53) hx hb dX0_tellHits_38 (by decide) (fun _ => ?_) (fun c_62 => absurd c_62 (by decide))
                refine lv_bipush (v := 20) hx hb dX0_tellHits_53 (by decide) ?_
                refine lv_iconst (v := 2) hx hb dX0_tellHits_55 (by decide) ?_
                refine lv_aload_n hx hb dX0_tellHits_56 rfl (lv_at hl 0 rfl) ?_
                refine va_get (D := (dC, dI)) (ci := 2) (v := .ref dr) (C := RX0) (T := TX0) (N := 5) hx hb hts kc_tellHits_0 hown hK hP 0 rfl rfl 2 (by decide) (hts (.fieldLink RX0 9 "MistHeaps$Chances" "drifts" "[I") kc_tellHits_6) (fun _ h9 => h9) rfl dX0_tellHits_57 ?_
                refine lv_iload hx hb dX0_tellHits_60 (lv_at hl 4 rfl) ?_
                refine va_iald hx hb hK hP 2 0 rfl rfl (vp_in_nI (n := i) (N := 36) (by omega) (by omega)) dX0_tellHits_62 ?_
                refine qi_as (y := 0) ((show fD (nI i).toNatClampNeg = fD i from by rw [nI_clamp (by omega)]).trans (zD i (by omega))) ?_
                refine lv_imul hx hb dX0_tellHits_63 ?_
                refine qi_as (y := 0) (by decide) ?_
                refine lv_isub hx hb dX0_tellHits_64 ?_
                refine qi_as (y := 20) (by decide) ?_
                refine lv_lload_n hx hb dX0_tellHits_65 rfl (lv_at hl 2 rfl) ?_
                refine lv_iload hx hb dX0_tellHits_66 (lv_at hl 4 rfl) ?_
                refine lv_iload hx hb dX0_tellHits_68 (lv_at hl 3 rfl) ?_
                refine vp_callSi (va_runSN (As := [.int (nI i), .int 3]) (rest := [.long mk, .int 20, .int (nI i), .ref (rh 3)]) ⟨hx, hb, hml, hown, hts⟩ (c_beside l dC dI gd i (3) (by omega) (by omega)) ⟨va_cnB 2 hts ggX0_tellHits_X11_besideOrSame rfl rfl rfl (hG.1 (.methodLinkNest RX0 56 yX11_besideOrSame "MistHeaps") (by decide +kernel)) (hts (.initialized RX11) kc_tellHits_4) (by decide +kernel) ⟨Nat.le_of_ble_eq_true rfl, Nat.le_of_ble_eq_true rfl⟩, (hts (.static yX11_besideOrSame) kc_tellHits_7), trivial⟩ ⟨fun a U g mk q => by obtain ⟨q0, qhG⟩ := q; exact ⟨q0, qhG.same rfl rfl⟩, fun U hU hW => ⟨rfl, hG.callF hS hU hW⟩⟩ rfl rfl hl.1 rfl (lv_room (Nat.le_of_ble_eq_true rfl)) dX0_tellHits_70 ⟨Nat.le_of_ble_eq_true rfl, Nat.le_of_ble_eq_true rfl⟩).run (fun r_63 hw_64 => ?_)
                refine qi_as (y := nI (nb i 3)) (hw_64) ?_
                have hn_65 : nb i 3 < 36 := nb_lt (by omega) (by omega)
                refine vp_callSi (va_runS (As := [.long mk, .int (nI (nb i 3))]) (rest := [.int 20, .int (nI i), .ref (rh 3)]) ⟨hx, hb, hml, hown, hts⟩ (c_hit l dC dI gd mk (nb i 3)) (va_cwS 2 hts gX0_tellHits_X0_hit rfl rfl rfl (by decide +kernel) ⟨Nat.le_of_ble_eq_true rfl, Nat.le_of_ble_eq_true rfl⟩) ⟨fun a U g mk q => by obtain ⟨q0, qhG⟩ := q; exact ⟨q0, qhG.same rfl rfl⟩, fun U hU hW => ⟨rfl, hG.callF hS hU hW⟩⟩ rfl rfl hl.1 rfl (lv_room (Nat.le_of_ble_eq_true rfl)) dX0_tellHits_73 ⟨Nat.le_of_ble_eq_true rfl, Nat.le_of_ble_eq_true rfl⟩).run (fun r_66 hw_67 => ?_)
                refine qi_as (y := hz mk (nb i 3)) (hw_67) ?_
                refine lv_imul hx hb dX0_tellHits_76 ?_
                refine lv_aload_n hx hb dX0_tellHits_77 rfl (lv_at hl 0 rfl) ?_
                refine va_get (D := (dC, dI)) (ci := 2) (v := .ref dr) (C := RX0) (T := TX0) (N := 5) hx hb hts kc_tellHits_0 hown hK hP 0 rfl rfl 2 (by decide) (hts (.fieldLink RX0 9 "MistHeaps$Chances" "drifts" "[I") kc_tellHits_6) (fun _ h9 => h9) rfl dX0_tellHits_78 ?_
                refine lv_iload hx hb dX0_tellHits_81 (lv_at hl 4 rfl) ?_
                refine va_iald hx hb hK hP 2 0 rfl rfl (vp_in_nI (n := i) (N := 36) (by omega) (by omega)) dX0_tellHits_83 ?_
                refine qi_as (y := 0) ((show fD (nI i).toNatClampNeg = fD i from by rw [nI_clamp (by omega)]).trans (zD i (by omega))) ?_
                refine lv_lload_n hx hb dX0_tellHits_84 rfl (lv_at hl 2 rfl) ?_
                refine lv_iload hx hb dX0_tellHits_85 (lv_at hl 4 rfl) ?_
                refine lv_iload hx hb dX0_tellHits_87 (lv_at hl 3 rfl) ?_
                refine lv_bipush (v := 7) hx hb dX0_tellHits_89 (by decide) ?_
                refine lv_iadd hx hb dX0_tellHits_91 ?_
                refine qi_as (y := 10) (by decide) ?_
                refine lv_bipush (v := 7) hx hb dX0_tellHits_92 (by decide) ?_
                refine lv_iand hx hb dX0_tellHits_94 ?_
                refine qi_as (y := 2) (by decide) ?_
                refine vp_callSi (va_runSN (As := [.int (nI i), .int 2]) (rest := [.long mk, .int 0, .int (20 * (hz mk (nb i 3))), .int (nI i), .ref (rh 3)]) ⟨hx, hb, hml, hown, hts⟩ (c_beside l dC dI gd i (2) (by omega) (by omega)) ⟨va_cnB 2 hts ggX0_tellHits_X11_besideOrSame rfl rfl rfl (hG.1 (.methodLinkNest RX0 56 yX11_besideOrSame "MistHeaps") (by decide +kernel)) (hts (.initialized RX11) kc_tellHits_4) (by decide +kernel) ⟨Nat.le_of_ble_eq_true rfl, Nat.le_of_ble_eq_true rfl⟩, (hts (.static yX11_besideOrSame) kc_tellHits_7), trivial⟩ ⟨fun a U g mk q => by obtain ⟨q0, qhG⟩ := q; exact ⟨q0, qhG.same rfl rfl⟩, fun U hU hW => ⟨rfl, hG.callF hS hU hW⟩⟩ rfl rfl hl.1 rfl (lv_room (Nat.le_of_ble_eq_true rfl)) dX0_tellHits_95 ⟨Nat.le_of_ble_eq_true rfl, Nat.le_of_ble_eq_true rfl⟩).run (fun r_68 hw_69 => ?_)
                refine qi_as (y := nI (nb i 2)) (hw_69) ?_
                have hn_70 : nb i 2 < 36 := nb_lt (by omega) (by omega)
                refine vp_callSi (va_runS (As := [.long mk, .int (nI (nb i 2))]) (rest := [.int 0, .int (20 * (hz mk (nb i 3))), .int (nI i), .ref (rh 3)]) ⟨hx, hb, hml, hown, hts⟩ (c_hit l dC dI gd mk (nb i 2)) (va_cwS 2 hts gX0_tellHits_X0_hit rfl rfl rfl (by decide +kernel) ⟨Nat.le_of_ble_eq_true rfl, Nat.le_of_ble_eq_true rfl⟩) ⟨fun a U g mk q => by obtain ⟨q0, qhG⟩ := q; exact ⟨q0, qhG.same rfl rfl⟩, fun U hU hW => ⟨rfl, hG.callF hS hU hW⟩⟩ rfl rfl hl.1 rfl (lv_room (Nat.le_of_ble_eq_true rfl)) dX0_tellHits_98 ⟨Nat.le_of_ble_eq_true rfl, Nat.le_of_ble_eq_true rfl⟩).run (fun r_71 hw_72 => ?_)
                refine qi_as (y := hz mk (nb i 2)) (hw_72) ?_
                refine lv_imul hx hb dX0_tellHits_101 ?_
                refine qi_as (y := 0) (Int32.zero_mul) ?_
                refine lv_iadd hx hb dX0_tellHits_102 ?_
                refine qi_as (y := 20 * hz mk (nb i 3)) (Int32.add_zero _) ?_
                refine lv_aload_n hx hb dX0_tellHits_103 rfl (lv_at hl 0 rfl) ?_
                refine va_get (D := (dC, dI)) (ci := 2) (v := .ref dr) (C := RX0) (T := TX0) (N := 5) hx hb hts kc_tellHits_0 hown hK hP 0 rfl rfl 2 (by decide) (hts (.fieldLink RX0 9 "MistHeaps$Chances" "drifts" "[I") kc_tellHits_6) (fun _ h9 => h9) rfl dX0_tellHits_104 ?_
                refine lv_iload hx hb dX0_tellHits_107 (lv_at hl 4 rfl) ?_
                refine va_iald hx hb hK hP 2 0 rfl rfl (vp_in_nI (n := i) (N := 36) (by omega) (by omega)) dX0_tellHits_109 ?_
                refine qi_as (y := 0) ((show fD (nI i).toNatClampNeg = fD i from by rw [nI_clamp (by omega)]).trans (zD i (by omega))) ?_
                refine lv_lload_n hx hb dX0_tellHits_110 rfl (lv_at hl 2 rfl) ?_
                refine lv_iload hx hb dX0_tellHits_111 (lv_at hl 4 rfl) ?_
                refine lv_iload hx hb dX0_tellHits_113 (lv_at hl 3 rfl) ?_
                refine lv_iconst (v := 1) hx hb dX0_tellHits_115 (by decide) ?_
                refine lv_iadd hx hb dX0_tellHits_116 ?_
                refine qi_as (y := 4) (by decide) ?_
                refine lv_bipush (v := 7) hx hb dX0_tellHits_117 (by decide) ?_
                refine lv_iand hx hb dX0_tellHits_119 ?_
                refine qi_as (y := 4) (by decide) ?_
                refine vp_callSi (va_runSN (As := [.int (nI i), .int 4]) (rest := [.long mk, .int 0, .int (20 * hz mk (nb i 3)), .int (nI i), .ref (rh 3)]) ⟨hx, hb, hml, hown, hts⟩ (c_beside l dC dI gd i (4) (by omega) (by omega)) ⟨va_cnB 2 hts ggX0_tellHits_X11_besideOrSame rfl rfl rfl (hG.1 (.methodLinkNest RX0 56 yX11_besideOrSame "MistHeaps") (by decide +kernel)) (hts (.initialized RX11) kc_tellHits_4) (by decide +kernel) ⟨Nat.le_of_ble_eq_true rfl, Nat.le_of_ble_eq_true rfl⟩, (hts (.static yX11_besideOrSame) kc_tellHits_7), trivial⟩ ⟨fun a U g mk q => by obtain ⟨q0, qhG⟩ := q; exact ⟨q0, qhG.same rfl rfl⟩, fun U hU hW => ⟨rfl, hG.callF hS hU hW⟩⟩ rfl rfl hl.1 rfl (lv_room (Nat.le_of_ble_eq_true rfl)) dX0_tellHits_120 ⟨Nat.le_of_ble_eq_true rfl, Nat.le_of_ble_eq_true rfl⟩).run (fun r_73 hw_74 => ?_)
                refine qi_as (y := nI (nb i 4)) (hw_74) ?_
                have hn_75 : nb i 4 < 36 := nb_lt (by omega) (by omega)
                refine vp_callSi (va_runS (As := [.long mk, .int (nI (nb i 4))]) (rest := [.int 0, .int (20 * hz mk (nb i 3)), .int (nI i), .ref (rh 3)]) ⟨hx, hb, hml, hown, hts⟩ (c_hit l dC dI gd mk (nb i 4)) (va_cwS 2 hts gX0_tellHits_X0_hit rfl rfl rfl (by decide +kernel) ⟨Nat.le_of_ble_eq_true rfl, Nat.le_of_ble_eq_true rfl⟩) ⟨fun a U g mk q => by obtain ⟨q0, qhG⟩ := q; exact ⟨q0, qhG.same rfl rfl⟩, fun U hU hW => ⟨rfl, hG.callF hS hU hW⟩⟩ rfl rfl hl.1 rfl (lv_room (Nat.le_of_ble_eq_true rfl)) dX0_tellHits_123 ⟨Nat.le_of_ble_eq_true rfl, Nat.le_of_ble_eq_true rfl⟩).run (fun r_76 hw_77 => ?_)
                refine qi_as (y := hz mk (nb i 4)) (hw_77) ?_
                refine lv_imul hx hb dX0_tellHits_126 ?_
                refine qi_as (y := 0) (Int32.zero_mul) ?_
                refine lv_iadd hx hb dX0_tellHits_127 ?_
                refine qi_as (y := 20 * hz mk (nb i 3)) (Int32.add_zero _) ?_
                refine va_iast hx hb hK hP hD hS 7 5 rfl rfl (vp_in_nI (n := i) (N := 36) (by omega) (by omega)) dX0_tellHits_128 (fun H locs hP hD hS => ?_)
                rw [nI_clamp (n := i) (by omega)] at hP hD
                have hP : va_P (dC, dI) vwCl [(ch, .inr (2, [.long ft, .int fr, .ref dr, .ref tO, .ref hO])), (sc, .inr (10, [.ref aTp, .int 0, .ref aHl, .int 0, .long 0, .int 0, .int 0, .ref aHs, .int 0, .ref aWk, .int 0, .ref aBk, .int 0, .ref aFc])), (dr, .inl (cD, 36, .inl fD)), (hO, .inl (cHO, 8, .inr (.inr (.inr (.inr (fun i => if i < 8 then some (rh i) else none)))))), ((rh 0), .inl (cH, 36, .inl b0)), ((rh 1), .inl (cH, 36, .inl b1)), ((rh 2), .inl (cH, 36, .inl b2)), ((rh 3), .inl (cH, 36, .inl (upd g i (20 * hz mk (nb i 3))))), ((rh 4), .inl (cH, 36, .inl b4)), ((rh 5), .inl (cH, 36, .inl b5)), ((rh 6), .inl (cH, 36, .inl b6)), ((rh 7), .inl (cH, 36, .inl b7))] H := hP
                have hD : va_D A [(ch, .inr (2, [.long ft, .int fr, .ref dr, .ref tO, .ref hO])), (sc, .inr (10, [.ref aTp, .int 0, .ref aHl, .int 0, .long 0, .int 0, .int 0, .ref aHs, .int 0, .ref aWk, .int 0, .ref aBk, .int 0, .ref aFc])), (dr, .inl (cD, 36, .inl fD)), (hO, .inl (cHO, 8, .inr (.inr (.inr (.inr (fun i => if i < 8 then some (rh i) else none)))))), ((rh 0), .inl (cH, 36, .inl b0)), ((rh 1), .inl (cH, 36, .inl b1)), ((rh 2), .inl (cH, 36, .inl b2)), ((rh 3), .inl (cH, 36, .inl (upd g i (20 * hz mk (nb i 3))))), ((rh 4), .inl (cH, 36, .inl b4)), ((rh 5), .inl (cH, 36, .inl b5)), ((rh 6), .inl (cH, 36, .inl b6)), ((rh 7), .inl (cH, 36, .inl b7))] := hD
                refine lv_iinc (v := nI (i + 1)) (lv' := [(5, .int (nI (i + 1))), (0, .ref ch), (1, .ref sc), (2, .long mk), (4, .int 3)]) hx hb dX0_tellHits_129 hl (k := 4) rfl (nI_add i 1) (by decide) rfl (fun ls hl => ?_)
                refine lv_goto (tgt := 13) hx hb dX0_tellHits_132 (by decide) ?_
                exact ih13 _ _ (by omega) (by omega) (upd_fill (v := hv mk 3) hg rfl) _ _ (hK.sub [0, 1, 2, 3, 4, 5, 6, 7, 8, 9] rfl) (hP.sub [0, 1, 2, 3, 4, 5, 6, 7, 8, 9, 10, 11] rfl) (hD.sub [0, 1, 2, 3, 4, 5, 6, 7, 8, 9, 10, 11] (by decide) rfl) hS ls (lv_sub hl [1, 2, 3, 4, 0] rfl)
          exact L13 _ (0) _ (Nat.lt_succ_self _) (by omega) (fun x h => absurd h (Nat.not_lt_zero x)) _ _ (hK.sub [0, 1, 2, 3, 4, 5, 6, 7, 8, 9] rfl) (hP.sub [0, 1, 2, 3, 4, 5, 6, 7, 8, 9, 10, 11] rfl) (hD.sub [0, 1, 2, 3, 4, 5, 6, 7, 8, 9, 10, 11] (by decide) rfl) hS ls (lv_sub hl [1, 2, 3, 4, 0] rfl)
        · skip
          refine lv_iconst (v := 0) hx hb dX0_tellHits_10 (by decide) ?_
          refine lv_istore (lv' := [(5, .int 0), (0, .ref ch), (1, .ref sc), (2, .long mk), (4, .int 4)]) hx hb dX0_tellHits_11 hl (by decide) rfl (fun ls hl => ?_)
          have L13 : ∀ (nF : Nat) (i : Nat) (g : Nat → Int32), 36 - i < nF → (i ≤ 36) → ((∀ x, x < i → g x = hv mk 4 x)) → ∀ (H : Heap) (locs : List Loc), va_K (dC, dI) vwCl [(cD, .int), (cHO, .array .int), (cH, .int), (cH, .int), (cH, .int), (cH, .int), (cH, .int), (cH, .int), (cH, .int), (cH, .int)] s → va_P (dC, dI) vwCl [(ch, .inr (2, [.long ft, .int fr, .ref dr, .ref tO, .ref hO])), (sc, .inr (10, [.ref aTp, .int 0, .ref aHl, .int 0, .long 0, .int 0, .int 0, .ref aHs, .int 0, .ref aWk, .int 0, .ref aBk, .int 0, .ref aFc])), (dr, .inl (cD, 36, .inl fD)), (hO, .inl (cHO, 8, .inr (.inr (.inr (.inr (fun i => if i < 8 then some (rh i) else none)))))), ((rh 0), .inl (cH, 36, .inl b0)), ((rh 1), .inl (cH, 36, .inl b1)), ((rh 2), .inl (cH, 36, .inl b2)), ((rh 3), .inl (cH, 36, .inl b3)), ((rh 4), .inl (cH, 36, .inl g)), ((rh 5), .inl (cH, 36, .inl b5)), ((rh 6), .inl (cH, 36, .inl b6)), ((rh 7), .inl (cH, 36, .inl b7))] H → va_D A [(ch, .inr (2, [.long ft, .int fr, .ref dr, .ref tO, .ref hO])), (sc, .inr (10, [.ref aTp, .int 0, .ref aHl, .int 0, .long 0, .int 0, .int 0, .ref aHs, .int 0, .ref aWk, .int 0, .ref aBk, .int 0, .ref aFc])), (dr, .inl (cD, 36, .inl fD)), (hO, .inl (cHO, 8, .inr (.inr (.inr (.inr (fun i => if i < 8 then some (rh i) else none)))))), ((rh 0), .inl (cH, 36, .inl b0)), ((rh 1), .inl (cH, 36, .inl b1)), ((rh 2), .inl (cH, 36, .inl b2)), ((rh 3), .inl (cH, 36, .inl b3)), ((rh 4), .inl (cH, 36, .inl g)), ((rh 5), .inl (cH, 36, .inl b5)), ((rh 6), .inl (cH, 36, .inl b6)), ((rh 7), .inl (cH, 36, .inl b7))] → va_S A s.heap H locs → ∀ (ls : Array Slot), lv_has ls 6 [(0, .ref ch), (1, .ref sc), (2, .long mk), (4, .int 4), (5, .int (nI i))] → W p l e ({ frames := 2, cells := 0, slots := 0, locals := 44 } : Room) s m args below meth c H locs 0 0 Q (F0 m 13 ls []) := by
            intro nF
            induction nF with
            | zero => intro i g hm; exact absurd hm (Nat.not_lt_zero _)
            | succ nF ih13 =>
              intro i g hm hi2 hg H locs hK hP hD hS ls hl
              refine lv_iload hx hb dX0_tellHits_13 (lv_at hl 4 rfl) ?_
              refine lv_bipush (v := 36) hx hb dX0_tellHits_15 (by decide) ?_
              refine lv_icmp_ge (tgt := 135) hx hb dX0_tellHits_17 (by decide) (fun c_78 => ?_) (fun c_78 => ?_)
              · skip
                have c_78 : 36 ≤ i := (nI_leI (a := 36) (b := i) (by omega) (by omega)).mp c_78
                refine lv_iinc (v := 5) (lv' := [(4, .int 5), (0, .ref ch), (1, .ref sc), (2, .long mk), (5, .int (nI i))]) hx hb dX0_tellHits_135 hl (k := 3) rfl (by decide) (by decide) rfl (fun ls hl => ?_)
                refine lv_goto (tgt := 3) hx hb dX0_tellHits_138 (by decide) ?_
                exact ih3 (5) _ _ _ _ _ _ _ _ (by omega) (by omega) (fun _ => a0 (by omega)) (fun _ => a1 (by omega)) (fun _ => a2 (by omega)) (fun _ => a3 (by omega)) (fun _ x hx => hg x (by omega)) (fun q => absurd q (by omega)) (fun q => absurd q (by omega)) (fun q => absurd q (by omega)) _ _ (hK.sub [0, 1, 2, 3, 4, 5, 6, 7, 8, 9] rfl) (hP.sub [0, 1, 2, 3, 4, 5, 6, 7, 8, 9, 10, 11] rfl) (hD.sub [0, 1, 2, 3, 4, 5, 6, 7, 8, 9, 10, 11] (by decide) rfl) hS ls (lv_sub hl [1, 2, 3, 0] rfl)
              · skip
                have c_78 : ¬ 36 ≤ i := fun q => c_78 ((nI_leI (a := 36) (b := i) (by omega) (by omega)).mpr q)
                refine lv_aload_n hx hb dX0_tellHits_20 rfl (lv_at hl 0 rfl) ?_
                refine va_get (D := (dC, dI)) (ci := 2) (v := .ref hO) (C := RX0) (T := TX0) (N := 5) hx hb hts kc_tellHits_0 hown hK hP 0 rfl rfl 4 (by decide) (hts (.fieldLink RX0 22 "MistHeaps$Chances" "hits" "[[I") kc_tellHits_1) (fun _ h9 => h9) rfl dX0_tellHits_21 ?_
                refine lv_iload hx hb dX0_tellHits_24 (lv_at hl 3 rfl) ?_
                refine va_alda hx hb hK hP 3 1 rfl rfl (vp_in_nI (n := 4) (N := 8) (by omega) (by omega)) dX0_tellHits_26 ?_
                refine qq_as (v := .ref (rh 4)) (rfl) ?_
                refine lv_iload hx hb dX0_tellHits_27 (lv_at hl 4 rfl) ?_
                refine lv_aload_n hx hb dX0_tellHits_29 rfl (lv_at hl 1 rfl) ?_
                refine va_get (D := (dC, dI)) (ci := 10) (v := .long 0) (C := RX8) (T := TX8) (N := 14) hx hb hts kc_tellHits_2 hown hK hP 1 rfl rfl 4 (by decide) (hts (.fieldLink RX0 52 "MistHeaps$Scene" "edges" "J") kc_tellHits_3) (fun _ h9 => h9) rfl dX0_tellHits_30 ?_
                refine lv_iload hx hb dX0_tellHits_33 (lv_at hl 4 rfl) ?_
                refine vp_callSi (va_runSN (As := [.long 0, .int (nI i)]) (rest := [.int (nI i), .ref (rh 4)]) ⟨hx, hb, hml, hown, hts⟩ (c_isIn l dC dI 0 i) ⟨va_cnB 2 hts ggX0_tellHits_X11_isIn rfl rfl rfl (hG.1 (.methodLinkNest RX0 44 yX11_isIn "MistHeaps") (by decide +kernel)) (hts (.initialized RX11) kc_tellHits_4) (by decide +kernel) ⟨Nat.le_of_ble_eq_true rfl, Nat.le_of_ble_eq_true rfl⟩, (hts (.static yX11_isIn) kc_tellHits_5), trivial⟩ ⟨fun a U g mk q => ⟨q.1, trivial⟩, fun U hU hW => ⟨rfl, trivial⟩⟩ rfl rfl hl.1 rfl (lv_room (Nat.le_of_ble_eq_true rfl)) dX0_tellHits_35 ⟨Nat.le_of_ble_eq_true rfl, Nat.le_of_ble_eq_true rfl⟩).run (fun r_79 hw_80 => ?_)
                refine qi_as (y := 0) (hw_80.trans (hz_e0 i (by omega))) ?_
                refine lv_if_eq (tgt := 53) hx hb dX0_tellHits_38 (by decide) (fun _ => ?_) (fun c_81 => absurd c_81 (by decide))
                refine lv_bipush (v := 20) hx hb dX0_tellHits_53 (by decide) ?_
                refine lv_iconst (v := 2) hx hb dX0_tellHits_55 (by decide) ?_
                refine lv_aload_n hx hb dX0_tellHits_56 rfl (lv_at hl 0 rfl) ?_
                refine va_get (D := (dC, dI)) (ci := 2) (v := .ref dr) (C := RX0) (T := TX0) (N := 5) hx hb hts kc_tellHits_0 hown hK hP 0 rfl rfl 2 (by decide) (hts (.fieldLink RX0 9 "MistHeaps$Chances" "drifts" "[I") kc_tellHits_6) (fun _ h9 => h9) rfl dX0_tellHits_57 ?_
                refine lv_iload hx hb dX0_tellHits_60 (lv_at hl 4 rfl) ?_
                refine va_iald hx hb hK hP 2 0 rfl rfl (vp_in_nI (n := i) (N := 36) (by omega) (by omega)) dX0_tellHits_62 ?_
                refine qi_as (y := 0) ((show fD (nI i).toNatClampNeg = fD i from by rw [nI_clamp (by omega)]).trans (zD i (by omega))) ?_
                refine lv_imul hx hb dX0_tellHits_63 ?_
                refine qi_as (y := 0) (by decide) ?_
                refine lv_isub hx hb dX0_tellHits_64 ?_
                refine qi_as (y := 20) (by decide) ?_
                refine lv_lload_n hx hb dX0_tellHits_65 rfl (lv_at hl 2 rfl) ?_
                refine lv_iload hx hb dX0_tellHits_66 (lv_at hl 4 rfl) ?_
                refine lv_iload hx hb dX0_tellHits_68 (lv_at hl 3 rfl) ?_
                refine vp_callSi (va_runSN (As := [.int (nI i), .int 4]) (rest := [.long mk, .int 20, .int (nI i), .ref (rh 4)]) ⟨hx, hb, hml, hown, hts⟩ (c_beside l dC dI gd i (4) (by omega) (by omega)) ⟨va_cnB 2 hts ggX0_tellHits_X11_besideOrSame rfl rfl rfl (hG.1 (.methodLinkNest RX0 56 yX11_besideOrSame "MistHeaps") (by decide +kernel)) (hts (.initialized RX11) kc_tellHits_4) (by decide +kernel) ⟨Nat.le_of_ble_eq_true rfl, Nat.le_of_ble_eq_true rfl⟩, (hts (.static yX11_besideOrSame) kc_tellHits_7), trivial⟩ ⟨fun a U g mk q => by obtain ⟨q0, qhG⟩ := q; exact ⟨q0, qhG.same rfl rfl⟩, fun U hU hW => ⟨rfl, hG.callF hS hU hW⟩⟩ rfl rfl hl.1 rfl (lv_room (Nat.le_of_ble_eq_true rfl)) dX0_tellHits_70 ⟨Nat.le_of_ble_eq_true rfl, Nat.le_of_ble_eq_true rfl⟩).run (fun r_82 hw_83 => ?_)
                refine qi_as (y := nI (nb i 4)) (hw_83) ?_
                have hn_84 : nb i 4 < 36 := nb_lt (by omega) (by omega)
                refine vp_callSi (va_runS (As := [.long mk, .int (nI (nb i 4))]) (rest := [.int 20, .int (nI i), .ref (rh 4)]) ⟨hx, hb, hml, hown, hts⟩ (c_hit l dC dI gd mk (nb i 4)) (va_cwS 2 hts gX0_tellHits_X0_hit rfl rfl rfl (by decide +kernel) ⟨Nat.le_of_ble_eq_true rfl, Nat.le_of_ble_eq_true rfl⟩) ⟨fun a U g mk q => by obtain ⟨q0, qhG⟩ := q; exact ⟨q0, qhG.same rfl rfl⟩, fun U hU hW => ⟨rfl, hG.callF hS hU hW⟩⟩ rfl rfl hl.1 rfl (lv_room (Nat.le_of_ble_eq_true rfl)) dX0_tellHits_73 ⟨Nat.le_of_ble_eq_true rfl, Nat.le_of_ble_eq_true rfl⟩).run (fun r_85 hw_86 => ?_)
                refine qi_as (y := hz mk (nb i 4)) (hw_86) ?_
                refine lv_imul hx hb dX0_tellHits_76 ?_
                refine lv_aload_n hx hb dX0_tellHits_77 rfl (lv_at hl 0 rfl) ?_
                refine va_get (D := (dC, dI)) (ci := 2) (v := .ref dr) (C := RX0) (T := TX0) (N := 5) hx hb hts kc_tellHits_0 hown hK hP 0 rfl rfl 2 (by decide) (hts (.fieldLink RX0 9 "MistHeaps$Chances" "drifts" "[I") kc_tellHits_6) (fun _ h9 => h9) rfl dX0_tellHits_78 ?_
                refine lv_iload hx hb dX0_tellHits_81 (lv_at hl 4 rfl) ?_
                refine va_iald hx hb hK hP 2 0 rfl rfl (vp_in_nI (n := i) (N := 36) (by omega) (by omega)) dX0_tellHits_83 ?_
                refine qi_as (y := 0) ((show fD (nI i).toNatClampNeg = fD i from by rw [nI_clamp (by omega)]).trans (zD i (by omega))) ?_
                refine lv_lload_n hx hb dX0_tellHits_84 rfl (lv_at hl 2 rfl) ?_
                refine lv_iload hx hb dX0_tellHits_85 (lv_at hl 4 rfl) ?_
                refine lv_iload hx hb dX0_tellHits_87 (lv_at hl 3 rfl) ?_
                refine lv_bipush (v := 7) hx hb dX0_tellHits_89 (by decide) ?_
                refine lv_iadd hx hb dX0_tellHits_91 ?_
                refine qi_as (y := 11) (by decide) ?_
                refine lv_bipush (v := 7) hx hb dX0_tellHits_92 (by decide) ?_
                refine lv_iand hx hb dX0_tellHits_94 ?_
                refine qi_as (y := 3) (by decide) ?_
                refine vp_callSi (va_runSN (As := [.int (nI i), .int 3]) (rest := [.long mk, .int 0, .int (20 * (hz mk (nb i 4))), .int (nI i), .ref (rh 4)]) ⟨hx, hb, hml, hown, hts⟩ (c_beside l dC dI gd i (3) (by omega) (by omega)) ⟨va_cnB 2 hts ggX0_tellHits_X11_besideOrSame rfl rfl rfl (hG.1 (.methodLinkNest RX0 56 yX11_besideOrSame "MistHeaps") (by decide +kernel)) (hts (.initialized RX11) kc_tellHits_4) (by decide +kernel) ⟨Nat.le_of_ble_eq_true rfl, Nat.le_of_ble_eq_true rfl⟩, (hts (.static yX11_besideOrSame) kc_tellHits_7), trivial⟩ ⟨fun a U g mk q => by obtain ⟨q0, qhG⟩ := q; exact ⟨q0, qhG.same rfl rfl⟩, fun U hU hW => ⟨rfl, hG.callF hS hU hW⟩⟩ rfl rfl hl.1 rfl (lv_room (Nat.le_of_ble_eq_true rfl)) dX0_tellHits_95 ⟨Nat.le_of_ble_eq_true rfl, Nat.le_of_ble_eq_true rfl⟩).run (fun r_87 hw_88 => ?_)
                refine qi_as (y := nI (nb i 3)) (hw_88) ?_
                have hn_89 : nb i 3 < 36 := nb_lt (by omega) (by omega)
                refine vp_callSi (va_runS (As := [.long mk, .int (nI (nb i 3))]) (rest := [.int 0, .int (20 * (hz mk (nb i 4))), .int (nI i), .ref (rh 4)]) ⟨hx, hb, hml, hown, hts⟩ (c_hit l dC dI gd mk (nb i 3)) (va_cwS 2 hts gX0_tellHits_X0_hit rfl rfl rfl (by decide +kernel) ⟨Nat.le_of_ble_eq_true rfl, Nat.le_of_ble_eq_true rfl⟩) ⟨fun a U g mk q => by obtain ⟨q0, qhG⟩ := q; exact ⟨q0, qhG.same rfl rfl⟩, fun U hU hW => ⟨rfl, hG.callF hS hU hW⟩⟩ rfl rfl hl.1 rfl (lv_room (Nat.le_of_ble_eq_true rfl)) dX0_tellHits_98 ⟨Nat.le_of_ble_eq_true rfl, Nat.le_of_ble_eq_true rfl⟩).run (fun r_90 hw_91 => ?_)
                refine qi_as (y := hz mk (nb i 3)) (hw_91) ?_
                refine lv_imul hx hb dX0_tellHits_101 ?_
                refine qi_as (y := 0) (Int32.zero_mul) ?_
                refine lv_iadd hx hb dX0_tellHits_102 ?_
                refine qi_as (y := 20 * hz mk (nb i 4)) (Int32.add_zero _) ?_
                refine lv_aload_n hx hb dX0_tellHits_103 rfl (lv_at hl 0 rfl) ?_
                refine va_get (D := (dC, dI)) (ci := 2) (v := .ref dr) (C := RX0) (T := TX0) (N := 5) hx hb hts kc_tellHits_0 hown hK hP 0 rfl rfl 2 (by decide) (hts (.fieldLink RX0 9 "MistHeaps$Chances" "drifts" "[I") kc_tellHits_6) (fun _ h9 => h9) rfl dX0_tellHits_104 ?_
                refine lv_iload hx hb dX0_tellHits_107 (lv_at hl 4 rfl) ?_
                refine va_iald hx hb hK hP 2 0 rfl rfl (vp_in_nI (n := i) (N := 36) (by omega) (by omega)) dX0_tellHits_109 ?_
                refine qi_as (y := 0) ((show fD (nI i).toNatClampNeg = fD i from by rw [nI_clamp (by omega)]).trans (zD i (by omega))) ?_
                refine lv_lload_n hx hb dX0_tellHits_110 rfl (lv_at hl 2 rfl) ?_
                refine lv_iload hx hb dX0_tellHits_111 (lv_at hl 4 rfl) ?_
                refine lv_iload hx hb dX0_tellHits_113 (lv_at hl 3 rfl) ?_
                refine lv_iconst (v := 1) hx hb dX0_tellHits_115 (by decide) ?_
                refine lv_iadd hx hb dX0_tellHits_116 ?_
                refine qi_as (y := 5) (by decide) ?_
                refine lv_bipush (v := 7) hx hb dX0_tellHits_117 (by decide) ?_
                refine lv_iand hx hb dX0_tellHits_119 ?_
                refine qi_as (y := 5) (by decide) ?_
                refine vp_callSi (va_runSN (As := [.int (nI i), .int 5]) (rest := [.long mk, .int 0, .int (20 * hz mk (nb i 4)), .int (nI i), .ref (rh 4)]) ⟨hx, hb, hml, hown, hts⟩ (c_beside l dC dI gd i (5) (by omega) (by omega)) ⟨va_cnB 2 hts ggX0_tellHits_X11_besideOrSame rfl rfl rfl (hG.1 (.methodLinkNest RX0 56 yX11_besideOrSame "MistHeaps") (by decide +kernel)) (hts (.initialized RX11) kc_tellHits_4) (by decide +kernel) ⟨Nat.le_of_ble_eq_true rfl, Nat.le_of_ble_eq_true rfl⟩, (hts (.static yX11_besideOrSame) kc_tellHits_7), trivial⟩ ⟨fun a U g mk q => by obtain ⟨q0, qhG⟩ := q; exact ⟨q0, qhG.same rfl rfl⟩, fun U hU hW => ⟨rfl, hG.callF hS hU hW⟩⟩ rfl rfl hl.1 rfl (lv_room (Nat.le_of_ble_eq_true rfl)) dX0_tellHits_120 ⟨Nat.le_of_ble_eq_true rfl, Nat.le_of_ble_eq_true rfl⟩).run (fun r_92 hw_93 => ?_)
                refine qi_as (y := nI (nb i 5)) (hw_93) ?_
                have hn_94 : nb i 5 < 36 := nb_lt (by omega) (by omega)
                refine vp_callSi (va_runS (As := [.long mk, .int (nI (nb i 5))]) (rest := [.int 0, .int (20 * hz mk (nb i 4)), .int (nI i), .ref (rh 4)]) ⟨hx, hb, hml, hown, hts⟩ (c_hit l dC dI gd mk (nb i 5)) (va_cwS 2 hts gX0_tellHits_X0_hit rfl rfl rfl (by decide +kernel) ⟨Nat.le_of_ble_eq_true rfl, Nat.le_of_ble_eq_true rfl⟩) ⟨fun a U g mk q => by obtain ⟨q0, qhG⟩ := q; exact ⟨q0, qhG.same rfl rfl⟩, fun U hU hW => ⟨rfl, hG.callF hS hU hW⟩⟩ rfl rfl hl.1 rfl (lv_room (Nat.le_of_ble_eq_true rfl)) dX0_tellHits_123 ⟨Nat.le_of_ble_eq_true rfl, Nat.le_of_ble_eq_true rfl⟩).run (fun r_95 hw_96 => ?_)
                refine qi_as (y := hz mk (nb i 5)) (hw_96) ?_
                refine lv_imul hx hb dX0_tellHits_126 ?_
                refine qi_as (y := 0) (Int32.zero_mul) ?_
                refine lv_iadd hx hb dX0_tellHits_127 ?_
                refine qi_as (y := 20 * hz mk (nb i 4)) (Int32.add_zero _) ?_
                refine va_iast hx hb hK hP hD hS 8 6 rfl rfl (vp_in_nI (n := i) (N := 36) (by omega) (by omega)) dX0_tellHits_128 (fun H locs hP hD hS => ?_)
                rw [nI_clamp (n := i) (by omega)] at hP hD
                have hP : va_P (dC, dI) vwCl [(ch, .inr (2, [.long ft, .int fr, .ref dr, .ref tO, .ref hO])), (sc, .inr (10, [.ref aTp, .int 0, .ref aHl, .int 0, .long 0, .int 0, .int 0, .ref aHs, .int 0, .ref aWk, .int 0, .ref aBk, .int 0, .ref aFc])), (dr, .inl (cD, 36, .inl fD)), (hO, .inl (cHO, 8, .inr (.inr (.inr (.inr (fun i => if i < 8 then some (rh i) else none)))))), ((rh 0), .inl (cH, 36, .inl b0)), ((rh 1), .inl (cH, 36, .inl b1)), ((rh 2), .inl (cH, 36, .inl b2)), ((rh 3), .inl (cH, 36, .inl b3)), ((rh 4), .inl (cH, 36, .inl (upd g i (20 * hz mk (nb i 4))))), ((rh 5), .inl (cH, 36, .inl b5)), ((rh 6), .inl (cH, 36, .inl b6)), ((rh 7), .inl (cH, 36, .inl b7))] H := hP
                have hD : va_D A [(ch, .inr (2, [.long ft, .int fr, .ref dr, .ref tO, .ref hO])), (sc, .inr (10, [.ref aTp, .int 0, .ref aHl, .int 0, .long 0, .int 0, .int 0, .ref aHs, .int 0, .ref aWk, .int 0, .ref aBk, .int 0, .ref aFc])), (dr, .inl (cD, 36, .inl fD)), (hO, .inl (cHO, 8, .inr (.inr (.inr (.inr (fun i => if i < 8 then some (rh i) else none)))))), ((rh 0), .inl (cH, 36, .inl b0)), ((rh 1), .inl (cH, 36, .inl b1)), ((rh 2), .inl (cH, 36, .inl b2)), ((rh 3), .inl (cH, 36, .inl b3)), ((rh 4), .inl (cH, 36, .inl (upd g i (20 * hz mk (nb i 4))))), ((rh 5), .inl (cH, 36, .inl b5)), ((rh 6), .inl (cH, 36, .inl b6)), ((rh 7), .inl (cH, 36, .inl b7))] := hD
                refine lv_iinc (v := nI (i + 1)) (lv' := [(5, .int (nI (i + 1))), (0, .ref ch), (1, .ref sc), (2, .long mk), (4, .int 4)]) hx hb dX0_tellHits_129 hl (k := 4) rfl (nI_add i 1) (by decide) rfl (fun ls hl => ?_)
                refine lv_goto (tgt := 13) hx hb dX0_tellHits_132 (by decide) ?_
                exact ih13 _ _ (by omega) (by omega) (upd_fill (v := hv mk 4) hg rfl) _ _ (hK.sub [0, 1, 2, 3, 4, 5, 6, 7, 8, 9] rfl) (hP.sub [0, 1, 2, 3, 4, 5, 6, 7, 8, 9, 10, 11] rfl) (hD.sub [0, 1, 2, 3, 4, 5, 6, 7, 8, 9, 10, 11] (by decide) rfl) hS ls (lv_sub hl [1, 2, 3, 4, 0] rfl)
          exact L13 _ (0) _ (Nat.lt_succ_self _) (by omega) (fun x h => absurd h (Nat.not_lt_zero x)) _ _ (hK.sub [0, 1, 2, 3, 4, 5, 6, 7, 8, 9] rfl) (hP.sub [0, 1, 2, 3, 4, 5, 6, 7, 8, 9, 10, 11] rfl) (hD.sub [0, 1, 2, 3, 4, 5, 6, 7, 8, 9, 10, 11] (by decide) rfl) hS ls (lv_sub hl [1, 2, 3, 4, 0] rfl)
        · skip
          refine lv_iconst (v := 0) hx hb dX0_tellHits_10 (by decide) ?_
          refine lv_istore (lv' := [(5, .int 0), (0, .ref ch), (1, .ref sc), (2, .long mk), (4, .int 5)]) hx hb dX0_tellHits_11 hl (by decide) rfl (fun ls hl => ?_)
          have L13 : ∀ (nF : Nat) (i : Nat) (g : Nat → Int32), 36 - i < nF → (i ≤ 36) → ((∀ x, x < i → g x = hv mk 5 x)) → ∀ (H : Heap) (locs : List Loc), va_K (dC, dI) vwCl [(cD, .int), (cHO, .array .int), (cH, .int), (cH, .int), (cH, .int), (cH, .int), (cH, .int), (cH, .int), (cH, .int), (cH, .int)] s → va_P (dC, dI) vwCl [(ch, .inr (2, [.long ft, .int fr, .ref dr, .ref tO, .ref hO])), (sc, .inr (10, [.ref aTp, .int 0, .ref aHl, .int 0, .long 0, .int 0, .int 0, .ref aHs, .int 0, .ref aWk, .int 0, .ref aBk, .int 0, .ref aFc])), (dr, .inl (cD, 36, .inl fD)), (hO, .inl (cHO, 8, .inr (.inr (.inr (.inr (fun i => if i < 8 then some (rh i) else none)))))), ((rh 0), .inl (cH, 36, .inl b0)), ((rh 1), .inl (cH, 36, .inl b1)), ((rh 2), .inl (cH, 36, .inl b2)), ((rh 3), .inl (cH, 36, .inl b3)), ((rh 4), .inl (cH, 36, .inl b4)), ((rh 5), .inl (cH, 36, .inl g)), ((rh 6), .inl (cH, 36, .inl b6)), ((rh 7), .inl (cH, 36, .inl b7))] H → va_D A [(ch, .inr (2, [.long ft, .int fr, .ref dr, .ref tO, .ref hO])), (sc, .inr (10, [.ref aTp, .int 0, .ref aHl, .int 0, .long 0, .int 0, .int 0, .ref aHs, .int 0, .ref aWk, .int 0, .ref aBk, .int 0, .ref aFc])), (dr, .inl (cD, 36, .inl fD)), (hO, .inl (cHO, 8, .inr (.inr (.inr (.inr (fun i => if i < 8 then some (rh i) else none)))))), ((rh 0), .inl (cH, 36, .inl b0)), ((rh 1), .inl (cH, 36, .inl b1)), ((rh 2), .inl (cH, 36, .inl b2)), ((rh 3), .inl (cH, 36, .inl b3)), ((rh 4), .inl (cH, 36, .inl b4)), ((rh 5), .inl (cH, 36, .inl g)), ((rh 6), .inl (cH, 36, .inl b6)), ((rh 7), .inl (cH, 36, .inl b7))] → va_S A s.heap H locs → ∀ (ls : Array Slot), lv_has ls 6 [(0, .ref ch), (1, .ref sc), (2, .long mk), (4, .int 5), (5, .int (nI i))] → W p l e ({ frames := 2, cells := 0, slots := 0, locals := 44 } : Room) s m args below meth c H locs 0 0 Q (F0 m 13 ls []) := by
            intro nF
            induction nF with
            | zero => intro i g hm; exact absurd hm (Nat.not_lt_zero _)
            | succ nF ih13 =>
              intro i g hm hi2 hg H locs hK hP hD hS ls hl
              refine lv_iload hx hb dX0_tellHits_13 (lv_at hl 4 rfl) ?_
              refine lv_bipush (v := 36) hx hb dX0_tellHits_15 (by decide) ?_
              refine lv_icmp_ge (tgt := 135) hx hb dX0_tellHits_17 (by decide) (fun c_97 => ?_) (fun c_97 => ?_)
              · skip
                have c_97 : 36 ≤ i := (nI_leI (a := 36) (b := i) (by omega) (by omega)).mp c_97
                refine lv_iinc (v := 6) (lv' := [(4, .int 6), (0, .ref ch), (1, .ref sc), (2, .long mk), (5, .int (nI i))]) hx hb dX0_tellHits_135 hl (k := 3) rfl (by decide) (by decide) rfl (fun ls hl => ?_)
                refine lv_goto (tgt := 3) hx hb dX0_tellHits_138 (by decide) ?_
                exact ih3 (6) _ _ _ _ _ _ _ _ (by omega) (by omega) (fun _ => a0 (by omega)) (fun _ => a1 (by omega)) (fun _ => a2 (by omega)) (fun _ => a3 (by omega)) (fun _ => a4 (by omega)) (fun _ x hx => hg x (by omega)) (fun q => absurd q (by omega)) (fun q => absurd q (by omega)) _ _ (hK.sub [0, 1, 2, 3, 4, 5, 6, 7, 8, 9] rfl) (hP.sub [0, 1, 2, 3, 4, 5, 6, 7, 8, 9, 10, 11] rfl) (hD.sub [0, 1, 2, 3, 4, 5, 6, 7, 8, 9, 10, 11] (by decide) rfl) hS ls (lv_sub hl [1, 2, 3, 0] rfl)
              · skip
                have c_97 : ¬ 36 ≤ i := fun q => c_97 ((nI_leI (a := 36) (b := i) (by omega) (by omega)).mpr q)
                refine lv_aload_n hx hb dX0_tellHits_20 rfl (lv_at hl 0 rfl) ?_
                refine va_get (D := (dC, dI)) (ci := 2) (v := .ref hO) (C := RX0) (T := TX0) (N := 5) hx hb hts kc_tellHits_0 hown hK hP 0 rfl rfl 4 (by decide) (hts (.fieldLink RX0 22 "MistHeaps$Chances" "hits" "[[I") kc_tellHits_1) (fun _ h9 => h9) rfl dX0_tellHits_21 ?_
                refine lv_iload hx hb dX0_tellHits_24 (lv_at hl 3 rfl) ?_
                refine va_alda hx hb hK hP 3 1 rfl rfl (vp_in_nI (n := 5) (N := 8) (by omega) (by omega)) dX0_tellHits_26 ?_
                refine qq_as (v := .ref (rh 5)) (rfl) ?_
                refine lv_iload hx hb dX0_tellHits_27 (lv_at hl 4 rfl) ?_
                refine lv_aload_n hx hb dX0_tellHits_29 rfl (lv_at hl 1 rfl) ?_
                refine va_get (D := (dC, dI)) (ci := 10) (v := .long 0) (C := RX8) (T := TX8) (N := 14) hx hb hts kc_tellHits_2 hown hK hP 1 rfl rfl 4 (by decide) (hts (.fieldLink RX0 52 "MistHeaps$Scene" "edges" "J") kc_tellHits_3) (fun _ h9 => h9) rfl dX0_tellHits_30 ?_
                refine lv_iload hx hb dX0_tellHits_33 (lv_at hl 4 rfl) ?_
                refine vp_callSi (va_runSN (As := [.long 0, .int (nI i)]) (rest := [.int (nI i), .ref (rh 5)]) ⟨hx, hb, hml, hown, hts⟩ (c_isIn l dC dI 0 i) ⟨va_cnB 2 hts ggX0_tellHits_X11_isIn rfl rfl rfl (hG.1 (.methodLinkNest RX0 44 yX11_isIn "MistHeaps") (by decide +kernel)) (hts (.initialized RX11) kc_tellHits_4) (by decide +kernel) ⟨Nat.le_of_ble_eq_true rfl, Nat.le_of_ble_eq_true rfl⟩, (hts (.static yX11_isIn) kc_tellHits_5), trivial⟩ ⟨fun a U g mk q => ⟨q.1, trivial⟩, fun U hU hW => ⟨rfl, trivial⟩⟩ rfl rfl hl.1 rfl (lv_room (Nat.le_of_ble_eq_true rfl)) dX0_tellHits_35 ⟨Nat.le_of_ble_eq_true rfl, Nat.le_of_ble_eq_true rfl⟩).run (fun r_98 hw_99 => ?_)
                refine qi_as (y := 0) (hw_99.trans (hz_e0 i (by omega))) ?_
                refine lv_if_eq (tgt := 53) hx hb dX0_tellHits_38 (by decide) (fun _ => ?_) (fun c_100 => absurd c_100 (by decide))
                refine lv_bipush (v := 20) hx hb dX0_tellHits_53 (by decide) ?_
                refine lv_iconst (v := 2) hx hb dX0_tellHits_55 (by decide) ?_
                refine lv_aload_n hx hb dX0_tellHits_56 rfl (lv_at hl 0 rfl) ?_
                refine va_get (D := (dC, dI)) (ci := 2) (v := .ref dr) (C := RX0) (T := TX0) (N := 5) hx hb hts kc_tellHits_0 hown hK hP 0 rfl rfl 2 (by decide) (hts (.fieldLink RX0 9 "MistHeaps$Chances" "drifts" "[I") kc_tellHits_6) (fun _ h9 => h9) rfl dX0_tellHits_57 ?_
                refine lv_iload hx hb dX0_tellHits_60 (lv_at hl 4 rfl) ?_
                refine va_iald hx hb hK hP 2 0 rfl rfl (vp_in_nI (n := i) (N := 36) (by omega) (by omega)) dX0_tellHits_62 ?_
                refine qi_as (y := 0) ((show fD (nI i).toNatClampNeg = fD i from by rw [nI_clamp (by omega)]).trans (zD i (by omega))) ?_
                refine lv_imul hx hb dX0_tellHits_63 ?_
                refine qi_as (y := 0) (by decide) ?_
                refine lv_isub hx hb dX0_tellHits_64 ?_
                refine qi_as (y := 20) (by decide) ?_
                refine lv_lload_n hx hb dX0_tellHits_65 rfl (lv_at hl 2 rfl) ?_
                refine lv_iload hx hb dX0_tellHits_66 (lv_at hl 4 rfl) ?_
                refine lv_iload hx hb dX0_tellHits_68 (lv_at hl 3 rfl) ?_
                refine vp_callSi (va_runSN (As := [.int (nI i), .int 5]) (rest := [.long mk, .int 20, .int (nI i), .ref (rh 5)]) ⟨hx, hb, hml, hown, hts⟩ (c_beside l dC dI gd i (5) (by omega) (by omega)) ⟨va_cnB 2 hts ggX0_tellHits_X11_besideOrSame rfl rfl rfl (hG.1 (.methodLinkNest RX0 56 yX11_besideOrSame "MistHeaps") (by decide +kernel)) (hts (.initialized RX11) kc_tellHits_4) (by decide +kernel) ⟨Nat.le_of_ble_eq_true rfl, Nat.le_of_ble_eq_true rfl⟩, (hts (.static yX11_besideOrSame) kc_tellHits_7), trivial⟩ ⟨fun a U g mk q => by obtain ⟨q0, qhG⟩ := q; exact ⟨q0, qhG.same rfl rfl⟩, fun U hU hW => ⟨rfl, hG.callF hS hU hW⟩⟩ rfl rfl hl.1 rfl (lv_room (Nat.le_of_ble_eq_true rfl)) dX0_tellHits_70 ⟨Nat.le_of_ble_eq_true rfl, Nat.le_of_ble_eq_true rfl⟩).run (fun r_101 hw_102 => ?_)
                refine qi_as (y := nI (nb i 5)) (hw_102) ?_
                have hn_103 : nb i 5 < 36 := nb_lt (by omega) (by omega)
                refine vp_callSi (va_runS (As := [.long mk, .int (nI (nb i 5))]) (rest := [.int 20, .int (nI i), .ref (rh 5)]) ⟨hx, hb, hml, hown, hts⟩ (c_hit l dC dI gd mk (nb i 5)) (va_cwS 2 hts gX0_tellHits_X0_hit rfl rfl rfl (by decide +kernel) ⟨Nat.le_of_ble_eq_true rfl, Nat.le_of_ble_eq_true rfl⟩) ⟨fun a U g mk q => by obtain ⟨q0, qhG⟩ := q; exact ⟨q0, qhG.same rfl rfl⟩, fun U hU hW => ⟨rfl, hG.callF hS hU hW⟩⟩ rfl rfl hl.1 rfl (lv_room (Nat.le_of_ble_eq_true rfl)) dX0_tellHits_73 ⟨Nat.le_of_ble_eq_true rfl, Nat.le_of_ble_eq_true rfl⟩).run (fun r_104 hw_105 => ?_)
                refine qi_as (y := hz mk (nb i 5)) (hw_105) ?_
                refine lv_imul hx hb dX0_tellHits_76 ?_
                refine lv_aload_n hx hb dX0_tellHits_77 rfl (lv_at hl 0 rfl) ?_
                refine va_get (D := (dC, dI)) (ci := 2) (v := .ref dr) (C := RX0) (T := TX0) (N := 5) hx hb hts kc_tellHits_0 hown hK hP 0 rfl rfl 2 (by decide) (hts (.fieldLink RX0 9 "MistHeaps$Chances" "drifts" "[I") kc_tellHits_6) (fun _ h9 => h9) rfl dX0_tellHits_78 ?_
                refine lv_iload hx hb dX0_tellHits_81 (lv_at hl 4 rfl) ?_
                refine va_iald hx hb hK hP 2 0 rfl rfl (vp_in_nI (n := i) (N := 36) (by omega) (by omega)) dX0_tellHits_83 ?_
                refine qi_as (y := 0) ((show fD (nI i).toNatClampNeg = fD i from by rw [nI_clamp (by omega)]).trans (zD i (by omega))) ?_
                refine lv_lload_n hx hb dX0_tellHits_84 rfl (lv_at hl 2 rfl) ?_
                refine lv_iload hx hb dX0_tellHits_85 (lv_at hl 4 rfl) ?_
                refine lv_iload hx hb dX0_tellHits_87 (lv_at hl 3 rfl) ?_
                refine lv_bipush (v := 7) hx hb dX0_tellHits_89 (by decide) ?_
                refine lv_iadd hx hb dX0_tellHits_91 ?_
                refine qi_as (y := 12) (by decide) ?_
                refine lv_bipush (v := 7) hx hb dX0_tellHits_92 (by decide) ?_
                refine lv_iand hx hb dX0_tellHits_94 ?_
                refine qi_as (y := 4) (by decide) ?_
                refine vp_callSi (va_runSN (As := [.int (nI i), .int 4]) (rest := [.long mk, .int 0, .int (20 * (hz mk (nb i 5))), .int (nI i), .ref (rh 5)]) ⟨hx, hb, hml, hown, hts⟩ (c_beside l dC dI gd i (4) (by omega) (by omega)) ⟨va_cnB 2 hts ggX0_tellHits_X11_besideOrSame rfl rfl rfl (hG.1 (.methodLinkNest RX0 56 yX11_besideOrSame "MistHeaps") (by decide +kernel)) (hts (.initialized RX11) kc_tellHits_4) (by decide +kernel) ⟨Nat.le_of_ble_eq_true rfl, Nat.le_of_ble_eq_true rfl⟩, (hts (.static yX11_besideOrSame) kc_tellHits_7), trivial⟩ ⟨fun a U g mk q => by obtain ⟨q0, qhG⟩ := q; exact ⟨q0, qhG.same rfl rfl⟩, fun U hU hW => ⟨rfl, hG.callF hS hU hW⟩⟩ rfl rfl hl.1 rfl (lv_room (Nat.le_of_ble_eq_true rfl)) dX0_tellHits_95 ⟨Nat.le_of_ble_eq_true rfl, Nat.le_of_ble_eq_true rfl⟩).run (fun r_106 hw_107 => ?_)
                refine qi_as (y := nI (nb i 4)) (hw_107) ?_
                have hn_108 : nb i 4 < 36 := nb_lt (by omega) (by omega)
                refine vp_callSi (va_runS (As := [.long mk, .int (nI (nb i 4))]) (rest := [.int 0, .int (20 * (hz mk (nb i 5))), .int (nI i), .ref (rh 5)]) ⟨hx, hb, hml, hown, hts⟩ (c_hit l dC dI gd mk (nb i 4)) (va_cwS 2 hts gX0_tellHits_X0_hit rfl rfl rfl (by decide +kernel) ⟨Nat.le_of_ble_eq_true rfl, Nat.le_of_ble_eq_true rfl⟩) ⟨fun a U g mk q => by obtain ⟨q0, qhG⟩ := q; exact ⟨q0, qhG.same rfl rfl⟩, fun U hU hW => ⟨rfl, hG.callF hS hU hW⟩⟩ rfl rfl hl.1 rfl (lv_room (Nat.le_of_ble_eq_true rfl)) dX0_tellHits_98 ⟨Nat.le_of_ble_eq_true rfl, Nat.le_of_ble_eq_true rfl⟩).run (fun r_109 hw_110 => ?_)
                refine qi_as (y := hz mk (nb i 4)) (hw_110) ?_
                refine lv_imul hx hb dX0_tellHits_101 ?_
                refine qi_as (y := 0) (Int32.zero_mul) ?_
                refine lv_iadd hx hb dX0_tellHits_102 ?_
                refine qi_as (y := 20 * hz mk (nb i 5)) (Int32.add_zero _) ?_
                refine lv_aload_n hx hb dX0_tellHits_103 rfl (lv_at hl 0 rfl) ?_
                refine va_get (D := (dC, dI)) (ci := 2) (v := .ref dr) (C := RX0) (T := TX0) (N := 5) hx hb hts kc_tellHits_0 hown hK hP 0 rfl rfl 2 (by decide) (hts (.fieldLink RX0 9 "MistHeaps$Chances" "drifts" "[I") kc_tellHits_6) (fun _ h9 => h9) rfl dX0_tellHits_104 ?_
                refine lv_iload hx hb dX0_tellHits_107 (lv_at hl 4 rfl) ?_
                refine va_iald hx hb hK hP 2 0 rfl rfl (vp_in_nI (n := i) (N := 36) (by omega) (by omega)) dX0_tellHits_109 ?_
                refine qi_as (y := 0) ((show fD (nI i).toNatClampNeg = fD i from by rw [nI_clamp (by omega)]).trans (zD i (by omega))) ?_
                refine lv_lload_n hx hb dX0_tellHits_110 rfl (lv_at hl 2 rfl) ?_
                refine lv_iload hx hb dX0_tellHits_111 (lv_at hl 4 rfl) ?_
                refine lv_iload hx hb dX0_tellHits_113 (lv_at hl 3 rfl) ?_
                refine lv_iconst (v := 1) hx hb dX0_tellHits_115 (by decide) ?_
                refine lv_iadd hx hb dX0_tellHits_116 ?_
                refine qi_as (y := 6) (by decide) ?_
                refine lv_bipush (v := 7) hx hb dX0_tellHits_117 (by decide) ?_
                refine lv_iand hx hb dX0_tellHits_119 ?_
                refine qi_as (y := 6) (by decide) ?_
                refine vp_callSi (va_runSN (As := [.int (nI i), .int 6]) (rest := [.long mk, .int 0, .int (20 * hz mk (nb i 5)), .int (nI i), .ref (rh 5)]) ⟨hx, hb, hml, hown, hts⟩ (c_beside l dC dI gd i (6) (by omega) (by omega)) ⟨va_cnB 2 hts ggX0_tellHits_X11_besideOrSame rfl rfl rfl (hG.1 (.methodLinkNest RX0 56 yX11_besideOrSame "MistHeaps") (by decide +kernel)) (hts (.initialized RX11) kc_tellHits_4) (by decide +kernel) ⟨Nat.le_of_ble_eq_true rfl, Nat.le_of_ble_eq_true rfl⟩, (hts (.static yX11_besideOrSame) kc_tellHits_7), trivial⟩ ⟨fun a U g mk q => by obtain ⟨q0, qhG⟩ := q; exact ⟨q0, qhG.same rfl rfl⟩, fun U hU hW => ⟨rfl, hG.callF hS hU hW⟩⟩ rfl rfl hl.1 rfl (lv_room (Nat.le_of_ble_eq_true rfl)) dX0_tellHits_120 ⟨Nat.le_of_ble_eq_true rfl, Nat.le_of_ble_eq_true rfl⟩).run (fun r_111 hw_112 => ?_)
                refine qi_as (y := nI (nb i 6)) (hw_112) ?_
                have hn_113 : nb i 6 < 36 := nb_lt (by omega) (by omega)
                refine vp_callSi (va_runS (As := [.long mk, .int (nI (nb i 6))]) (rest := [.int 0, .int (20 * hz mk (nb i 5)), .int (nI i), .ref (rh 5)]) ⟨hx, hb, hml, hown, hts⟩ (c_hit l dC dI gd mk (nb i 6)) (va_cwS 2 hts gX0_tellHits_X0_hit rfl rfl rfl (by decide +kernel) ⟨Nat.le_of_ble_eq_true rfl, Nat.le_of_ble_eq_true rfl⟩) ⟨fun a U g mk q => by obtain ⟨q0, qhG⟩ := q; exact ⟨q0, qhG.same rfl rfl⟩, fun U hU hW => ⟨rfl, hG.callF hS hU hW⟩⟩ rfl rfl hl.1 rfl (lv_room (Nat.le_of_ble_eq_true rfl)) dX0_tellHits_123 ⟨Nat.le_of_ble_eq_true rfl, Nat.le_of_ble_eq_true rfl⟩).run (fun r_114 hw_115 => ?_)
                refine qi_as (y := hz mk (nb i 6)) (hw_115) ?_
                refine lv_imul hx hb dX0_tellHits_126 ?_
                refine qi_as (y := 0) (Int32.zero_mul) ?_
                refine lv_iadd hx hb dX0_tellHits_127 ?_
                refine qi_as (y := 20 * hz mk (nb i 5)) (Int32.add_zero _) ?_
                refine va_iast hx hb hK hP hD hS 9 7 rfl rfl (vp_in_nI (n := i) (N := 36) (by omega) (by omega)) dX0_tellHits_128 (fun H locs hP hD hS => ?_)
                rw [nI_clamp (n := i) (by omega)] at hP hD
                have hP : va_P (dC, dI) vwCl [(ch, .inr (2, [.long ft, .int fr, .ref dr, .ref tO, .ref hO])), (sc, .inr (10, [.ref aTp, .int 0, .ref aHl, .int 0, .long 0, .int 0, .int 0, .ref aHs, .int 0, .ref aWk, .int 0, .ref aBk, .int 0, .ref aFc])), (dr, .inl (cD, 36, .inl fD)), (hO, .inl (cHO, 8, .inr (.inr (.inr (.inr (fun i => if i < 8 then some (rh i) else none)))))), ((rh 0), .inl (cH, 36, .inl b0)), ((rh 1), .inl (cH, 36, .inl b1)), ((rh 2), .inl (cH, 36, .inl b2)), ((rh 3), .inl (cH, 36, .inl b3)), ((rh 4), .inl (cH, 36, .inl b4)), ((rh 5), .inl (cH, 36, .inl (upd g i (20 * hz mk (nb i 5))))), ((rh 6), .inl (cH, 36, .inl b6)), ((rh 7), .inl (cH, 36, .inl b7))] H := hP
                have hD : va_D A [(ch, .inr (2, [.long ft, .int fr, .ref dr, .ref tO, .ref hO])), (sc, .inr (10, [.ref aTp, .int 0, .ref aHl, .int 0, .long 0, .int 0, .int 0, .ref aHs, .int 0, .ref aWk, .int 0, .ref aBk, .int 0, .ref aFc])), (dr, .inl (cD, 36, .inl fD)), (hO, .inl (cHO, 8, .inr (.inr (.inr (.inr (fun i => if i < 8 then some (rh i) else none)))))), ((rh 0), .inl (cH, 36, .inl b0)), ((rh 1), .inl (cH, 36, .inl b1)), ((rh 2), .inl (cH, 36, .inl b2)), ((rh 3), .inl (cH, 36, .inl b3)), ((rh 4), .inl (cH, 36, .inl b4)), ((rh 5), .inl (cH, 36, .inl (upd g i (20 * hz mk (nb i 5))))), ((rh 6), .inl (cH, 36, .inl b6)), ((rh 7), .inl (cH, 36, .inl b7))] := hD
                refine lv_iinc (v := nI (i + 1)) (lv' := [(5, .int (nI (i + 1))), (0, .ref ch), (1, .ref sc), (2, .long mk), (4, .int 5)]) hx hb dX0_tellHits_129 hl (k := 4) rfl (nI_add i 1) (by decide) rfl (fun ls hl => ?_)
                refine lv_goto (tgt := 13) hx hb dX0_tellHits_132 (by decide) ?_
                exact ih13 _ _ (by omega) (by omega) (upd_fill (v := hv mk 5) hg rfl) _ _ (hK.sub [0, 1, 2, 3, 4, 5, 6, 7, 8, 9] rfl) (hP.sub [0, 1, 2, 3, 4, 5, 6, 7, 8, 9, 10, 11] rfl) (hD.sub [0, 1, 2, 3, 4, 5, 6, 7, 8, 9, 10, 11] (by decide) rfl) hS ls (lv_sub hl [1, 2, 3, 4, 0] rfl)
          exact L13 _ (0) _ (Nat.lt_succ_self _) (by omega) (fun x h => absurd h (Nat.not_lt_zero x)) _ _ (hK.sub [0, 1, 2, 3, 4, 5, 6, 7, 8, 9] rfl) (hP.sub [0, 1, 2, 3, 4, 5, 6, 7, 8, 9, 10, 11] rfl) (hD.sub [0, 1, 2, 3, 4, 5, 6, 7, 8, 9, 10, 11] (by decide) rfl) hS ls (lv_sub hl [1, 2, 3, 4, 0] rfl)
        · skip
          refine lv_iconst (v := 0) hx hb dX0_tellHits_10 (by decide) ?_
          refine lv_istore (lv' := [(5, .int 0), (0, .ref ch), (1, .ref sc), (2, .long mk), (4, .int 6)]) hx hb dX0_tellHits_11 hl (by decide) rfl (fun ls hl => ?_)
          have L13 : ∀ (nF : Nat) (i : Nat) (g : Nat → Int32), 36 - i < nF → (i ≤ 36) → ((∀ x, x < i → g x = hv mk 6 x)) → ∀ (H : Heap) (locs : List Loc), va_K (dC, dI) vwCl [(cD, .int), (cHO, .array .int), (cH, .int), (cH, .int), (cH, .int), (cH, .int), (cH, .int), (cH, .int), (cH, .int), (cH, .int)] s → va_P (dC, dI) vwCl [(ch, .inr (2, [.long ft, .int fr, .ref dr, .ref tO, .ref hO])), (sc, .inr (10, [.ref aTp, .int 0, .ref aHl, .int 0, .long 0, .int 0, .int 0, .ref aHs, .int 0, .ref aWk, .int 0, .ref aBk, .int 0, .ref aFc])), (dr, .inl (cD, 36, .inl fD)), (hO, .inl (cHO, 8, .inr (.inr (.inr (.inr (fun i => if i < 8 then some (rh i) else none)))))), ((rh 0), .inl (cH, 36, .inl b0)), ((rh 1), .inl (cH, 36, .inl b1)), ((rh 2), .inl (cH, 36, .inl b2)), ((rh 3), .inl (cH, 36, .inl b3)), ((rh 4), .inl (cH, 36, .inl b4)), ((rh 5), .inl (cH, 36, .inl b5)), ((rh 6), .inl (cH, 36, .inl g)), ((rh 7), .inl (cH, 36, .inl b7))] H → va_D A [(ch, .inr (2, [.long ft, .int fr, .ref dr, .ref tO, .ref hO])), (sc, .inr (10, [.ref aTp, .int 0, .ref aHl, .int 0, .long 0, .int 0, .int 0, .ref aHs, .int 0, .ref aWk, .int 0, .ref aBk, .int 0, .ref aFc])), (dr, .inl (cD, 36, .inl fD)), (hO, .inl (cHO, 8, .inr (.inr (.inr (.inr (fun i => if i < 8 then some (rh i) else none)))))), ((rh 0), .inl (cH, 36, .inl b0)), ((rh 1), .inl (cH, 36, .inl b1)), ((rh 2), .inl (cH, 36, .inl b2)), ((rh 3), .inl (cH, 36, .inl b3)), ((rh 4), .inl (cH, 36, .inl b4)), ((rh 5), .inl (cH, 36, .inl b5)), ((rh 6), .inl (cH, 36, .inl g)), ((rh 7), .inl (cH, 36, .inl b7))] → va_S A s.heap H locs → ∀ (ls : Array Slot), lv_has ls 6 [(0, .ref ch), (1, .ref sc), (2, .long mk), (4, .int 6), (5, .int (nI i))] → W p l e ({ frames := 2, cells := 0, slots := 0, locals := 44 } : Room) s m args below meth c H locs 0 0 Q (F0 m 13 ls []) := by
            intro nF
            induction nF with
            | zero => intro i g hm; exact absurd hm (Nat.not_lt_zero _)
            | succ nF ih13 =>
              intro i g hm hi2 hg H locs hK hP hD hS ls hl
              refine lv_iload hx hb dX0_tellHits_13 (lv_at hl 4 rfl) ?_
              refine lv_bipush (v := 36) hx hb dX0_tellHits_15 (by decide) ?_
              refine lv_icmp_ge (tgt := 135) hx hb dX0_tellHits_17 (by decide) (fun c_116 => ?_) (fun c_116 => ?_)
              · skip
                have c_116 : 36 ≤ i := (nI_leI (a := 36) (b := i) (by omega) (by omega)).mp c_116
                refine lv_iinc (v := 7) (lv' := [(4, .int 7), (0, .ref ch), (1, .ref sc), (2, .long mk), (5, .int (nI i))]) hx hb dX0_tellHits_135 hl (k := 3) rfl (by decide) (by decide) rfl (fun ls hl => ?_)
                refine lv_goto (tgt := 3) hx hb dX0_tellHits_138 (by decide) ?_
                exact ih3 (7) _ _ _ _ _ _ _ _ (by omega) (by omega) (fun _ => a0 (by omega)) (fun _ => a1 (by omega)) (fun _ => a2 (by omega)) (fun _ => a3 (by omega)) (fun _ => a4 (by omega)) (fun _ => a5 (by omega)) (fun _ x hx => hg x (by omega)) (fun q => absurd q (by omega)) _ _ (hK.sub [0, 1, 2, 3, 4, 5, 6, 7, 8, 9] rfl) (hP.sub [0, 1, 2, 3, 4, 5, 6, 7, 8, 9, 10, 11] rfl) (hD.sub [0, 1, 2, 3, 4, 5, 6, 7, 8, 9, 10, 11] (by decide) rfl) hS ls (lv_sub hl [1, 2, 3, 0] rfl)
              · skip
                have c_116 : ¬ 36 ≤ i := fun q => c_116 ((nI_leI (a := 36) (b := i) (by omega) (by omega)).mpr q)
                refine lv_aload_n hx hb dX0_tellHits_20 rfl (lv_at hl 0 rfl) ?_
                refine va_get (D := (dC, dI)) (ci := 2) (v := .ref hO) (C := RX0) (T := TX0) (N := 5) hx hb hts kc_tellHits_0 hown hK hP 0 rfl rfl 4 (by decide) (hts (.fieldLink RX0 22 "MistHeaps$Chances" "hits" "[[I") kc_tellHits_1) (fun _ h9 => h9) rfl dX0_tellHits_21 ?_
                refine lv_iload hx hb dX0_tellHits_24 (lv_at hl 3 rfl) ?_
                refine va_alda hx hb hK hP 3 1 rfl rfl (vp_in_nI (n := 6) (N := 8) (by omega) (by omega)) dX0_tellHits_26 ?_
                refine qq_as (v := .ref (rh 6)) (rfl) ?_
                refine lv_iload hx hb dX0_tellHits_27 (lv_at hl 4 rfl) ?_
                refine lv_aload_n hx hb dX0_tellHits_29 rfl (lv_at hl 1 rfl) ?_
                refine va_get (D := (dC, dI)) (ci := 10) (v := .long 0) (C := RX8) (T := TX8) (N := 14) hx hb hts kc_tellHits_2 hown hK hP 1 rfl rfl 4 (by decide) (hts (.fieldLink RX0 52 "MistHeaps$Scene" "edges" "J") kc_tellHits_3) (fun _ h9 => h9) rfl dX0_tellHits_30 ?_
                refine lv_iload hx hb dX0_tellHits_33 (lv_at hl 4 rfl) ?_
                refine vp_callSi (va_runSN (As := [.long 0, .int (nI i)]) (rest := [.int (nI i), .ref (rh 6)]) ⟨hx, hb, hml, hown, hts⟩ (c_isIn l dC dI 0 i) ⟨va_cnB 2 hts ggX0_tellHits_X11_isIn rfl rfl rfl (hG.1 (.methodLinkNest RX0 44 yX11_isIn "MistHeaps") (by decide +kernel)) (hts (.initialized RX11) kc_tellHits_4) (by decide +kernel) ⟨Nat.le_of_ble_eq_true rfl, Nat.le_of_ble_eq_true rfl⟩, (hts (.static yX11_isIn) kc_tellHits_5), trivial⟩ ⟨fun a U g mk q => ⟨q.1, trivial⟩, fun U hU hW => ⟨rfl, trivial⟩⟩ rfl rfl hl.1 rfl (lv_room (Nat.le_of_ble_eq_true rfl)) dX0_tellHits_35 ⟨Nat.le_of_ble_eq_true rfl, Nat.le_of_ble_eq_true rfl⟩).run (fun r_117 hw_118 => ?_)
                refine qi_as (y := 0) (hw_118.trans (hz_e0 i (by omega))) ?_
                refine lv_if_eq (tgt := 53) hx hb dX0_tellHits_38 (by decide) (fun _ => ?_) (fun c_119 => absurd c_119 (by decide))
                refine lv_bipush (v := 20) hx hb dX0_tellHits_53 (by decide) ?_
                refine lv_iconst (v := 2) hx hb dX0_tellHits_55 (by decide) ?_
                refine lv_aload_n hx hb dX0_tellHits_56 rfl (lv_at hl 0 rfl) ?_
                refine va_get (D := (dC, dI)) (ci := 2) (v := .ref dr) (C := RX0) (T := TX0) (N := 5) hx hb hts kc_tellHits_0 hown hK hP 0 rfl rfl 2 (by decide) (hts (.fieldLink RX0 9 "MistHeaps$Chances" "drifts" "[I") kc_tellHits_6) (fun _ h9 => h9) rfl dX0_tellHits_57 ?_
                refine lv_iload hx hb dX0_tellHits_60 (lv_at hl 4 rfl) ?_
                refine va_iald hx hb hK hP 2 0 rfl rfl (vp_in_nI (n := i) (N := 36) (by omega) (by omega)) dX0_tellHits_62 ?_
                refine qi_as (y := 0) ((show fD (nI i).toNatClampNeg = fD i from by rw [nI_clamp (by omega)]).trans (zD i (by omega))) ?_
                refine lv_imul hx hb dX0_tellHits_63 ?_
                refine qi_as (y := 0) (by decide) ?_
                refine lv_isub hx hb dX0_tellHits_64 ?_
                refine qi_as (y := 20) (by decide) ?_
                refine lv_lload_n hx hb dX0_tellHits_65 rfl (lv_at hl 2 rfl) ?_
                refine lv_iload hx hb dX0_tellHits_66 (lv_at hl 4 rfl) ?_
                refine lv_iload hx hb dX0_tellHits_68 (lv_at hl 3 rfl) ?_
                refine vp_callSi (va_runSN (As := [.int (nI i), .int 6]) (rest := [.long mk, .int 20, .int (nI i), .ref (rh 6)]) ⟨hx, hb, hml, hown, hts⟩ (c_beside l dC dI gd i (6) (by omega) (by omega)) ⟨va_cnB 2 hts ggX0_tellHits_X11_besideOrSame rfl rfl rfl (hG.1 (.methodLinkNest RX0 56 yX11_besideOrSame "MistHeaps") (by decide +kernel)) (hts (.initialized RX11) kc_tellHits_4) (by decide +kernel) ⟨Nat.le_of_ble_eq_true rfl, Nat.le_of_ble_eq_true rfl⟩, (hts (.static yX11_besideOrSame) kc_tellHits_7), trivial⟩ ⟨fun a U g mk q => by obtain ⟨q0, qhG⟩ := q; exact ⟨q0, qhG.same rfl rfl⟩, fun U hU hW => ⟨rfl, hG.callF hS hU hW⟩⟩ rfl rfl hl.1 rfl (lv_room (Nat.le_of_ble_eq_true rfl)) dX0_tellHits_70 ⟨Nat.le_of_ble_eq_true rfl, Nat.le_of_ble_eq_true rfl⟩).run (fun r_120 hw_121 => ?_)
                refine qi_as (y := nI (nb i 6)) (hw_121) ?_
                have hn_122 : nb i 6 < 36 := nb_lt (by omega) (by omega)
                refine vp_callSi (va_runS (As := [.long mk, .int (nI (nb i 6))]) (rest := [.int 20, .int (nI i), .ref (rh 6)]) ⟨hx, hb, hml, hown, hts⟩ (c_hit l dC dI gd mk (nb i 6)) (va_cwS 2 hts gX0_tellHits_X0_hit rfl rfl rfl (by decide +kernel) ⟨Nat.le_of_ble_eq_true rfl, Nat.le_of_ble_eq_true rfl⟩) ⟨fun a U g mk q => by obtain ⟨q0, qhG⟩ := q; exact ⟨q0, qhG.same rfl rfl⟩, fun U hU hW => ⟨rfl, hG.callF hS hU hW⟩⟩ rfl rfl hl.1 rfl (lv_room (Nat.le_of_ble_eq_true rfl)) dX0_tellHits_73 ⟨Nat.le_of_ble_eq_true rfl, Nat.le_of_ble_eq_true rfl⟩).run (fun r_123 hw_124 => ?_)
                refine qi_as (y := hz mk (nb i 6)) (hw_124) ?_
                refine lv_imul hx hb dX0_tellHits_76 ?_
                refine lv_aload_n hx hb dX0_tellHits_77 rfl (lv_at hl 0 rfl) ?_
                refine va_get (D := (dC, dI)) (ci := 2) (v := .ref dr) (C := RX0) (T := TX0) (N := 5) hx hb hts kc_tellHits_0 hown hK hP 0 rfl rfl 2 (by decide) (hts (.fieldLink RX0 9 "MistHeaps$Chances" "drifts" "[I") kc_tellHits_6) (fun _ h9 => h9) rfl dX0_tellHits_78 ?_
                refine lv_iload hx hb dX0_tellHits_81 (lv_at hl 4 rfl) ?_
                refine va_iald hx hb hK hP 2 0 rfl rfl (vp_in_nI (n := i) (N := 36) (by omega) (by omega)) dX0_tellHits_83 ?_
                refine qi_as (y := 0) ((show fD (nI i).toNatClampNeg = fD i from by rw [nI_clamp (by omega)]).trans (zD i (by omega))) ?_
                refine lv_lload_n hx hb dX0_tellHits_84 rfl (lv_at hl 2 rfl) ?_
                refine lv_iload hx hb dX0_tellHits_85 (lv_at hl 4 rfl) ?_
                refine lv_iload hx hb dX0_tellHits_87 (lv_at hl 3 rfl) ?_
                refine lv_bipush (v := 7) hx hb dX0_tellHits_89 (by decide) ?_
                refine lv_iadd hx hb dX0_tellHits_91 ?_
                refine qi_as (y := 13) (by decide) ?_
                refine lv_bipush (v := 7) hx hb dX0_tellHits_92 (by decide) ?_
                refine lv_iand hx hb dX0_tellHits_94 ?_
                refine qi_as (y := 5) (by decide) ?_
                refine vp_callSi (va_runSN (As := [.int (nI i), .int 5]) (rest := [.long mk, .int 0, .int (20 * (hz mk (nb i 6))), .int (nI i), .ref (rh 6)]) ⟨hx, hb, hml, hown, hts⟩ (c_beside l dC dI gd i (5) (by omega) (by omega)) ⟨va_cnB 2 hts ggX0_tellHits_X11_besideOrSame rfl rfl rfl (hG.1 (.methodLinkNest RX0 56 yX11_besideOrSame "MistHeaps") (by decide +kernel)) (hts (.initialized RX11) kc_tellHits_4) (by decide +kernel) ⟨Nat.le_of_ble_eq_true rfl, Nat.le_of_ble_eq_true rfl⟩, (hts (.static yX11_besideOrSame) kc_tellHits_7), trivial⟩ ⟨fun a U g mk q => by obtain ⟨q0, qhG⟩ := q; exact ⟨q0, qhG.same rfl rfl⟩, fun U hU hW => ⟨rfl, hG.callF hS hU hW⟩⟩ rfl rfl hl.1 rfl (lv_room (Nat.le_of_ble_eq_true rfl)) dX0_tellHits_95 ⟨Nat.le_of_ble_eq_true rfl, Nat.le_of_ble_eq_true rfl⟩).run (fun r_125 hw_126 => ?_)
                refine qi_as (y := nI (nb i 5)) (hw_126) ?_
                have hn_127 : nb i 5 < 36 := nb_lt (by omega) (by omega)
                refine vp_callSi (va_runS (As := [.long mk, .int (nI (nb i 5))]) (rest := [.int 0, .int (20 * (hz mk (nb i 6))), .int (nI i), .ref (rh 6)]) ⟨hx, hb, hml, hown, hts⟩ (c_hit l dC dI gd mk (nb i 5)) (va_cwS 2 hts gX0_tellHits_X0_hit rfl rfl rfl (by decide +kernel) ⟨Nat.le_of_ble_eq_true rfl, Nat.le_of_ble_eq_true rfl⟩) ⟨fun a U g mk q => by obtain ⟨q0, qhG⟩ := q; exact ⟨q0, qhG.same rfl rfl⟩, fun U hU hW => ⟨rfl, hG.callF hS hU hW⟩⟩ rfl rfl hl.1 rfl (lv_room (Nat.le_of_ble_eq_true rfl)) dX0_tellHits_98 ⟨Nat.le_of_ble_eq_true rfl, Nat.le_of_ble_eq_true rfl⟩).run (fun r_128 hw_129 => ?_)
                refine qi_as (y := hz mk (nb i 5)) (hw_129) ?_
                refine lv_imul hx hb dX0_tellHits_101 ?_
                refine qi_as (y := 0) (Int32.zero_mul) ?_
                refine lv_iadd hx hb dX0_tellHits_102 ?_
                refine qi_as (y := 20 * hz mk (nb i 6)) (Int32.add_zero _) ?_
                refine lv_aload_n hx hb dX0_tellHits_103 rfl (lv_at hl 0 rfl) ?_
                refine va_get (D := (dC, dI)) (ci := 2) (v := .ref dr) (C := RX0) (T := TX0) (N := 5) hx hb hts kc_tellHits_0 hown hK hP 0 rfl rfl 2 (by decide) (hts (.fieldLink RX0 9 "MistHeaps$Chances" "drifts" "[I") kc_tellHits_6) (fun _ h9 => h9) rfl dX0_tellHits_104 ?_
                refine lv_iload hx hb dX0_tellHits_107 (lv_at hl 4 rfl) ?_
                refine va_iald hx hb hK hP 2 0 rfl rfl (vp_in_nI (n := i) (N := 36) (by omega) (by omega)) dX0_tellHits_109 ?_
                refine qi_as (y := 0) ((show fD (nI i).toNatClampNeg = fD i from by rw [nI_clamp (by omega)]).trans (zD i (by omega))) ?_
                refine lv_lload_n hx hb dX0_tellHits_110 rfl (lv_at hl 2 rfl) ?_
                refine lv_iload hx hb dX0_tellHits_111 (lv_at hl 4 rfl) ?_
                refine lv_iload hx hb dX0_tellHits_113 (lv_at hl 3 rfl) ?_
                refine lv_iconst (v := 1) hx hb dX0_tellHits_115 (by decide) ?_
                refine lv_iadd hx hb dX0_tellHits_116 ?_
                refine qi_as (y := 7) (by decide) ?_
                refine lv_bipush (v := 7) hx hb dX0_tellHits_117 (by decide) ?_
                refine lv_iand hx hb dX0_tellHits_119 ?_
                refine qi_as (y := 7) (by decide) ?_
                refine vp_callSi (va_runSN (As := [.int (nI i), .int 7]) (rest := [.long mk, .int 0, .int (20 * hz mk (nb i 6)), .int (nI i), .ref (rh 6)]) ⟨hx, hb, hml, hown, hts⟩ (c_beside l dC dI gd i (7) (by omega) (by omega)) ⟨va_cnB 2 hts ggX0_tellHits_X11_besideOrSame rfl rfl rfl (hG.1 (.methodLinkNest RX0 56 yX11_besideOrSame "MistHeaps") (by decide +kernel)) (hts (.initialized RX11) kc_tellHits_4) (by decide +kernel) ⟨Nat.le_of_ble_eq_true rfl, Nat.le_of_ble_eq_true rfl⟩, (hts (.static yX11_besideOrSame) kc_tellHits_7), trivial⟩ ⟨fun a U g mk q => by obtain ⟨q0, qhG⟩ := q; exact ⟨q0, qhG.same rfl rfl⟩, fun U hU hW => ⟨rfl, hG.callF hS hU hW⟩⟩ rfl rfl hl.1 rfl (lv_room (Nat.le_of_ble_eq_true rfl)) dX0_tellHits_120 ⟨Nat.le_of_ble_eq_true rfl, Nat.le_of_ble_eq_true rfl⟩).run (fun r_130 hw_131 => ?_)
                refine qi_as (y := nI (nb i 7)) (hw_131) ?_
                have hn_132 : nb i 7 < 36 := nb_lt (by omega) (by omega)
                refine vp_callSi (va_runS (As := [.long mk, .int (nI (nb i 7))]) (rest := [.int 0, .int (20 * hz mk (nb i 6)), .int (nI i), .ref (rh 6)]) ⟨hx, hb, hml, hown, hts⟩ (c_hit l dC dI gd mk (nb i 7)) (va_cwS 2 hts gX0_tellHits_X0_hit rfl rfl rfl (by decide +kernel) ⟨Nat.le_of_ble_eq_true rfl, Nat.le_of_ble_eq_true rfl⟩) ⟨fun a U g mk q => by obtain ⟨q0, qhG⟩ := q; exact ⟨q0, qhG.same rfl rfl⟩, fun U hU hW => ⟨rfl, hG.callF hS hU hW⟩⟩ rfl rfl hl.1 rfl (lv_room (Nat.le_of_ble_eq_true rfl)) dX0_tellHits_123 ⟨Nat.le_of_ble_eq_true rfl, Nat.le_of_ble_eq_true rfl⟩).run (fun r_133 hw_134 => ?_)
                refine qi_as (y := hz mk (nb i 7)) (hw_134) ?_
                refine lv_imul hx hb dX0_tellHits_126 ?_
                refine qi_as (y := 0) (Int32.zero_mul) ?_
                refine lv_iadd hx hb dX0_tellHits_127 ?_
                refine qi_as (y := 20 * hz mk (nb i 6)) (Int32.add_zero _) ?_
                refine va_iast hx hb hK hP hD hS 10 8 rfl rfl (vp_in_nI (n := i) (N := 36) (by omega) (by omega)) dX0_tellHits_128 (fun H locs hP hD hS => ?_)
                rw [nI_clamp (n := i) (by omega)] at hP hD
                have hP : va_P (dC, dI) vwCl [(ch, .inr (2, [.long ft, .int fr, .ref dr, .ref tO, .ref hO])), (sc, .inr (10, [.ref aTp, .int 0, .ref aHl, .int 0, .long 0, .int 0, .int 0, .ref aHs, .int 0, .ref aWk, .int 0, .ref aBk, .int 0, .ref aFc])), (dr, .inl (cD, 36, .inl fD)), (hO, .inl (cHO, 8, .inr (.inr (.inr (.inr (fun i => if i < 8 then some (rh i) else none)))))), ((rh 0), .inl (cH, 36, .inl b0)), ((rh 1), .inl (cH, 36, .inl b1)), ((rh 2), .inl (cH, 36, .inl b2)), ((rh 3), .inl (cH, 36, .inl b3)), ((rh 4), .inl (cH, 36, .inl b4)), ((rh 5), .inl (cH, 36, .inl b5)), ((rh 6), .inl (cH, 36, .inl (upd g i (20 * hz mk (nb i 6))))), ((rh 7), .inl (cH, 36, .inl b7))] H := hP
                have hD : va_D A [(ch, .inr (2, [.long ft, .int fr, .ref dr, .ref tO, .ref hO])), (sc, .inr (10, [.ref aTp, .int 0, .ref aHl, .int 0, .long 0, .int 0, .int 0, .ref aHs, .int 0, .ref aWk, .int 0, .ref aBk, .int 0, .ref aFc])), (dr, .inl (cD, 36, .inl fD)), (hO, .inl (cHO, 8, .inr (.inr (.inr (.inr (fun i => if i < 8 then some (rh i) else none)))))), ((rh 0), .inl (cH, 36, .inl b0)), ((rh 1), .inl (cH, 36, .inl b1)), ((rh 2), .inl (cH, 36, .inl b2)), ((rh 3), .inl (cH, 36, .inl b3)), ((rh 4), .inl (cH, 36, .inl b4)), ((rh 5), .inl (cH, 36, .inl b5)), ((rh 6), .inl (cH, 36, .inl (upd g i (20 * hz mk (nb i 6))))), ((rh 7), .inl (cH, 36, .inl b7))] := hD
                refine lv_iinc (v := nI (i + 1)) (lv' := [(5, .int (nI (i + 1))), (0, .ref ch), (1, .ref sc), (2, .long mk), (4, .int 6)]) hx hb dX0_tellHits_129 hl (k := 4) rfl (nI_add i 1) (by decide) rfl (fun ls hl => ?_)
                refine lv_goto (tgt := 13) hx hb dX0_tellHits_132 (by decide) ?_
                exact ih13 _ _ (by omega) (by omega) (upd_fill (v := hv mk 6) hg rfl) _ _ (hK.sub [0, 1, 2, 3, 4, 5, 6, 7, 8, 9] rfl) (hP.sub [0, 1, 2, 3, 4, 5, 6, 7, 8, 9, 10, 11] rfl) (hD.sub [0, 1, 2, 3, 4, 5, 6, 7, 8, 9, 10, 11] (by decide) rfl) hS ls (lv_sub hl [1, 2, 3, 4, 0] rfl)
          exact L13 _ (0) _ (Nat.lt_succ_self _) (by omega) (fun x h => absurd h (Nat.not_lt_zero x)) _ _ (hK.sub [0, 1, 2, 3, 4, 5, 6, 7, 8, 9] rfl) (hP.sub [0, 1, 2, 3, 4, 5, 6, 7, 8, 9, 10, 11] rfl) (hD.sub [0, 1, 2, 3, 4, 5, 6, 7, 8, 9, 10, 11] (by decide) rfl) hS ls (lv_sub hl [1, 2, 3, 4, 0] rfl)
        · skip
          refine lv_iconst (v := 0) hx hb dX0_tellHits_10 (by decide) ?_
          refine lv_istore (lv' := [(5, .int 0), (0, .ref ch), (1, .ref sc), (2, .long mk), (4, .int 7)]) hx hb dX0_tellHits_11 hl (by decide) rfl (fun ls hl => ?_)
          have L13 : ∀ (nF : Nat) (i : Nat) (g : Nat → Int32), 36 - i < nF → (i ≤ 36) → ((∀ x, x < i → g x = hv mk 7 x)) → ∀ (H : Heap) (locs : List Loc), va_K (dC, dI) vwCl [(cD, .int), (cHO, .array .int), (cH, .int), (cH, .int), (cH, .int), (cH, .int), (cH, .int), (cH, .int), (cH, .int), (cH, .int)] s → va_P (dC, dI) vwCl [(ch, .inr (2, [.long ft, .int fr, .ref dr, .ref tO, .ref hO])), (sc, .inr (10, [.ref aTp, .int 0, .ref aHl, .int 0, .long 0, .int 0, .int 0, .ref aHs, .int 0, .ref aWk, .int 0, .ref aBk, .int 0, .ref aFc])), (dr, .inl (cD, 36, .inl fD)), (hO, .inl (cHO, 8, .inr (.inr (.inr (.inr (fun i => if i < 8 then some (rh i) else none)))))), ((rh 0), .inl (cH, 36, .inl b0)), ((rh 1), .inl (cH, 36, .inl b1)), ((rh 2), .inl (cH, 36, .inl b2)), ((rh 3), .inl (cH, 36, .inl b3)), ((rh 4), .inl (cH, 36, .inl b4)), ((rh 5), .inl (cH, 36, .inl b5)), ((rh 6), .inl (cH, 36, .inl b6)), ((rh 7), .inl (cH, 36, .inl g))] H → va_D A [(ch, .inr (2, [.long ft, .int fr, .ref dr, .ref tO, .ref hO])), (sc, .inr (10, [.ref aTp, .int 0, .ref aHl, .int 0, .long 0, .int 0, .int 0, .ref aHs, .int 0, .ref aWk, .int 0, .ref aBk, .int 0, .ref aFc])), (dr, .inl (cD, 36, .inl fD)), (hO, .inl (cHO, 8, .inr (.inr (.inr (.inr (fun i => if i < 8 then some (rh i) else none)))))), ((rh 0), .inl (cH, 36, .inl b0)), ((rh 1), .inl (cH, 36, .inl b1)), ((rh 2), .inl (cH, 36, .inl b2)), ((rh 3), .inl (cH, 36, .inl b3)), ((rh 4), .inl (cH, 36, .inl b4)), ((rh 5), .inl (cH, 36, .inl b5)), ((rh 6), .inl (cH, 36, .inl b6)), ((rh 7), .inl (cH, 36, .inl g))] → va_S A s.heap H locs → ∀ (ls : Array Slot), lv_has ls 6 [(0, .ref ch), (1, .ref sc), (2, .long mk), (4, .int 7), (5, .int (nI i))] → W p l e ({ frames := 2, cells := 0, slots := 0, locals := 44 } : Room) s m args below meth c H locs 0 0 Q (F0 m 13 ls []) := by
            intro nF
            induction nF with
            | zero => intro i g hm; exact absurd hm (Nat.not_lt_zero _)
            | succ nF ih13 =>
              intro i g hm hi2 hg H locs hK hP hD hS ls hl
              refine lv_iload hx hb dX0_tellHits_13 (lv_at hl 4 rfl) ?_
              refine lv_bipush (v := 36) hx hb dX0_tellHits_15 (by decide) ?_
              refine lv_icmp_ge (tgt := 135) hx hb dX0_tellHits_17 (by decide) (fun c_135 => ?_) (fun c_135 => ?_)
              · skip
                have c_135 : 36 ≤ i := (nI_leI (a := 36) (b := i) (by omega) (by omega)).mp c_135
                refine lv_iinc (v := 8) (lv' := [(4, .int 8), (0, .ref ch), (1, .ref sc), (2, .long mk), (5, .int (nI i))]) hx hb dX0_tellHits_135 hl (k := 3) rfl (by decide) (by decide) rfl (fun ls hl => ?_)
                refine lv_goto (tgt := 3) hx hb dX0_tellHits_138 (by decide) ?_
                exact ih3 (8) _ _ _ _ _ _ _ _ (by omega) (by omega) (fun _ => a0 (by omega)) (fun _ => a1 (by omega)) (fun _ => a2 (by omega)) (fun _ => a3 (by omega)) (fun _ => a4 (by omega)) (fun _ => a5 (by omega)) (fun _ => a6 (by omega)) (fun _ x hx => hg x (by omega)) _ _ (hK.sub [0, 1, 2, 3, 4, 5, 6, 7, 8, 9] rfl) (hP.sub [0, 1, 2, 3, 4, 5, 6, 7, 8, 9, 10, 11] rfl) (hD.sub [0, 1, 2, 3, 4, 5, 6, 7, 8, 9, 10, 11] (by decide) rfl) hS ls (lv_sub hl [1, 2, 3, 0] rfl)
              · skip
                have c_135 : ¬ 36 ≤ i := fun q => c_135 ((nI_leI (a := 36) (b := i) (by omega) (by omega)).mpr q)
                refine lv_aload_n hx hb dX0_tellHits_20 rfl (lv_at hl 0 rfl) ?_
                refine va_get (D := (dC, dI)) (ci := 2) (v := .ref hO) (C := RX0) (T := TX0) (N := 5) hx hb hts kc_tellHits_0 hown hK hP 0 rfl rfl 4 (by decide) (hts (.fieldLink RX0 22 "MistHeaps$Chances" "hits" "[[I") kc_tellHits_1) (fun _ h9 => h9) rfl dX0_tellHits_21 ?_
                refine lv_iload hx hb dX0_tellHits_24 (lv_at hl 3 rfl) ?_
                refine va_alda hx hb hK hP 3 1 rfl rfl (vp_in_nI (n := 7) (N := 8) (by omega) (by omega)) dX0_tellHits_26 ?_
                refine qq_as (v := .ref (rh 7)) (rfl) ?_
                refine lv_iload hx hb dX0_tellHits_27 (lv_at hl 4 rfl) ?_
                refine lv_aload_n hx hb dX0_tellHits_29 rfl (lv_at hl 1 rfl) ?_
                refine va_get (D := (dC, dI)) (ci := 10) (v := .long 0) (C := RX8) (T := TX8) (N := 14) hx hb hts kc_tellHits_2 hown hK hP 1 rfl rfl 4 (by decide) (hts (.fieldLink RX0 52 "MistHeaps$Scene" "edges" "J") kc_tellHits_3) (fun _ h9 => h9) rfl dX0_tellHits_30 ?_
                refine lv_iload hx hb dX0_tellHits_33 (lv_at hl 4 rfl) ?_
                refine vp_callSi (va_runSN (As := [.long 0, .int (nI i)]) (rest := [.int (nI i), .ref (rh 7)]) ⟨hx, hb, hml, hown, hts⟩ (c_isIn l dC dI 0 i) ⟨va_cnB 2 hts ggX0_tellHits_X11_isIn rfl rfl rfl (hG.1 (.methodLinkNest RX0 44 yX11_isIn "MistHeaps") (by decide +kernel)) (hts (.initialized RX11) kc_tellHits_4) (by decide +kernel) ⟨Nat.le_of_ble_eq_true rfl, Nat.le_of_ble_eq_true rfl⟩, (hts (.static yX11_isIn) kc_tellHits_5), trivial⟩ ⟨fun a U g mk q => ⟨q.1, trivial⟩, fun U hU hW => ⟨rfl, trivial⟩⟩ rfl rfl hl.1 rfl (lv_room (Nat.le_of_ble_eq_true rfl)) dX0_tellHits_35 ⟨Nat.le_of_ble_eq_true rfl, Nat.le_of_ble_eq_true rfl⟩).run (fun r_136 hw_137 => ?_)
                refine qi_as (y := 0) (hw_137.trans (hz_e0 i (by omega))) ?_
                refine lv_if_eq (tgt := 53) hx hb dX0_tellHits_38 (by decide) (fun _ => ?_) (fun c_138 => absurd c_138 (by decide))
                refine lv_bipush (v := 20) hx hb dX0_tellHits_53 (by decide) ?_
                refine lv_iconst (v := 2) hx hb dX0_tellHits_55 (by decide) ?_
                refine lv_aload_n hx hb dX0_tellHits_56 rfl (lv_at hl 0 rfl) ?_
                refine va_get (D := (dC, dI)) (ci := 2) (v := .ref dr) (C := RX0) (T := TX0) (N := 5) hx hb hts kc_tellHits_0 hown hK hP 0 rfl rfl 2 (by decide) (hts (.fieldLink RX0 9 "MistHeaps$Chances" "drifts" "[I") kc_tellHits_6) (fun _ h9 => h9) rfl dX0_tellHits_57 ?_
                refine lv_iload hx hb dX0_tellHits_60 (lv_at hl 4 rfl) ?_
                refine va_iald hx hb hK hP 2 0 rfl rfl (vp_in_nI (n := i) (N := 36) (by omega) (by omega)) dX0_tellHits_62 ?_
                refine qi_as (y := 0) ((show fD (nI i).toNatClampNeg = fD i from by rw [nI_clamp (by omega)]).trans (zD i (by omega))) ?_
                refine lv_imul hx hb dX0_tellHits_63 ?_
                refine qi_as (y := 0) (by decide) ?_
                refine lv_isub hx hb dX0_tellHits_64 ?_
                refine qi_as (y := 20) (by decide) ?_
                refine lv_lload_n hx hb dX0_tellHits_65 rfl (lv_at hl 2 rfl) ?_
                refine lv_iload hx hb dX0_tellHits_66 (lv_at hl 4 rfl) ?_
                refine lv_iload hx hb dX0_tellHits_68 (lv_at hl 3 rfl) ?_
                refine vp_callSi (va_runSN (As := [.int (nI i), .int 7]) (rest := [.long mk, .int 20, .int (nI i), .ref (rh 7)]) ⟨hx, hb, hml, hown, hts⟩ (c_beside l dC dI gd i (7) (by omega) (by omega)) ⟨va_cnB 2 hts ggX0_tellHits_X11_besideOrSame rfl rfl rfl (hG.1 (.methodLinkNest RX0 56 yX11_besideOrSame "MistHeaps") (by decide +kernel)) (hts (.initialized RX11) kc_tellHits_4) (by decide +kernel) ⟨Nat.le_of_ble_eq_true rfl, Nat.le_of_ble_eq_true rfl⟩, (hts (.static yX11_besideOrSame) kc_tellHits_7), trivial⟩ ⟨fun a U g mk q => by obtain ⟨q0, qhG⟩ := q; exact ⟨q0, qhG.same rfl rfl⟩, fun U hU hW => ⟨rfl, hG.callF hS hU hW⟩⟩ rfl rfl hl.1 rfl (lv_room (Nat.le_of_ble_eq_true rfl)) dX0_tellHits_70 ⟨Nat.le_of_ble_eq_true rfl, Nat.le_of_ble_eq_true rfl⟩).run (fun r_139 hw_140 => ?_)
                refine qi_as (y := nI (nb i 7)) (hw_140) ?_
                have hn_141 : nb i 7 < 36 := nb_lt (by omega) (by omega)
                refine vp_callSi (va_runS (As := [.long mk, .int (nI (nb i 7))]) (rest := [.int 20, .int (nI i), .ref (rh 7)]) ⟨hx, hb, hml, hown, hts⟩ (c_hit l dC dI gd mk (nb i 7)) (va_cwS 2 hts gX0_tellHits_X0_hit rfl rfl rfl (by decide +kernel) ⟨Nat.le_of_ble_eq_true rfl, Nat.le_of_ble_eq_true rfl⟩) ⟨fun a U g mk q => by obtain ⟨q0, qhG⟩ := q; exact ⟨q0, qhG.same rfl rfl⟩, fun U hU hW => ⟨rfl, hG.callF hS hU hW⟩⟩ rfl rfl hl.1 rfl (lv_room (Nat.le_of_ble_eq_true rfl)) dX0_tellHits_73 ⟨Nat.le_of_ble_eq_true rfl, Nat.le_of_ble_eq_true rfl⟩).run (fun r_142 hw_143 => ?_)
                refine qi_as (y := hz mk (nb i 7)) (hw_143) ?_
                refine lv_imul hx hb dX0_tellHits_76 ?_
                refine lv_aload_n hx hb dX0_tellHits_77 rfl (lv_at hl 0 rfl) ?_
                refine va_get (D := (dC, dI)) (ci := 2) (v := .ref dr) (C := RX0) (T := TX0) (N := 5) hx hb hts kc_tellHits_0 hown hK hP 0 rfl rfl 2 (by decide) (hts (.fieldLink RX0 9 "MistHeaps$Chances" "drifts" "[I") kc_tellHits_6) (fun _ h9 => h9) rfl dX0_tellHits_78 ?_
                refine lv_iload hx hb dX0_tellHits_81 (lv_at hl 4 rfl) ?_
                refine va_iald hx hb hK hP 2 0 rfl rfl (vp_in_nI (n := i) (N := 36) (by omega) (by omega)) dX0_tellHits_83 ?_
                refine qi_as (y := 0) ((show fD (nI i).toNatClampNeg = fD i from by rw [nI_clamp (by omega)]).trans (zD i (by omega))) ?_
                refine lv_lload_n hx hb dX0_tellHits_84 rfl (lv_at hl 2 rfl) ?_
                refine lv_iload hx hb dX0_tellHits_85 (lv_at hl 4 rfl) ?_
                refine lv_iload hx hb dX0_tellHits_87 (lv_at hl 3 rfl) ?_
                refine lv_bipush (v := 7) hx hb dX0_tellHits_89 (by decide) ?_
                refine lv_iadd hx hb dX0_tellHits_91 ?_
                refine qi_as (y := 14) (by decide) ?_
                refine lv_bipush (v := 7) hx hb dX0_tellHits_92 (by decide) ?_
                refine lv_iand hx hb dX0_tellHits_94 ?_
                refine qi_as (y := 6) (by decide) ?_
                refine vp_callSi (va_runSN (As := [.int (nI i), .int 6]) (rest := [.long mk, .int 0, .int (20 * (hz mk (nb i 7))), .int (nI i), .ref (rh 7)]) ⟨hx, hb, hml, hown, hts⟩ (c_beside l dC dI gd i (6) (by omega) (by omega)) ⟨va_cnB 2 hts ggX0_tellHits_X11_besideOrSame rfl rfl rfl (hG.1 (.methodLinkNest RX0 56 yX11_besideOrSame "MistHeaps") (by decide +kernel)) (hts (.initialized RX11) kc_tellHits_4) (by decide +kernel) ⟨Nat.le_of_ble_eq_true rfl, Nat.le_of_ble_eq_true rfl⟩, (hts (.static yX11_besideOrSame) kc_tellHits_7), trivial⟩ ⟨fun a U g mk q => by obtain ⟨q0, qhG⟩ := q; exact ⟨q0, qhG.same rfl rfl⟩, fun U hU hW => ⟨rfl, hG.callF hS hU hW⟩⟩ rfl rfl hl.1 rfl (lv_room (Nat.le_of_ble_eq_true rfl)) dX0_tellHits_95 ⟨Nat.le_of_ble_eq_true rfl, Nat.le_of_ble_eq_true rfl⟩).run (fun r_144 hw_145 => ?_)
                refine qi_as (y := nI (nb i 6)) (hw_145) ?_
                have hn_146 : nb i 6 < 36 := nb_lt (by omega) (by omega)
                refine vp_callSi (va_runS (As := [.long mk, .int (nI (nb i 6))]) (rest := [.int 0, .int (20 * (hz mk (nb i 7))), .int (nI i), .ref (rh 7)]) ⟨hx, hb, hml, hown, hts⟩ (c_hit l dC dI gd mk (nb i 6)) (va_cwS 2 hts gX0_tellHits_X0_hit rfl rfl rfl (by decide +kernel) ⟨Nat.le_of_ble_eq_true rfl, Nat.le_of_ble_eq_true rfl⟩) ⟨fun a U g mk q => by obtain ⟨q0, qhG⟩ := q; exact ⟨q0, qhG.same rfl rfl⟩, fun U hU hW => ⟨rfl, hG.callF hS hU hW⟩⟩ rfl rfl hl.1 rfl (lv_room (Nat.le_of_ble_eq_true rfl)) dX0_tellHits_98 ⟨Nat.le_of_ble_eq_true rfl, Nat.le_of_ble_eq_true rfl⟩).run (fun r_147 hw_148 => ?_)
                refine qi_as (y := hz mk (nb i 6)) (hw_148) ?_
                refine lv_imul hx hb dX0_tellHits_101 ?_
                refine qi_as (y := 0) (Int32.zero_mul) ?_
                refine lv_iadd hx hb dX0_tellHits_102 ?_
                refine qi_as (y := 20 * hz mk (nb i 7)) (Int32.add_zero _) ?_
                refine lv_aload_n hx hb dX0_tellHits_103 rfl (lv_at hl 0 rfl) ?_
                refine va_get (D := (dC, dI)) (ci := 2) (v := .ref dr) (C := RX0) (T := TX0) (N := 5) hx hb hts kc_tellHits_0 hown hK hP 0 rfl rfl 2 (by decide) (hts (.fieldLink RX0 9 "MistHeaps$Chances" "drifts" "[I") kc_tellHits_6) (fun _ h9 => h9) rfl dX0_tellHits_104 ?_
                refine lv_iload hx hb dX0_tellHits_107 (lv_at hl 4 rfl) ?_
                refine va_iald hx hb hK hP 2 0 rfl rfl (vp_in_nI (n := i) (N := 36) (by omega) (by omega)) dX0_tellHits_109 ?_
                refine qi_as (y := 0) ((show fD (nI i).toNatClampNeg = fD i from by rw [nI_clamp (by omega)]).trans (zD i (by omega))) ?_
                refine lv_lload_n hx hb dX0_tellHits_110 rfl (lv_at hl 2 rfl) ?_
                refine lv_iload hx hb dX0_tellHits_111 (lv_at hl 4 rfl) ?_
                refine lv_iload hx hb dX0_tellHits_113 (lv_at hl 3 rfl) ?_
                refine lv_iconst (v := 1) hx hb dX0_tellHits_115 (by decide) ?_
                refine lv_iadd hx hb dX0_tellHits_116 ?_
                refine qi_as (y := 8) (by decide) ?_
                refine lv_bipush (v := 7) hx hb dX0_tellHits_117 (by decide) ?_
                refine lv_iand hx hb dX0_tellHits_119 ?_
                refine qi_as (y := 0) (by decide) ?_
                refine vp_callSi (va_runSN (As := [.int (nI i), .int 0]) (rest := [.long mk, .int 0, .int (20 * hz mk (nb i 7)), .int (nI i), .ref (rh 7)]) ⟨hx, hb, hml, hown, hts⟩ (c_beside l dC dI gd i (0) (by omega) (by omega)) ⟨va_cnB 2 hts ggX0_tellHits_X11_besideOrSame rfl rfl rfl (hG.1 (.methodLinkNest RX0 56 yX11_besideOrSame "MistHeaps") (by decide +kernel)) (hts (.initialized RX11) kc_tellHits_4) (by decide +kernel) ⟨Nat.le_of_ble_eq_true rfl, Nat.le_of_ble_eq_true rfl⟩, (hts (.static yX11_besideOrSame) kc_tellHits_7), trivial⟩ ⟨fun a U g mk q => by obtain ⟨q0, qhG⟩ := q; exact ⟨q0, qhG.same rfl rfl⟩, fun U hU hW => ⟨rfl, hG.callF hS hU hW⟩⟩ rfl rfl hl.1 rfl (lv_room (Nat.le_of_ble_eq_true rfl)) dX0_tellHits_120 ⟨Nat.le_of_ble_eq_true rfl, Nat.le_of_ble_eq_true rfl⟩).run (fun r_149 hw_150 => ?_)
                refine qi_as (y := nI (nb i 0)) (hw_150) ?_
                have hn_151 : nb i 0 < 36 := nb_lt (by omega) (by omega)
                refine vp_callSi (va_runS (As := [.long mk, .int (nI (nb i 0))]) (rest := [.int 0, .int (20 * hz mk (nb i 7)), .int (nI i), .ref (rh 7)]) ⟨hx, hb, hml, hown, hts⟩ (c_hit l dC dI gd mk (nb i 0)) (va_cwS 2 hts gX0_tellHits_X0_hit rfl rfl rfl (by decide +kernel) ⟨Nat.le_of_ble_eq_true rfl, Nat.le_of_ble_eq_true rfl⟩) ⟨fun a U g mk q => by obtain ⟨q0, qhG⟩ := q; exact ⟨q0, qhG.same rfl rfl⟩, fun U hU hW => ⟨rfl, hG.callF hS hU hW⟩⟩ rfl rfl hl.1 rfl (lv_room (Nat.le_of_ble_eq_true rfl)) dX0_tellHits_123 ⟨Nat.le_of_ble_eq_true rfl, Nat.le_of_ble_eq_true rfl⟩).run (fun r_152 hw_153 => ?_)
                refine qi_as (y := hz mk (nb i 0)) (hw_153) ?_
                refine lv_imul hx hb dX0_tellHits_126 ?_
                refine qi_as (y := 0) (Int32.zero_mul) ?_
                refine lv_iadd hx hb dX0_tellHits_127 ?_
                refine qi_as (y := 20 * hz mk (nb i 7)) (Int32.add_zero _) ?_
                refine va_iast hx hb hK hP hD hS 11 9 rfl rfl (vp_in_nI (n := i) (N := 36) (by omega) (by omega)) dX0_tellHits_128 (fun H locs hP hD hS => ?_)
                rw [nI_clamp (n := i) (by omega)] at hP hD
                have hP : va_P (dC, dI) vwCl [(ch, .inr (2, [.long ft, .int fr, .ref dr, .ref tO, .ref hO])), (sc, .inr (10, [.ref aTp, .int 0, .ref aHl, .int 0, .long 0, .int 0, .int 0, .ref aHs, .int 0, .ref aWk, .int 0, .ref aBk, .int 0, .ref aFc])), (dr, .inl (cD, 36, .inl fD)), (hO, .inl (cHO, 8, .inr (.inr (.inr (.inr (fun i => if i < 8 then some (rh i) else none)))))), ((rh 0), .inl (cH, 36, .inl b0)), ((rh 1), .inl (cH, 36, .inl b1)), ((rh 2), .inl (cH, 36, .inl b2)), ((rh 3), .inl (cH, 36, .inl b3)), ((rh 4), .inl (cH, 36, .inl b4)), ((rh 5), .inl (cH, 36, .inl b5)), ((rh 6), .inl (cH, 36, .inl b6)), ((rh 7), .inl (cH, 36, .inl (upd g i (20 * hz mk (nb i 7)))))] H := hP
                have hD : va_D A [(ch, .inr (2, [.long ft, .int fr, .ref dr, .ref tO, .ref hO])), (sc, .inr (10, [.ref aTp, .int 0, .ref aHl, .int 0, .long 0, .int 0, .int 0, .ref aHs, .int 0, .ref aWk, .int 0, .ref aBk, .int 0, .ref aFc])), (dr, .inl (cD, 36, .inl fD)), (hO, .inl (cHO, 8, .inr (.inr (.inr (.inr (fun i => if i < 8 then some (rh i) else none)))))), ((rh 0), .inl (cH, 36, .inl b0)), ((rh 1), .inl (cH, 36, .inl b1)), ((rh 2), .inl (cH, 36, .inl b2)), ((rh 3), .inl (cH, 36, .inl b3)), ((rh 4), .inl (cH, 36, .inl b4)), ((rh 5), .inl (cH, 36, .inl b5)), ((rh 6), .inl (cH, 36, .inl b6)), ((rh 7), .inl (cH, 36, .inl (upd g i (20 * hz mk (nb i 7)))))] := hD
                refine lv_iinc (v := nI (i + 1)) (lv' := [(5, .int (nI (i + 1))), (0, .ref ch), (1, .ref sc), (2, .long mk), (4, .int 7)]) hx hb dX0_tellHits_129 hl (k := 4) rfl (nI_add i 1) (by decide) rfl (fun ls hl => ?_)
                refine lv_goto (tgt := 13) hx hb dX0_tellHits_132 (by decide) ?_
                exact ih13 _ _ (by omega) (by omega) (upd_fill (v := hv mk 7) hg rfl) _ _ (hK.sub [0, 1, 2, 3, 4, 5, 6, 7, 8, 9] rfl) (hP.sub [0, 1, 2, 3, 4, 5, 6, 7, 8, 9, 10, 11] rfl) (hD.sub [0, 1, 2, 3, 4, 5, 6, 7, 8, 9, 10, 11] (by decide) rfl) hS ls (lv_sub hl [1, 2, 3, 4, 0] rfl)
          exact L13 _ (0) _ (Nat.lt_succ_self _) (by omega) (fun x h => absurd h (Nat.not_lt_zero x)) _ _ (hK.sub [0, 1, 2, 3, 4, 5, 6, 7, 8, 9] rfl) (hP.sub [0, 1, 2, 3, 4, 5, 6, 7, 8, 9, 10, 11] rfl) (hD.sub [0, 1, 2, 3, 4, 5, 6, 7, 8, 9, 10, 11] (by decide) rfl) hS ls (lv_sub hl [1, 2, 3, 4, 0] rfl)
  exact L3 _ (0) _ _ _ _ _ _ _ _ (Nat.lt_succ_self _) (by omega) (fun q => absurd q (by omega)) (fun q => absurd q (by omega)) (fun q => absurd q (by omega)) (fun q => absurd q (by omega)) (fun q => absurd q (by omega)) (fun q => absurd q (by omega)) (fun q => absurd q (by omega)) (fun q => absurd q (by omega)) _ _ (hK.sub [0, 1, 2, 3, 4, 5, 6, 7, 8, 9] rfl) (hP.sub [0, 1, 2, 3, 4, 5, 6, 7, 8, 9, 10, 11] rfl) (hD.sub [0, 1, 2, 3, 4, 5, 6, 7, 8, 9, 10, 11] (by decide) rfl) hS ls (lv_sub hl [1, 2, 3, 0] rfl)
