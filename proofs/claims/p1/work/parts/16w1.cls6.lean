theorem dX0_walked_0 : decode cX0_walked 0 = .ok (.aload_n 0, 1) := by decide +kernel
theorem dX0_walked_1 : decode cX0_walked 1 = .ok (.aload_n 1, 1) := by decide +kernel
theorem dX0_walked_2 : decode cX0_walked 2 = .ok (.iload_n 2, 1) := by decide +kernel
set_option maxRecDepth 20000 in
theorem ggX0_walked_X0_begin : GoodIn wsX0_walked wsX0_begin := goodIn_r _ [8, 9, 2, 10, 11, 12, 13, 14, 15, 16, 17, 18, 19, 20, 21, 22, 23, 24, 25, 26, 27, 28, 29, 30, 31, 32, 33, 34, 35, 36, 37, 38, 39, 40, 41, 42, 43, 44, 45, 46, 47, 48, 80, 81, 82, 83, 84, 66, 67, 68, 69, 70, 71, 72, 73, 74, 75, 76, 77, 78, 79, 85, 86, 87, 88, 89, 90, 91, 92, 93, 94, 95] (by decide +kernel) (by decide +kernel)
set_option maxRecDepth 20000 in
theorem gX0_walked_X0_begin : GoodIn wsX0_walked (wsV RX0 27 RX0 yX0_begin wsX0_begin) := goodIn_app (goodIn_of _ (by decide +kernel)) ggX0_walked_X0_begin
theorem dX0_walked_3 : decode cX0_walked 3 = .ok (.invokevirtual 27, 3) := by decide +kernel
theorem dX0_walked_6 : decode cX0_walked 6 = .ok (.iconst 0, 1) := by decide +kernel
theorem dX0_walked_7 : decode cX0_walked 7 = .ok (.istore 5, 2) := by decide +kernel
theorem dX0_walked_9 : decode cX0_walked 9 = .ok (.iload 5, 2) := by decide +kernel
theorem dX0_walked_11 : decode cX0_walked 11 = .ok (.aload_n 1, 1) := by decide +kernel
theorem dX0_walked_12 : decode cX0_walked 12 = .ok (.getfield 31, 3) := by decide +kernel
theorem dX0_walked_15 : decode cX0_walked 15 = .ok (.if_icmp .ge 41, 3) := by decide +kernel
theorem dX0_walked_56 : decode cX0_walked 56 = .ok (.aload_n 0, 1) := by decide +kernel
theorem dX0_walked_57 : decode cX0_walked 57 = .ok (.getfield 17, 3) := by decide +kernel
theorem dX0_walked_60 : decode cX0_walked 60 = .ok (.aload_n 1, 1) := by decide +kernel
theorem dX0_walked_61 : decode cX0_walked 61 = .ok (.getfield 31, 3) := by decide +kernel
theorem dX0_walked_64 : decode cX0_walked 64 = .ok (.iconst 1, 1) := by decide +kernel
theorem dX0_walked_65 : decode cX0_walked 65 = .ok (.iand, 1) := by decide +kernel
theorem dX0_walked_66 : decode cX0_walked 66 = .ok (.aaload, 1) := by decide +kernel
theorem dX0_walked_67 : decode cX0_walked 67 = .ok (.astore 5, 2) := by decide +kernel
theorem dX0_walked_69 : decode cX0_walked 69 = .ok (.lconst 0, 1) := by decide +kernel
theorem dX0_walked_70 : decode cX0_walked 70 = .ok (.lstore 6, 2) := by decide +kernel
theorem dX0_walked_72 : decode cX0_walked 72 = .ok (.iconst 0, 1) := by decide +kernel
theorem dX0_walked_73 : decode cX0_walked 73 = .ok (.istore 8, 2) := by decide +kernel
theorem dX0_walked_75 : decode cX0_walked 75 = .ok (.iload 8, 2) := by decide +kernel
theorem dX0_walked_77 : decode cX0_walked 77 = .ok (.bipush 36, 2) := by decide +kernel
theorem dX0_walked_79 : decode cX0_walked 79 = .ok (.if_icmp .ge 28, 3) := by decide +kernel
theorem dX0_walked_107 : decode cX0_walked 107 = .ok (.lload 6, 2) := by decide +kernel
theorem dX0_walked_109 : decode cX0_walked 109 = .ok (.lreturn, 1) := by decide +kernel
theorem dX0_walked_82 : decode cX0_walked 82 = .ok (.lload_n 3, 1) := by decide +kernel
theorem dX0_walked_83 : decode cX0_walked 83 = .ok (.iload 8, 2) := by decide +kernel
set_option maxRecDepth 20000 in
theorem ggX0_walked_X11_isIn : GoodIn wsX0_walked wsX11_isIn := goodIn_r _ [56] (by decide +kernel) (by decide +kernel)
theorem dX0_walked_85 : decode cX0_walked 85 = .ok (.invokestatic 44, 3) := by decide +kernel
theorem dX0_walked_88 : decode cX0_walked 88 = .ok (.ifCond .eq 13, 3) := by decide +kernel
theorem dX0_walked_101 : decode cX0_walked 101 = .ok (.iinc 8 1, 3) := by decide +kernel
theorem dX0_walked_104 : decode cX0_walked 104 = .ok (.goto (-29), 3) := by decide +kernel
theorem dX0_walked_91 : decode cX0_walked 91 = .ok (.lload 6, 2) := by decide +kernel
theorem dX0_walked_93 : decode cX0_walked 93 = .ok (.aload 5, 2) := by decide +kernel
theorem dX0_walked_95 : decode cX0_walked 95 = .ok (.iload 8, 2) := by decide +kernel
theorem dX0_walked_97 : decode cX0_walked 97 = .ok (.laload, 1) := by decide +kernel
theorem dX0_walked_98 : decode cX0_walked 98 = .ok (.ladd, 1) := by decide +kernel
theorem dX0_walked_99 : decode cX0_walked 99 = .ok (.lstore 6, 2) := by decide +kernel
theorem dX11_odds_0 : decode cX11_odds 0 = .ok (.iload_n 1, 1) := by decide +kernel
set_option maxRecDepth 20000 in
theorem ggX11_odds_X11_isCell : GoodIn wsX11_odds wsX11_isCell := goodIn_r _ [11] (by decide +kernel) (by decide +kernel)
set_option maxRecDepth 20000 in
theorem gX11_odds_X11_isCell : GoodIn wsX11_odds (va_wsS RX11 94 yX11_isCell wsX11_isCell) := goodIn_app (goodIn_of _ (by decide +kernel)) ggX11_odds_X11_isCell
theorem dX11_odds_1 : decode cX11_odds 1 = .ok (.invokestatic 94, 3) := by decide +kernel
theorem dX11_odds_4 : decode cX11_odds 4 = .ok (.ifCond .eq 12, 3) := by decide +kernel
theorem dX11_odds_7 : decode cX11_odds 7 = .ok (.iload_n 3, 1) := by decide +kernel
theorem dX11_odds_8 : decode cX11_odds 8 = .ok (.ifCond .lt 8, 3) := by decide +kernel
theorem dX11_odds_16 : decode cX11_odds 16 = .ok (.ldc2_w 139, 3) := by decide +kernel
theorem dX11_odds_19 : decode cX11_odds 19 = .ok (.lreturn, 1) := by decide +kernel
theorem dX11_odds_11 : decode cX11_odds 11 = .ok (.iload_n 3, 1) := by decide +kernel
theorem dX11_odds_12 : decode cX11_odds 12 = .ok (.iconst 1, 1) := by decide +kernel
theorem dX11_odds_13 : decode cX11_odds 13 = .ok (.if_icmp .le 7, 3) := by decide +kernel
theorem dX11_odds_20 : decode cX11_odds 20 = .ok (.iload_n 2, 1) := by decide +kernel
theorem dX11_odds_21 : decode cX11_odds 21 = .ok (.invokestatic 94, 3) := by decide +kernel
theorem dX11_odds_24 : decode cX11_odds 24 = .ok (.ifCond .eq 11, 3) := by decide +kernel
theorem dX11_odds_27 : decode cX11_odds 27 = .ok (.lconst 1, 1) := by decide +kernel
theorem dX11_odds_28 : decode cX11_odds 28 = .ok (.iload_n 2, 1) := by decide +kernel
theorem dX11_odds_29 : decode cX11_odds 29 = .ok (.lshl, 1) := by decide +kernel
theorem dX11_odds_30 : decode cX11_odds 30 = .ok (.lstore 4, 2) := by decide +kernel
theorem dX11_odds_32 : decode cX11_odds 32 = .ok (.goto 73, 3) := by decide +kernel
theorem dX11_odds_105 : decode cX11_odds 105 = .ok (.aload_n 0, 1) := by decide +kernel
theorem dX11_odds_106 : decode cX11_odds 106 = .ok (.getfield 42, 3) := by decide +kernel
theorem dX11_odds_109 : decode cX11_odds 109 = .ok (.aload_n 0, 1) := by decide +kernel
theorem dX11_odds_110 : decode cX11_odds 110 = .ok (.getfield 14, 3) := by decide +kernel
theorem dX11_odds_113 : decode cX11_odds 113 = .ok (.iload_n 1, 1) := by decide +kernel
theorem dX11_odds_114 : decode cX11_odds 114 = .ok (.lload 4, 2) := by decide +kernel
set_option maxRecDepth 20000 in
theorem ggX11_odds_X0_walked : GoodIn wsX11_odds wsX0_walked := goodIn_r _ [116, 117, 118, 119, 120, 121, 122, 115, 123, 124, 125, 126, 127, 15, 128, 17, 31, 33, 129, 92, 68, 93, 35, 36, 37, 38, 34, 39, 10, 40, 41, 42, 43, 44, 45, 46, 47, 48, 49, 50, 51, 52, 53, 54, 55, 56, 57, 58, 59, 130, 131, 132, 133, 134, 135, 136, 137, 138, 139, 140, 141, 110, 111, 142, 143, 144, 161, 162, 163, 164, 165, 166, 167, 168, 169, 170, 171, 172, 173, 174, 214, 215, 216, 217, 218, 203, 204, 205, 206, 207, 208, 209, 210, 211, 212, 213] (by decide +kernel) (by decide +kernel)
set_option maxRecDepth 20000 in
theorem gX11_odds_X0_walked : GoodIn wsX11_odds (wsV RX11 181 RX0 yX0_walked wsX0_walked) := goodIn_app (goodIn_of _ (by decide +kernel)) ggX11_odds_X0_walked
theorem dX11_odds_116 : decode cX11_odds 116 = .ok (.invokevirtual 181, 3) := by decide +kernel
theorem dX11_odds_119 : decode cX11_odds 119 = .ok (.lstore 6, 2) := by decide +kernel
theorem dX11_odds_121 : decode cX11_odds 121 = .ok (.lload 6, 2) := by decide +kernel
theorem dX11_odds_123 : decode cX11_odds 123 = .ok (.aload_n 0, 1) := by decide +kernel
theorem dX11_odds_124 : decode cX11_odds 124 = .ok (.getfield 14, 3) := by decide +kernel
theorem dX11_odds_127 : decode cX11_odds 127 = .ok (.getfield 169, 3) := by decide +kernel
set_option maxRecDepth 20000 in
theorem ggX11_odds_X0_timesOf : GoodIn wsX11_odds wsX0_timesOf := goodIn_r _ [147, 135] (by decide +kernel) (by decide +kernel)
set_option maxRecDepth 20000 in
theorem gX11_odds_X0_timesOf : GoodIn wsX11_odds (va_wsS RX11 185 yX0_timesOf wsX0_timesOf) := goodIn_app (goodIn_of _ (by decide +kernel)) ggX11_odds_X0_timesOf
theorem dX11_odds_130 : decode cX11_odds 130 = .ok (.invokestatic 185, 3) := by decide +kernel
theorem dX11_odds_133 : decode cX11_odds 133 = .ok (.iload_n 3, 1) := by decide +kernel
set_option maxRecDepth 20000 in
theorem ggX11_odds_X11_partOf : GoodIn wsX11_odds wsX11_partOf := goodIn_r _ [150, 1, 151, 152, 10, 153] (by decide +kernel) (by decide +kernel)
set_option maxRecDepth 20000 in
theorem gX11_odds_X11_partOf : GoodIn wsX11_odds (va_wsS RX11 188 yX11_partOf wsX11_partOf) := goodIn_app (goodIn_of _ (by decide +kernel)) ggX11_odds_X11_partOf
theorem dX11_odds_134 : decode cX11_odds 134 = .ok (.invokestatic 188, 3) := by decide +kernel
theorem dX11_odds_137 : decode cX11_odds 137 = .ok (.lreturn, 1) := by decide +kernel
theorem dX11_odds_35 : decode cX11_odds 35 = .ok (.iload_n 2, 1) := by decide +kernel
theorem dX11_odds_36 : decode cX11_odds 36 = .ok (.bipush 40, 2) := by decide +kernel
theorem dX11_odds_38 : decode cX11_odds 38 = .ok (.if_icmp .ne 15, 3) := by decide +kernel
theorem dX11_odds_53 : decode cX11_odds 53 = .ok (.iload_n 2, 1) := by decide +kernel
theorem dX11_odds_54 : decode cX11_odds 54 = .ok (.bipush 50, 2) := by decide +kernel
theorem dX11_odds_56 : decode cX11_odds 56 = .ok (.if_icmp .lt 45, 3) := by decide +kernel
theorem dX11_odds_101 : decode cX11_odds 101 = .ok (.ldc2_w 139, 3) := by decide +kernel
theorem dX11_odds_104 : decode cX11_odds 104 = .ok (.lreturn, 1) := by decide +kernel
theorem dX11_odds_59 : decode cX11_odds 59 = .ok (.iload_n 2, 1) := by decide +kernel
theorem dX11_odds_60 : decode cX11_odds 60 = .ok (.bipush 50, 2) := by decide +kernel
theorem dX11_odds_62 : decode cX11_odds 62 = .ok (.isub, 1) := by decide +kernel
theorem dX11_odds_63 : decode cX11_odds 63 = .ok (.aload_n 0, 1) := by decide +kernel
theorem dX11_odds_64 : decode cX11_odds 64 = .ok (.getfield 14, 3) := by decide +kernel
theorem dX11_odds_67 : decode cX11_odds 67 = .ok (.getfield 101, 3) := by decide +kernel
theorem dX11_odds_70 : decode cX11_odds 70 = .ok (.if_icmp .ge 31, 3) := by decide +kernel
theorem dX11_odds_41 : decode cX11_odds 41 = .ok (.aload_n 0, 1) := by decide +kernel
theorem dX11_odds_42 : decode cX11_odds 42 = .ok (.getfield 14, 3) := by decide +kernel
theorem dX11_odds_45 : decode cX11_odds 45 = .ok (.getfield 73, 3) := by decide +kernel
theorem dX11_odds_48 : decode cX11_odds 48 = .ok (.lstore 4, 2) := by decide +kernel
theorem dX11_odds_50 : decode cX11_odds 50 = .ok (.goto 55, 3) := by decide +kernel
theorem w_skip {i j : Nat} {mk S : Int64} (c : hz mk i = 0) (h : S = if j < i then (if hz mk j = 1 then 1 else 0) else 0) : S = if j < i + 1 then (if hz mk j = 1 then 1 else 0) else 0 := by
  rw [h]
  by_cases q : j < i
  · rw [if_pos q, if_pos (show j < i + 1 by omega)]
  · rw [if_neg q]
    by_cases q2 : i = j
    · rw [if_pos (show j < i + 1 by omega), ← q2, c]; rfl
    · rw [if_neg (show ¬ j < i + 1 by omega)]
theorem w_add {i j : Nat} {mk S : Int64} (c : ¬ hz mk i = 0) (h : S = if j < i then (if hz mk j = 1 then 1 else 0) else 0) : S + ind j 0 i = if j < i + 1 then (if hz mk j = 1 then 1 else 0) else 0 := by
  have c1 : hz mk i = 1 := (hz_01 mk i).resolve_right c
  unfold ind
  by_cases q : j < i
  · rw [if_neg (show ¬ i = j by omega), h, if_pos q, if_pos (show j < i + 1 by omega), Int64.add_zero]
  · by_cases q2 : i = j
    · rw [if_pos q2, h, if_neg q, if_pos (show j < i + 1 by omega), ← q2, c1]; rfl
    · rw [if_neg q2, h, if_neg q, if_neg (show ¬ j < i + 1 by omega)]; rfl
theorem row_ofJ {v : Nat → Int64} {N : Nat} {ft : Int64} {fr : Int32} (hN : 0 < N) (h : GJ v N ft fr) : ∃ gb : Nat, Hid (gb = (GG v N).2) ∧ gb < N ∧ Hid (ft = (GG v N).1) ∧ fr = nI gb := ⟨(GG v N).2, rfl, GG_lt v N hN, h.1, h.2⟩
theorem y50 {y : Int32} (h : ¬ y < 50) : 0 ≤ y - 50 := by
  rw [i_lt] at h
  rw [i_le]
  have e1 : (50 : Int32).toInt = 50 := rfl
  have e0 : (0 : Int32).toInt = 0 := rfl
  have hy : y.toInt < 2 ^ 31 := Int32.toInt_lt y
  have : (y - 50).toInt = y.toInt - 50 := by
    rw [Int32.toInt_sub, e1]
    exact Int.bmod_eq_of_le (by omega) (by omega)
  omega

theorem kc_walked0_0 : ∀ w ∈ wsX80, w ∈ wsX0_walked := by decide +kernel
theorem kc_walked0_1 : (.fieldLink RX0 31 "MistHeaps$Scene" "walkSize" "I" : Cond) ∈ wsX0_walked := by decide +kernel
theorem kc_walked0_2 : ∀ w ∈ wsX00, w ∈ wsX0_walked := by decide +kernel
theorem kc_walked0_3 : (.fieldLink RX0 17 "MistHeaps$Chances" "times" "[[J" : Cond) ∈ wsX0_walked := by decide +kernel
theorem kc_walked0_4 : (.initialized RX11 : Cond) ∈ wsX0_walked := by decide +kernel
theorem kc_walked0_5 : (.static yX11_isIn : Cond) ∈ wsX0_walked := by decide +kernel
set_option maxHeartbeats 4000000 in
set_option maxRecDepth 100000 in
theorem c_walked0 (l : Launch) (dC : Nat → ClassId) (dI : Nat → Nat → Nat) (gd : Nat → Nat) (ch dr tO hO : Nat) (ft : Int64) (fr : Int32) (rt rh : Nat → Nat) (cD cTO cHO cT cH : ClassId) (sc aTp aHl aHs aWk aBk aFc : Nat) (bW bA bE bC : Nat) (cF : ClassId) (fF : Nat → Int32) (fD : Nat → Int32) (f0 : Nat → Int64) (j : Nat) (mk : Int64) (sz : Nat) (zj : j < 36) : Met l yX0_walked wsX0_walked ({ frames := 4, cells := 0, slots := 0, locals := 88 } : Room) (va_Pc [.ref ch, .ref sc, .int (nI j), .long mk] (fun U => U.heap.size = sz ∧ va_P (dC, dI) vwCl [(ch, .inr (2, [.long ft, .int fr, .ref dr, .ref tO, .ref hO])), (sc, .inr (10, [.ref aTp, .int 0, .ref aHl, .int 0, .long 0, .int 0, .int 0, .ref aHs, .int 0, .ref aWk, .int 0, .ref aBk, .int 0, .ref aFc])), (aHl, .inr (7, [.int 3, .int 0, .ref bW, .ref bA, .ref bE, .ref bC, .int 0, .null, .int 0, .int 0, .int 0])), (aFc, .inl (cF, 6, .inl fF)), (dr, .inl (cD, 36, .inl fD)), (tO, .inl (cTO, 3, .inr (.inr (.inr (.inr (fun i => if i < 3 then some (rt i) else none)))))), ((rt 0), .inl (cT, 36, .inr (.inl f0)))] U.heap ∧ va_K (dC, dI) vwCl [(cF, .int), (cD, .int), (cTO, .array .long), (cT, .long)] U ∧ va_D (fun _ => True) [(ch, .inr (2, [.long ft, .int fr, .ref dr, .ref tO, .ref hO])), (sc, .inr (10, [.ref aTp, .int 0, .ref aHl, .int 0, .long 0, .int 0, .int 0, .ref aHs, .int 0, .ref aWk, .int 0, .ref aBk, .int 0, .ref aFc])), (aHl, .inr (7, [.int 3, .int 0, .ref bW, .ref bA, .ref bE, .ref bC, .int 0, .null, .int 0, .int 0, .int 0])), (aFc, .inl (cF, 6, .inl fF)), (dr, .inl (cD, 36, .inl fD)), (tO, .inl (cTO, 3, .inr (.inr (.inr (.inr (fun i => if i < 3 then some (rt i) else none)))))), ((rt 0), .inl (cT, 36, .inr (.inl f0)))] ∧ Gl gd (va_A [(ch, .inr (2, [.long ft, .int fr, .ref dr, .ref tO, .ref hO])), (sc, .inr (10, [.ref aTp, .int 0, .ref aHl, .int 0, .long 0, .int 0, .int 0, .ref aHs, .int 0, .ref aWk, .int 0, .ref aBk, .int 0, .ref aFc])), (aHl, .inr (7, [.int 3, .int 0, .ref bW, .ref bA, .ref bE, .ref bC, .int 0, .null, .int 0, .int 0, .int 0])), (aFc, .inl (cF, 6, .inl fF)), (dr, .inl (cD, 36, .inl fD)), (tO, .inl (cTO, 3, .inr (.inr (.inr (.inr (fun i => if i < 3 then some (rt i) else none)))))), ((rt 0), .inl (cT, 36, .inr (.inl f0)))] sz) U)) (va_Ql (fun (r : Int64) (u : (Nat → Int32) × (Nat → Int32) × (Nat → Int64)) => match u with | (fF2, fD2, f02) => r = if hz mk j = 1 then 1 else 0) (fun (u : (Nat → Int32) × (Nat → Int32) × (Nat → Int64)) (t : State) => match u with | (fF2, fD2, f02) => va_P (dC, dI) vwCl [(ch, .inr (2, [.long ft, .int fr, .ref dr, .ref tO, .ref hO])), (sc, .inr (10, [.ref aTp, .int 0, .ref aHl, .int 0, .long 0, .int 0, .int 0, .ref aHs, .int 0, .ref aWk, .int 0, .ref aBk, .int 0, .ref aFc])), (aHl, .inr (7, [.int 3, .int 0, .ref bW, .ref bA, .ref bE, .ref bC, .int 0, .null, .int 0, .int 0, .int 0])), (aFc, .inl (cF, 6, .inl fF2)), (dr, .inl (cD, 36, .inl fD2)), (tO, .inl (cTO, 3, .inr (.inr (.inr (.inr (fun i => if i < 3 then some (rt i) else none)))))), ((rt 0), .inl (cT, 36, .inr (.inl f02)))] t.heap ∧ va_K (dC, dI) vwCl [(cF, .int), (cD, .int), (cTO, .array .long), (cT, .long)] t ∧ va_D (va_A [(ch, .inr (2, [.long ft, .int fr, .ref dr, .ref tO, .ref hO])), (sc, .inr (10, [.ref aTp, .int 0, .ref aHl, .int 0, .long 0, .int 0, .int 0, .ref aHs, .int 0, .ref aWk, .int 0, .ref aBk, .int 0, .ref aFc])), (aHl, .inr (7, [.int 3, .int 0, .ref bW, .ref bA, .ref bE, .ref bC, .int 0, .null, .int 0, .int 0, .int 0])), (aFc, .inl (cF, 6, .inl fF)), (dr, .inl (cD, 36, .inl fD)), (tO, .inl (cTO, 3, .inr (.inr (.inr (.inr (fun i => if i < 3 then some (rt i) else none)))))), ((rt 0), .inl (cT, 36, .inr (.inl f0)))] sz) [(ch, .inr (2, [.long ft, .int fr, .ref dr, .ref tO, .ref hO])), (sc, .inr (10, [.ref aTp, .int 0, .ref aHl, .int 0, .long 0, .int 0, .int 0, .ref aHs, .int 0, .ref aWk, .int 0, .ref aBk, .int 0, .ref aFc])), (aHl, .inr (7, [.int 3, .int 0, .ref bW, .ref bA, .ref bE, .ref bC, .int 0, .null, .int 0, .int 0, .int 0])), (aFc, .inl (cF, 6, .inl fF2)), (dr, .inl (cD, 36, .inl fD2)), (tO, .inl (cTO, 3, .inr (.inr (.inr (.inr (fun i => if i < 3 then some (rt i) else none)))))), ((rt 0), .inl (cT, 36, .inr (.inl f02)))]) (va_A [(ch, .inr (2, [.long ft, .int fr, .ref dr, .ref tO, .ref hO])), (sc, .inr (10, [.ref aTp, .int 0, .ref aHl, .int 0, .long 0, .int 0, .int 0, .ref aHs, .int 0, .ref aWk, .int 0, .ref aBk, .int 0, .ref aFc])), (aHl, .inr (7, [.int 3, .int 0, .ref bW, .ref bA, .ref bE, .ref bC, .int 0, .null, .int 0, .int 0, .int 0])), (aFc, .inl (cF, 6, .inl fF)), (dr, .inl (cD, 36, .inl fD)), (tO, .inl (cTO, 3, .inr (.inr (.inr (.inr (fun i => if i < 3 then some (rt i) else none)))))), ((rt 0), .inl (cT, 36, .inr (.inl f0)))] sz)) 0 0 (va_A [(ch, .inr (2, [.long ft, .int fr, .ref dr, .ref tO, .ref hO])), (sc, .inr (10, [.ref aTp, .int 0, .ref aHl, .int 0, .long 0, .int 0, .int 0, .ref aHs, .int 0, .ref aWk, .int 0, .ref aBk, .int 0, .ref aFc])), (aHl, .inr (7, [.int 3, .int 0, .ref bW, .ref bA, .ref bE, .ref bC, .int 0, .null, .int 0, .int 0, .int 0])), (aFc, .inl (cF, 6, .inl fF)), (dr, .inl (cD, 36, .inl fD)), (tO, .inl (cTO, 3, .inr (.inr (.inr (.inr (fun i => if i < 3 then some (rt i) else none)))))), ((rt 0), .inl (cT, 36, .inr (.inl f0)))] sz) := by
  refine met_ofQ (cc := cX0_walked) (maxL := 9) (ret := (some .long)) (by decide) rfl ?_
  intro p e s m args below meth c s₁ Q B hml hv hQ
  obtain ⟨rfl, hsz, hP, hK, hD0, hG⟩ := hv
  have hx := B.exec
  have hb := B.bytes
  have hr := B.returns
  have hts := atoms_spec (ws := wsX0_walked) B.pre
  have hown : s.vm.findClass RX0 = some m.cls := findClass_of_methodNamed B.named
  have hlocks := B.notSynchronized
  subst hsz
  have hD := hD0.self (sz := s.heap.size)
  generalize hAe : va_A [(ch, .inr (2, [.long ft, .int fr, .ref dr, .ref tO, .ref hO])), (sc, .inr (10, [.ref aTp, .int 0, .ref aHl, .int 0, .long 0, .int 0, .int 0, .ref aHs, .int 0, .ref aWk, .int 0, .ref aBk, .int 0, .ref aFc])), (aHl, .inr (7, [.int 3, .int 0, .ref bW, .ref bA, .ref bE, .ref bC, .int 0, .null, .int 0, .int 0, .int 0])), (aFc, .inl (cF, 6, .inl fF)), (dr, .inl (cD, 36, .inl fD)), (tO, .inl (cTO, 3, .inr (.inr (.inr (.inr (fun i => if i < 3 then some (rt i) else none)))))), ((rt 0), .inl (cT, 36, .inr (.inl f0)))] s.heap.size = A at hD hQ hG ⊢
  have hA : ∀ q : Nat, s.heap.size ≤ q → A q := fun q h => by rw [← hAe]; exact Or.inr h
  have hS : va_S A s.heap s.heap [] := va_S.rf
  have hl := lv_entry [.ref ch, .ref sc, .int (nI j), .long mk] (n := 9) (Nat.le_of_ble_eq_true rfl)
  rw [lg_entry_eq]
  generalize (lg_sl [.ref ch, .ref sc, .int (nI j), .long mk] ++ List.replicate (9 - (lg_sl [.ref ch, .ref sc, .int (nI j), .long mk]).length) Slot.unset).toArray = ls at hl ⊢
  generalize hag : ([.ref ch, .ref sc, .int (nI j), .long mk] : List Value).toArray = args at hts hQ ⊢
  have hl : lv_has ls 9 [(0, .ref ch), (1, .ref sc), (2, .int (nI j)), (3, .long mk)] := hl
  obtain ⟨H, hH⟩ : ∃ H : Heap, H = s.heap := ⟨_, rfl⟩
  rw [← hH] at hP
  rw [← hH]
  have hS : va_S A s.heap H [] := by rw [hH]; exact hS
  obtain ⟨locs, hlo⟩ : ∃ L : List Loc, L = [] := ⟨_, rfl⟩
  rw [← hlo] at hS
  rw [← hlo]
  clear hH hlo
  refine lv_aload_n hx hb dX0_walked_0 rfl (lv_at hl 0 rfl) ?_
  refine lv_aload_n hx hb dX0_walked_1 rfl (lv_at hl 1 rfl) ?_
  refine lv_iload_n hx hb dX0_walked_2 rfl (lv_at hl 2 rfl) ?_
  have hPc := hP.sub (ws' := [(ch, .inr (2, [.long ft, .int fr, .ref dr, .ref tO, .ref hO])), (sc, .inr (10, [.ref aTp, .int 0, .ref aHl, .int 0, .long 0, .int 0, .int 0, .ref aHs, .int 0, .ref aWk, .int 0, .ref aBk, .int 0, .ref aFc])), (aHl, .inr (7, [.int 3, .int 0, .ref bW, .ref bA, .ref bE, .ref bC, .int 0, .null, .int 0, .int 0, .int 0])), (aFc, .inl (cF, 6, .inl fF)), (dr, .inl (cD, 36, .inl fD)), (tO, .inl (cTO, 3, .inr (.inr (.inr (.inr (fun i => if i < 3 then some (rt i) else none)))))), ((rt 0), .inl (cT, 36, .inr (.inl f0)))]) [0, 1, 2, 3, 4, 5, 6] rfl
  have hDc := hD.sub (ws' := [(ch, .inr (2, [.long ft, .int fr, .ref dr, .ref tO, .ref hO])), (sc, .inr (10, [.ref aTp, .int 0, .ref aHl, .int 0, .long 0, .int 0, .int 0, .ref aHs, .int 0, .ref aWk, .int 0, .ref aBk, .int 0, .ref aFc])), (aHl, .inr (7, [.int 3, .int 0, .ref bW, .ref bA, .ref bE, .ref bC, .int 0, .null, .int 0, .int 0, .int 0])), (aFc, .inl (cF, 6, .inl fF)), (dr, .inl (cD, 36, .inl fD)), (tO, .inl (cTO, 3, .inr (.inr (.inr (.inr (fun i => if i < 3 then some (rt i) else none)))))), ((rt 0), .inl (cT, 36, .inr (.inl f0)))]) [0, 1, 2, 3, 4, 5, 6] (by decide) rfl
  have hKc := hK.sub (tys' := [(cF, .int), (cD, .int), (cTO, .array .long), (cT, .long)]) [0, 1, 2, 3] rfl
  have hFc := va_free (wc := [(ch, .inr (2, [.long ft, .int fr, .ref dr, .ref tO, .ref hO])), (sc, .inr (10, [.ref aTp, .int 0, .ref aHl, .int 0, .long 0, .int 0, .int 0, .ref aHs, .int 0, .ref aWk, .int 0, .ref aBk, .int 0, .ref aFc])), (aHl, .inr (7, [.int 3, .int 0, .ref bW, .ref bA, .ref bE, .ref bC, .int 0, .null, .int 0, .int 0, .int 0])), (aFc, .inl (cF, 6, .inl fF)), (dr, .inl (cD, 36, .inl fD)), (tO, .inl (cTO, 3, .inr (.inr (.inr (.inr (fun i => if i < 3 then some (rt i) else none)))))), ((rt 0), .inl (cT, 36, .inr (.inl f0)))]) hD hS hA [0, 1, 2, 3, 4, 5, 6] rfl
  refine va_callv (va_runV (As := [.ref sc, .int (nI j)]) (rest := []) ⟨hx, hb, hml, hown, hts⟩ (c_begin l dC dI gd ch dr tO hO ft fr rt rh cD cTO cHO cT cH sc aTp aHl aHs aWk aBk aFc bW bA bE bC cF fF fD f0 j H.size zj) (cwV 2 hts gX0_walked_X0_begin rfl rfl rfl (by decide +kernel) ⟨Nat.le_of_ble_eq_true rfl, Nat.le_of_ble_eq_true rfl⟩) ⟨fun a U g mk q => by obtain ⟨q0, q1, qP, qK, qD, qhG⟩ := q; exact ⟨q0, q1, qP, va_K.moved (u := U) (U := U.calling g mk a) (Vm.Alike.refl U.vm) qK, qD, qhG.same rfl rfl⟩, va_recv hK hP (ci := 2) (q0 := 0) rfl rfl, fun U hU hW => ⟨rfl, by rw [hU], by rw [hU]; exact hPc, va_K.moved hW.alike hKc, hDc.weaken (fun _ _ _ _ => trivial), hG.call hS hU hW (fun q h => hFc q h)⟩⟩ rfl rfl hl.1 rfl (lv_room (Nat.le_of_ble_eq_true rfl)) dX0_walked_3 ⟨Nat.le_of_ble_eq_true rfl, Nat.le_of_ble_eq_true rfl⟩) hS (fun q _ h => hFc q h) hFc (fun u tC H1 locs htC hvm hw_2 hB hz1 hk1 hS => ?_)
  obtain ⟨fF2_3, fD2_4, f02_5⟩ := u
  try dsimp only at hw_2 hB
  obtain ⟨hP1, hK1, hD1⟩ := hB
  rw [htC] at hP1
  have hK1 := va_K.moved hvm.symm hK1
  obtain ⟨hP, hD⟩ := va_join (wr := []) (w1 := [(ch, .inr (2, [.long ft, .int fr, .ref dr, .ref tO, .ref hO])), (sc, .inr (10, [.ref aTp, .int 0, .ref aHl, .int 0, .long 0, .int 0, .int 0, .ref aHs, .int 0, .ref aWk, .int 0, .ref aBk, .int 0, .ref aFc])), (aHl, .inr (7, [.int 3, .int 0, .ref bW, .ref bA, .ref bE, .ref bC, .int 0, .null, .int 0, .int 0, .int 0])), (aFc, .inl (cF, 6, .inl fF2_3)), (dr, .inl (cD, 36, .inl fD2_4)), (tO, .inl (cTO, 3, .inr (.inr (.inr (.inr (fun i => if i < 3 then some (rt i) else none)))))), ((rt 0), .inl (cT, 36, .inr (.inl f02_5)))]) hP hD [0, 1, 2, 3, 4, 5, 6] [] rfl rfl (by decide) (by decide) hk1 hFc hP1 hD1
  have hK := (hK.sub (tys' := []) [] rfl).app hK1
  generalize H1 = H at hP hS ⊢
  have hP : va_P (dC, dI) vwCl [(ch, .inr (2, [.long ft, .int fr, .ref dr, .ref tO, .ref hO])), (sc, .inr (10, [.ref aTp, .int 0, .ref aHl, .int 0, .long 0, .int 0, .int 0, .ref aHs, .int 0, .ref aWk, .int 0, .ref aBk, .int 0, .ref aFc])), (aHl, .inr (7, [.int 3, .int 0, .ref bW, .ref bA, .ref bE, .ref bC, .int 0, .null, .int 0, .int 0, .int 0])), (aFc, .inl (cF, 6, .inl fF2_3)), (dr, .inl (cD, 36, .inl fD2_4)), (tO, .inl (cTO, 3, .inr (.inr (.inr (.inr (fun i => if i < 3 then some (rt i) else none)))))), ((rt 0), .inl (cT, 36, .inr (.inl f02_5)))] H := hP
  have hD : va_D A [(ch, .inr (2, [.long ft, .int fr, .ref dr, .ref tO, .ref hO])), (sc, .inr (10, [.ref aTp, .int 0, .ref aHl, .int 0, .long 0, .int 0, .int 0, .ref aHs, .int 0, .ref aWk, .int 0, .ref aBk, .int 0, .ref aFc])), (aHl, .inr (7, [.int 3, .int 0, .ref bW, .ref bA, .ref bE, .ref bC, .int 0, .null, .int 0, .int 0, .int 0])), (aFc, .inl (cF, 6, .inl fF2_3)), (dr, .inl (cD, 36, .inl fD2_4)), (tO, .inl (cTO, 3, .inr (.inr (.inr (.inr (fun i => if i < 3 then some (rt i) else none)))))), ((rt 0), .inl (cT, 36, .inr (.inl f02_5)))] := hD
  have hK : va_K (dC, dI) vwCl [(cF, .int), (cD, .int), (cTO, .array .long), (cT, .long)] s := hK
  refine lv_iconst (v := 0) hx hb dX0_walked_6 (by decide) ?_
  refine lv_istore (lv' := [(5, .int 0), (0, .ref ch), (1, .ref sc), (2, .int (nI j)), (3, .long mk)]) hx hb dX0_walked_7 hl (by decide) rfl (fun ls hl => ?_)
  refine lv_iload hx hb dX0_walked_9 (lv_at hl 0 rfl) ?_
  refine lv_aload_n hx hb dX0_walked_11 rfl (lv_at hl 2 rfl) ?_
  refine va_get (D := (dC, dI)) (ci := 10) (v := .int 0) (C := RX8) (T := TX8) (N := 14) hx hb hts kc_walked0_0 hown hK hP 1 rfl rfl 10 (by decide) (hts (.fieldLink RX0 31 "MistHeaps$Scene" "walkSize" "I") kc_walked0_1) (fun _ h9 => h9) rfl dX0_walked_12 ?_
  refine lv_icmp_ge (tgt := 56) hx hb dX0_walked_15 (by decide) (fun _ => ?_) (fun c_6 => absurd c_6 (by decide))
  refine lv_aload_n hx hb dX0_walked_56 rfl (lv_at hl 1 rfl) ?_
  refine va_get (D := (dC, dI)) (ci := 2) (v := .ref tO) (C := RX0) (T := TX0) (N := 5) hx hb hts kc_walked0_2 hown hK hP 0 rfl rfl 3 (by decide) (hts (.fieldLink RX0 17 "MistHeaps$Chances" "times" "[[J") kc_walked0_3) (fun _ h9 => h9) rfl dX0_walked_57 ?_
  refine lv_aload_n hx hb dX0_walked_60 rfl (lv_at hl 2 rfl) ?_
  refine va_get (D := (dC, dI)) (ci := 10) (v := .int 0) (C := RX8) (T := TX8) (N := 14) hx hb hts kc_walked0_0 hown hK hP 1 rfl rfl 10 (by decide) (hts (.fieldLink RX0 31 "MistHeaps$Scene" "walkSize" "I") kc_walked0_1) (fun _ h9 => h9) rfl dX0_walked_61 ?_
  refine lv_iconst (v := 1) hx hb dX0_walked_64 (by decide) ?_
  refine lv_iand hx hb dX0_walked_65 ?_
  refine qi_as (y := 0) (by decide) ?_
  refine va_alda hx hb hK hP 5 2 rfl rfl (vp_in_nI (n := 0) (N := 3) (by omega) (by omega)) dX0_walked_66 ?_
  refine qq_as (v := .ref (rt 0)) (rfl) ?_
  refine lv_astore (lv' := [(5, .ref (rt 0)), (0, .ref ch), (1, .ref sc), (2, .int (nI j)), (3, .long mk)]) hx hb dX0_walked_67 hl (by decide) rfl (fun ls hl => ?_)
  refine lv_lconst (v := 0) hx hb dX0_walked_69 (by decide) ?_
  refine lv_lstore (lv' := [(6, .long 0), (5, .ref (rt 0)), (0, .ref ch), (1, .ref sc), (2, .int (nI j)), (3, .long mk)]) hx hb dX0_walked_70 hl (by decide) rfl (fun ls hl => ?_)
  refine lv_iconst (v := 0) hx hb dX0_walked_72 (by decide) ?_
  refine lv_istore (lv' := [(8, .int 0), (6, .long 0), (5, .ref (rt 0)), (0, .ref ch), (1, .ref sc), (2, .int (nI j)), (3, .long mk)]) hx hb dX0_walked_73 hl (by decide) rfl (fun ls hl => ?_)
  have L75 : ∀ (nF : Nat) (i : Nat) (S : Int64), 36 - i < nF → (i ≤ 36) → (S = if j < i then (if hz mk j = 1 then 1 else 0) else 0) → ∀ (H : Heap) (locs : List Loc), va_K (dC, dI) vwCl [(cF, .int), (cD, .int), (cTO, .array .long), (cT, .long)] s → va_P (dC, dI) vwCl [(ch, .inr (2, [.long ft, .int fr, .ref dr, .ref tO, .ref hO])), (sc, .inr (10, [.ref aTp, .int 0, .ref aHl, .int 0, .long 0, .int 0, .int 0, .ref aHs, .int 0, .ref aWk, .int 0, .ref aBk, .int 0, .ref aFc])), (aHl, .inr (7, [.int 3, .int 0, .ref bW, .ref bA, .ref bE, .ref bC, .int 0, .null, .int 0, .int 0, .int 0])), (aFc, .inl (cF, 6, .inl fF2_3)), (dr, .inl (cD, 36, .inl fD2_4)), (tO, .inl (cTO, 3, .inr (.inr (.inr (.inr (fun i => if i < 3 then some (rt i) else none)))))), ((rt 0), .inl (cT, 36, .inr (.inl f02_5)))] H → va_D A [(ch, .inr (2, [.long ft, .int fr, .ref dr, .ref tO, .ref hO])), (sc, .inr (10, [.ref aTp, .int 0, .ref aHl, .int 0, .long 0, .int 0, .int 0, .ref aHs, .int 0, .ref aWk, .int 0, .ref aBk, .int 0, .ref aFc])), (aHl, .inr (7, [.int 3, .int 0, .ref bW, .ref bA, .ref bE, .ref bC, .int 0, .null, .int 0, .int 0, .int 0])), (aFc, .inl (cF, 6, .inl fF2_3)), (dr, .inl (cD, 36, .inl fD2_4)), (tO, .inl (cTO, 3, .inr (.inr (.inr (.inr (fun i => if i < 3 then some (rt i) else none)))))), ((rt 0), .inl (cT, 36, .inr (.inl f02_5)))] → va_S A s.heap H locs → ∀ (ls : Array Slot), lv_has ls 9 [(3, .long mk), (5, .ref (rt 0)), (6, .long S), (8, .int (nI i))] → W p l e ({ frames := 4, cells := 0, slots := 0, locals := 88 } : Room) s m args below meth c H locs 0 0 Q (F0 m 75 ls []) := by
    intro nF
    induction nF with
    | zero => intro i S hm; exact absurd hm (Nat.not_lt_zero _)
    | succ nF ih75 =>
      intro i S hm hi hs H locs hK hP hD hS ls hl
      refine lv_iload hx hb dX0_walked_75 (lv_at hl 3 rfl) ?_
      refine lv_bipush (v := 36) hx hb dX0_walked_77 (by decide) ?_
      refine lv_icmp_ge (tgt := 107) hx hb dX0_walked_79 (by decide) (fun c_7 => ?_) (fun c_7 => ?_)
      · skip
        have c_7 : 36 ≤ i := (nI_leI (a := 36) (b := i) (by omega) (by omega)).mp c_7
        refine lv_lload hx hb dX0_walked_107 (lv_at hl 2 rfl) ?_
        rw [hQ]
        have hP9 := hP.sub (ws' := [(ch, .inr (2, [.long ft, .int fr, .ref dr, .ref tO, .ref hO])), (sc, .inr (10, [.ref aTp, .int 0, .ref aHl, .int 0, .long 0, .int 0, .int 0, .ref aHs, .int 0, .ref aWk, .int 0, .ref aBk, .int 0, .ref aFc])), (aHl, .inr (7, [.int 3, .int 0, .ref bW, .ref bA, .ref bE, .ref bC, .int 0, .null, .int 0, .int 0, .int 0])), (aFc, .inl (cF, 6, .inl fF2_3)), (dr, .inl (cD, 36, .inl fD2_4)), (tO, .inl (cTO, 3, .inr (.inr (.inr (.inr (fun i => if i < 3 then some (rt i) else none)))))), ((rt 0), .inl (cT, 36, .inr (.inl f02_5)))]) [0, 1, 2, 3, 4, 5, 6] rfl
        have hD9 := hD.sub (ws' := [(ch, .inr (2, [.long ft, .int fr, .ref dr, .ref tO, .ref hO])), (sc, .inr (10, [.ref aTp, .int 0, .ref aHl, .int 0, .long 0, .int 0, .int 0, .ref aHs, .int 0, .ref aWk, .int 0, .ref aBk, .int 0, .ref aFc])), (aHl, .inr (7, [.int 3, .int 0, .ref bW, .ref bA, .ref bE, .ref bC, .int 0, .null, .int 0, .int 0, .int 0])), (aFc, .inl (cF, 6, .inl fF2_3)), (dr, .inl (cD, 36, .inl fD2_4)), (tO, .inl (cTO, 3, .inr (.inr (.inr (.inr (fun i => if i < 3 then some (rt i) else none)))))), ((rt 0), .inl (cT, 36, .inr (.inl f02_5)))]) [0, 1, 2, 3, 4, 5, 6] (by decide) rfl
        have hK9 := hK.sub (tys' := [(cF, .int), (cD, .int), (cTO, .array .long), (cT, .long)]) [0, 1, 2, 3] rfl
        exact W.lret (v := S) hx hb hr (fun tQ htQ hWQ => ⟨⟨S, (fF2_3, fD2_4, f02_5), rfl, (by rw [hs, if_pos (show j < i by omega)]), by rw [htQ]; exact hP9, va_K.moved hWQ.alike hK9, hD9⟩, hS.F htQ⟩) hS.2.2 dX0_walked_109
      · skip
        have c_7 : ¬ 36 ≤ i := fun q => c_7 ((nI_leI (a := 36) (b := i) (by omega) (by omega)).mpr q)
        refine lv_lload_n hx hb dX0_walked_82 rfl (lv_at hl 0 rfl) ?_
        refine lv_iload hx hb dX0_walked_83 (lv_at hl 3 rfl) ?_
        refine vp_callSi (va_runSN (As := [.long mk, .int (nI i)]) (rest := []) ⟨hx, hb, hml, hown, hts⟩ (c_isIn l dC dI mk i) ⟨va_cnB 2 hts ggX0_walked_X11_isIn rfl rfl rfl (hG.1 (.methodLinkNest RX0 44 yX11_isIn "MistHeaps") (by decide +kernel)) (hts (.initialized RX11) kc_walked0_4) (by decide +kernel) ⟨Nat.le_of_ble_eq_true rfl, Nat.le_of_ble_eq_true rfl⟩, (hts (.static yX11_isIn) kc_walked0_5), trivial⟩ ⟨fun a U g mk q => ⟨q.1, trivial⟩, fun U hU hW => ⟨rfl, trivial⟩⟩ rfl rfl hl.1 rfl (lv_room (Nat.le_of_ble_eq_true rfl)) dX0_walked_85 ⟨Nat.le_of_ble_eq_true rfl, Nat.le_of_ble_eq_true rfl⟩).run (fun r_8 hw_9 => ?_)
        refine qi_as (y := hz mk i) (hw_9) ?_
        refine lv_if_eq (tgt := 101) hx hb dX0_walked_88 (by decide) (fun c_10 => ?_) (fun c_10 => ?_)
        · skip
          refine lv_iinc (v := nI (i + 1)) (lv' := [(8, .int (nI (i + 1))), (3, .long mk), (5, .ref (rt 0)), (6, .long S)]) hx hb dX0_walked_101 hl (k := 3) rfl (nI_add i 1) (by decide) rfl (fun ls hl => ?_)
          refine lv_goto (tgt := 75) hx hb dX0_walked_104 (by decide) ?_
          exact ih75 _ _ (by omega) (by omega) (w_skip c_10 hs) _ _ (hK.sub [0, 1, 2, 3] rfl) (hP.sub [0, 1, 2, 3, 4, 5, 6] rfl) (hD.sub [0, 1, 2, 3, 4, 5, 6] (by decide) rfl) hS ls (lv_sub hl [1, 2, 3, 0] rfl)
        · skip
          refine lv_lload hx hb dX0_walked_91 (lv_at hl 2 rfl) ?_
          refine lv_aload hx hb dX0_walked_93 (lv_at hl 1 rfl) ?_
          refine lv_iload hx hb dX0_walked_95 (lv_at hl 3 rfl) ?_
          refine va_lald hx hb hK hP 6 3 rfl rfl (vp_in_nI (n := i) (N := 36) (by omega) (by omega)) dX0_walked_97 ?_
          refine ql_as (y := ind j 0 i) ((show f02_5 (nI i).toNatClampNeg = f02_5 i from by rw [nI_clamp (by omega)]).trans (hw_2.2 i (by omega))) ?_
          refine lv_ladd hx hb dX0_walked_98 ?_
          refine lv_lstore (lv' := [(6, .long (S + (ind j 0 i))), (3, .long mk), (5, .ref (rt 0)), (8, .int (nI i))]) hx hb dX0_walked_99 hl (by decide) rfl (fun ls hl => ?_)
          refine lv_iinc (v := nI (i + 1)) (lv' := [(8, .int (nI (i + 1))), (6, .long (S + (ind j 0 i))), (3, .long mk), (5, .ref (rt 0))]) hx hb dX0_walked_101 hl (k := 3) rfl (nI_add i 1) (by decide) rfl (fun ls hl => ?_)
          refine lv_goto (tgt := 75) hx hb dX0_walked_104 (by decide) ?_
          exact ih75 _ _ (by omega) (by omega) (w_add c_10 hs) _ _ (hK.sub [0, 1, 2, 3] rfl) (hP.sub [0, 1, 2, 3, 4, 5, 6] rfl) (hD.sub [0, 1, 2, 3, 4, 5, 6] (by decide) rfl) hS ls (lv_sub hl [2, 3, 1, 0] rfl)
  exact L75 _ (0) _ (Nat.lt_succ_self _) (by omega) (by rw [if_neg (Nat.not_lt_zero _)]) _ _ (hK.sub [0, 1, 2, 3] rfl) (hP.sub [0, 1, 2, 3, 4, 5, 6] rfl) (hD.sub [0, 1, 2, 3, 4, 5, 6] (by decide) rfl) hS ls (lv_sub hl [6, 2, 1, 0] rfl)

theorem kc_xOdds_0 : (.constantLong RX11 139 (-9223372036854775808) : Cond) ∈ wsX11_odds := by decide +kernel
theorem kc_xOdds_1 : ∀ w ∈ wsX110, w ∈ wsX11_odds := by decide +kernel
theorem kc_xOdds_2 : (.fieldLink RX11 42 "MistHeaps" "chances" "LMistHeaps$Chances;" : Cond) ∈ wsX11_odds := by decide +kernel
theorem kc_xOdds_3 : (.fieldLink RX11 14 "MistHeaps" "scene" "LMistHeaps$Scene;" : Cond) ∈ wsX11_odds := by decide +kernel
theorem kc_xOdds_4 : ∀ w ∈ wsX80, w ∈ wsX11_odds := by decide +kernel
theorem kc_xOdds_5 : (.fieldLink RX11 169 "MistHeaps$Scene" "walkSize" "I" : Cond) ∈ wsX11_odds := by decide +kernel
theorem kc_xOdds_6 : (.fieldLink RX11 101 "MistHeaps$Scene" "heapCount" "I" : Cond) ∈ wsX11_odds := by decide +kernel
theorem kc_xOdds_7 : (.fieldLink RX11 73 "MistHeaps$Scene" "edges" "J" : Cond) ∈ wsX11_odds := by decide +kernel
set_option maxHeartbeats 4000000 in
set_option maxRecDepth 100000 in
theorem c_xOdds (l : Launch) (dC : Nat → ClassId) (dI : Nat → Nat → Nat) (gd : Nat → Nat) (h0 sc kp bl go ch bo aTp aHl aHs aWk aBk aFc : Nat) (bW bA bE bC : Nat) (dr tO hO : Nat) (rt rh : Nat → Nat) (cF cD cTO cHO cT cH : ClassId) (fF fD : Nat → Int32) (f0 f1 f2 : Nat → Int64) (g0 g1 g2 g3 g4 g5 g6 g7 : Nat → Int32) (x y z : Int32) (sz : Nat) : Met l yX11_odds wsX11_odds ({ frames := 5, cells := 0, slots := 0, locals := 116 } : Room) (va_Pc [.ref h0, .int x, .int y, .int z] (fun U => U.heap.size = sz ∧ va_P (dC, dI) vwCl [(h0, .inr (13, [.ref sc, .ref kp, .int 0, .ref bl, .ref go, .ref ch, .ref bo])), (sc, .inr (10, [.ref aTp, .int 0, .ref aHl, .int 0, .long 0, .int 0, .int 0, .ref aHs, .int 0, .ref aWk, .int 0, .ref aBk, .int 0, .ref aFc])), (aHl, .inr (7, [.int 3, .int 0, .ref bW, .ref bA, .ref bE, .ref bC, .int 0, .null, .int 0, .int 0, .int 0])), (aFc, .inl (cF, 6, .inl fF)), (ch, .inr (2, [.long 0, .int 0, .ref dr, .ref tO, .ref hO])), (dr, .inl (cD, 36, .inl fD)), (tO, .inl (cTO, 3, .inr (.inr (.inr (.inr (fun i => if i < 3 then some (rt i) else none)))))), ((rt 0), .inl (cT, 36, .inr (.inl f0))), ((rt 1), .inl (cT, 36, .inr (.inl f1))), ((rt 2), .inl (cT, 36, .inr (.inl f2))), (hO, .inl (cHO, 8, .inr (.inr (.inr (.inr (fun i => if i < 8 then some (rh i) else none)))))), ((rh 0), .inl (cH, 36, .inl g0)), ((rh 1), .inl (cH, 36, .inl g1)), ((rh 2), .inl (cH, 36, .inl g2)), ((rh 3), .inl (cH, 36, .inl g3)), ((rh 4), .inl (cH, 36, .inl g4)), ((rh 5), .inl (cH, 36, .inl g5)), ((rh 6), .inl (cH, 36, .inl g6)), ((rh 7), .inl (cH, 36, .inl g7))] U.heap ∧ va_K (dC, dI) vwCl [(cF, .int), (cD, .int), (cTO, .array .long), (cT, .long), (cT, .long), (cT, .long), (cHO, .array .int), (cH, .int), (cH, .int), (cH, .int), (cH, .int), (cH, .int), (cH, .int), (cH, .int), (cH, .int)] U ∧ va_D (fun _ => True) [(h0, .inr (13, [.ref sc, .ref kp, .int 0, .ref bl, .ref go, .ref ch, .ref bo])), (sc, .inr (10, [.ref aTp, .int 0, .ref aHl, .int 0, .long 0, .int 0, .int 0, .ref aHs, .int 0, .ref aWk, .int 0, .ref aBk, .int 0, .ref aFc])), (aHl, .inr (7, [.int 3, .int 0, .ref bW, .ref bA, .ref bE, .ref bC, .int 0, .null, .int 0, .int 0, .int 0])), (aFc, .inl (cF, 6, .inl fF)), (ch, .inr (2, [.long 0, .int 0, .ref dr, .ref tO, .ref hO])), (dr, .inl (cD, 36, .inl fD)), (tO, .inl (cTO, 3, .inr (.inr (.inr (.inr (fun i => if i < 3 then some (rt i) else none)))))), ((rt 0), .inl (cT, 36, .inr (.inl f0))), ((rt 1), .inl (cT, 36, .inr (.inl f1))), ((rt 2), .inl (cT, 36, .inr (.inl f2))), (hO, .inl (cHO, 8, .inr (.inr (.inr (.inr (fun i => if i < 8 then some (rh i) else none)))))), ((rh 0), .inl (cH, 36, .inl g0)), ((rh 1), .inl (cH, 36, .inl g1)), ((rh 2), .inl (cH, 36, .inl g2)), ((rh 3), .inl (cH, 36, .inl g3)), ((rh 4), .inl (cH, 36, .inl g4)), ((rh 5), .inl (cH, 36, .inl g5)), ((rh 6), .inl (cH, 36, .inl g6)), ((rh 7), .inl (cH, 36, .inl g7))] ∧ Gl gd (va_A [(h0, .inr (13, [.ref sc, .ref kp, .int 0, .ref bl, .ref go, .ref ch, .ref bo])), (sc, .inr (10, [.ref aTp, .int 0, .ref aHl, .int 0, .long 0, .int 0, .int 0, .ref aHs, .int 0, .ref aWk, .int 0, .ref aBk, .int 0, .ref aFc])), (aHl, .inr (7, [.int 3, .int 0, .ref bW, .ref bA, .ref bE, .ref bC, .int 0, .null, .int 0, .int 0, .int 0])), (aFc, .inl (cF, 6, .inl fF)), (ch, .inr (2, [.long 0, .int 0, .ref dr, .ref tO, .ref hO])), (dr, .inl (cD, 36, .inl fD)), (tO, .inl (cTO, 3, .inr (.inr (.inr (.inr (fun i => if i < 3 then some (rt i) else none)))))), ((rt 0), .inl (cT, 36, .inr (.inl f0))), ((rt 1), .inl (cT, 36, .inr (.inl f1))), ((rt 2), .inl (cT, 36, .inr (.inl f2))), (hO, .inl (cHO, 8, .inr (.inr (.inr (.inr (fun i => if i < 8 then some (rh i) else none)))))), ((rh 0), .inl (cH, 36, .inl g0)), ((rh 1), .inl (cH, 36, .inl g1)), ((rh 2), .inl (cH, 36, .inl g2)), ((rh 3), .inl (cH, 36, .inl g3)), ((rh 4), .inl (cH, 36, .inl g4)), ((rh 5), .inl (cH, 36, .inl g5)), ((rh 6), .inl (cH, 36, .inl g6)), ((rh 7), .inl (cH, 36, .inl g7))] sz) U)) (va_Ql (fun (r : Int64) (u : Unit) => match u with | () => r = f_odds x y z) (fun (u : Unit) (t : State) => match u with | () => True) (va_A [(h0, .inr (13, [.ref sc, .ref kp, .int 0, .ref bl, .ref go, .ref ch, .ref bo])), (sc, .inr (10, [.ref aTp, .int 0, .ref aHl, .int 0, .long 0, .int 0, .int 0, .ref aHs, .int 0, .ref aWk, .int 0, .ref aBk, .int 0, .ref aFc])), (aHl, .inr (7, [.int 3, .int 0, .ref bW, .ref bA, .ref bE, .ref bC, .int 0, .null, .int 0, .int 0, .int 0])), (aFc, .inl (cF, 6, .inl fF)), (ch, .inr (2, [.long 0, .int 0, .ref dr, .ref tO, .ref hO])), (dr, .inl (cD, 36, .inl fD)), (tO, .inl (cTO, 3, .inr (.inr (.inr (.inr (fun i => if i < 3 then some (rt i) else none)))))), ((rt 0), .inl (cT, 36, .inr (.inl f0))), ((rt 1), .inl (cT, 36, .inr (.inl f1))), ((rt 2), .inl (cT, 36, .inr (.inl f2))), (hO, .inl (cHO, 8, .inr (.inr (.inr (.inr (fun i => if i < 8 then some (rh i) else none)))))), ((rh 0), .inl (cH, 36, .inl g0)), ((rh 1), .inl (cH, 36, .inl g1)), ((rh 2), .inl (cH, 36, .inl g2)), ((rh 3), .inl (cH, 36, .inl g3)), ((rh 4), .inl (cH, 36, .inl g4)), ((rh 5), .inl (cH, 36, .inl g5)), ((rh 6), .inl (cH, 36, .inl g6)), ((rh 7), .inl (cH, 36, .inl g7))] sz)) 0 0 (va_A [(h0, .inr (13, [.ref sc, .ref kp, .int 0, .ref bl, .ref go, .ref ch, .ref bo])), (sc, .inr (10, [.ref aTp, .int 0, .ref aHl, .int 0, .long 0, .int 0, .int 0, .ref aHs, .int 0, .ref aWk, .int 0, .ref aBk, .int 0, .ref aFc])), (aHl, .inr (7, [.int 3, .int 0, .ref bW, .ref bA, .ref bE, .ref bC, .int 0, .null, .int 0, .int 0, .int 0])), (aFc, .inl (cF, 6, .inl fF)), (ch, .inr (2, [.long 0, .int 0, .ref dr, .ref tO, .ref hO])), (dr, .inl (cD, 36, .inl fD)), (tO, .inl (cTO, 3, .inr (.inr (.inr (.inr (fun i => if i < 3 then some (rt i) else none)))))), ((rt 0), .inl (cT, 36, .inr (.inl f0))), ((rt 1), .inl (cT, 36, .inr (.inl f1))), ((rt 2), .inl (cT, 36, .inr (.inl f2))), (hO, .inl (cHO, 8, .inr (.inr (.inr (.inr (fun i => if i < 8 then some (rh i) else none)))))), ((rh 0), .inl (cH, 36, .inl g0)), ((rh 1), .inl (cH, 36, .inl g1)), ((rh 2), .inl (cH, 36, .inl g2)), ((rh 3), .inl (cH, 36, .inl g3)), ((rh 4), .inl (cH, 36, .inl g4)), ((rh 5), .inl (cH, 36, .inl g5)), ((rh 6), .inl (cH, 36, .inl g6)), ((rh 7), .inl (cH, 36, .inl g7))] sz) := by
  refine met_ofQ (cc := cX11_odds) (maxL := 8) (ret := (some .long)) (by decide) rfl ?_
  intro p e s m args below meth c s₁ Q B hml hv hQ
  obtain ⟨rfl, hsz, hP, hK, hD0, hG⟩ := hv
  have hx := B.exec
  have hb := B.bytes
  have hr := B.returns
  have hts := atoms_spec (ws := wsX11_odds) B.pre
  have hown : s.vm.findClass RX11 = some m.cls := findClass_of_methodNamed B.named
  have hlocks := B.notSynchronized
  subst hsz
  have hD := hD0.self (sz := s.heap.size)
  generalize hAe : va_A [(h0, .inr (13, [.ref sc, .ref kp, .int 0, .ref bl, .ref go, .ref ch, .ref bo])), (sc, .inr (10, [.ref aTp, .int 0, .ref aHl, .int 0, .long 0, .int 0, .int 0, .ref aHs, .int 0, .ref aWk, .int 0, .ref aBk, .int 0, .ref aFc])), (aHl, .inr (7, [.int 3, .int 0, .ref bW, .ref bA, .ref bE, .ref bC, .int 0, .null, .int 0, .int 0, .int 0])), (aFc, .inl (cF, 6, .inl fF)), (ch, .inr (2, [.long 0, .int 0, .ref dr, .ref tO, .ref hO])), (dr, .inl (cD, 36, .inl fD)), (tO, .inl (cTO, 3, .inr (.inr (.inr (.inr (fun i => if i < 3 then some (rt i) else none)))))), ((rt 0), .inl (cT, 36, .inr (.inl f0))), ((rt 1), .inl (cT, 36, .inr (.inl f1))), ((rt 2), .inl (cT, 36, .inr (.inl f2))), (hO, .inl (cHO, 8, .inr (.inr (.inr (.inr (fun i => if i < 8 then some (rh i) else none)))))), ((rh 0), .inl (cH, 36, .inl g0)), ((rh 1), .inl (cH, 36, .inl g1)), ((rh 2), .inl (cH, 36, .inl g2)), ((rh 3), .inl (cH, 36, .inl g3)), ((rh 4), .inl (cH, 36, .inl g4)), ((rh 5), .inl (cH, 36, .inl g5)), ((rh 6), .inl (cH, 36, .inl g6)), ((rh 7), .inl (cH, 36, .inl g7))] s.heap.size = A at hD hQ hG ⊢
  have hA : ∀ q : Nat, s.heap.size ≤ q → A q := fun q h => by rw [← hAe]; exact Or.inr h
  have hS : va_S A s.heap s.heap [] := va_S.rf
  have hl := lv_entry [.ref h0, .int x, .int y, .int z] (n := 8) (Nat.le_of_ble_eq_true rfl)
  rw [lg_entry_eq]
  generalize (lg_sl [.ref h0, .int x, .int y, .int z] ++ List.replicate (8 - (lg_sl [.ref h0, .int x, .int y, .int z]).length) Slot.unset).toArray = ls at hl ⊢
  generalize hag : ([.ref h0, .int x, .int y, .int z] : List Value).toArray = args at hts hQ ⊢
  have hl : lv_has ls 8 [(0, .ref h0), (1, .int x), (2, .int y), (3, .int z)] := hl
  obtain ⟨H, hH⟩ : ∃ H : Heap, H = s.heap := ⟨_, rfl⟩
  rw [← hH] at hP
  rw [← hH]
  have hS : va_S A s.heap H [] := by rw [hH]; exact hS
  obtain ⟨locs, hlo⟩ : ∃ L : List Loc, L = [] := ⟨_, rfl⟩
  rw [← hlo] at hS
  rw [← hlo]
  clear hH hlo
  refine lv_iload_n hx hb dX11_odds_0 rfl (lv_at hl 1 rfl) ?_
  refine vp_callSi (va_runS (As := [.int x]) (rest := []) ⟨hx, hb, hml, hown, hts⟩ (c_xCell l dC dI x) (va_cwS 1 hts gX11_odds_X11_isCell rfl rfl rfl (by decide +kernel) ⟨Nat.le_of_ble_eq_true rfl, Nat.le_of_ble_eq_true rfl⟩) ⟨fun a U g mk q => ⟨q.1, trivial⟩, fun U hU hW => ⟨rfl, trivial⟩⟩ rfl rfl hl.1 rfl (lv_room (Nat.le_of_ble_eq_true rfl)) dX11_odds_1 ⟨Nat.le_of_ble_eq_true rfl, Nat.le_of_ble_eq_true rfl⟩).run (fun r_1 hw_2 => ?_)
  rcases hw_2 with ⟨rfl, h_3, h_4⟩ | ⟨rfl, h_5⟩
  · skip
    obtain ⟨jx_6, hj_7, rfl⟩ := in_of (n := 35) (M := 35) rfl h_3 h_4
    refine lv_if_eq (tgt := 16) hx hb dX11_odds_4 (by decide) (fun c_8 => absurd c_8 (by decide)) (fun _ => ?_)
    refine lv_iload_n hx hb dX11_odds_7 rfl (lv_at hl 3 rfl) ?_
    refine lv_if_lt (tgt := 16) hx hb dX11_odds_8 (by decide) (fun c_9 => ?_) (fun c_9 => ?_)
    · skip
      refine lv_ldc2 (v := (-9223372036854775808)) hx hb hown (hts (.constantLong RX11 139 (-9223372036854775808)) kc_xOdds_0) dX11_odds_16 ?_
      rw [hQ]
      exact W.lret (v := (-9223372036854775808)) hx hb hr (fun tQ htQ hWQ => ⟨⟨(-9223372036854775808), (), rfl, by simp only [f_odds, tA1, tA2, tA3, tB1, tB2, tB3, if_false]; (repeat' split) <;> first | contradiction | with_reducible rfl | (simp_all; done) | (simp only [← Int32.not_lt] at *; simp_all), trivial⟩, hS.F htQ⟩) hS.2.2 dX11_odds_19
    · skip
      refine lv_iload_n hx hb dX11_odds_11 rfl (lv_at hl 3 rfl) ?_
      refine lv_iconst (v := 1) hx hb dX11_odds_12 (by decide) ?_
      refine lv_icmp_le (tgt := 20) hx hb dX11_odds_13 (by decide) (fun c_10 => ?_) (fun c_10 => ?_)
      · skip
        rw [← Int32.not_lt] at c_10
        refine lv_iload_n hx hb dX11_odds_20 rfl (lv_at hl 2 rfl) ?_
        refine vp_callSi (va_runS (As := [.int y]) (rest := []) ⟨hx, hb, hml, hown, hts⟩ (c_xCell l dC dI y) (va_cwS 1 hts gX11_odds_X11_isCell rfl rfl rfl (by decide +kernel) ⟨Nat.le_of_ble_eq_true rfl, Nat.le_of_ble_eq_true rfl⟩) ⟨fun a U g mk q => ⟨q.1, trivial⟩, fun U hU hW => ⟨rfl, trivial⟩⟩ rfl rfl hl.1 rfl (lv_room (Nat.le_of_ble_eq_true rfl)) dX11_odds_21 ⟨Nat.le_of_ble_eq_true rfl, Nat.le_of_ble_eq_true rfl⟩).run (fun r_11 hw_12 => ?_)
        rcases hw_12 with ⟨rfl, h_13, h_14⟩ | ⟨rfl, h_15⟩
        · skip
          obtain ⟨jy_16, hj_17, rfl⟩ := in_of (n := 35) (M := 35) rfl h_13 h_14
          refine lv_if_eq (tgt := 35) hx hb dX11_odds_24 (by decide) (fun c_18 => absurd c_18 (by decide)) (fun _ => ?_)
          refine lv_lconst (v := 1) hx hb dX11_odds_27 (by decide) ?_
          refine lv_iload_n hx hb dX11_odds_28 rfl (lv_at hl 2 rfl) ?_
          refine lv_lshl (v := (1 : Int64) <<< ((nI jy_16).toInt64 &&& 63)) hx hb dX11_odds_29 (rfl) ?_
          refine lv_lstore (lv' := [(4, .long ((1 : Int64) <<< ((nI jy_16).toInt64 &&& 63))), (0, .ref h0), (1, .int (nI jx_6)), (2, .int (nI jy_16)), (3, .int z)]) hx hb dX11_odds_30 hl (by decide) rfl (fun ls hl => ?_)
          refine lv_goto (tgt := 105) hx hb dX11_odds_32 (by decide) ?_
          refine lv_aload_n hx hb dX11_odds_105 rfl (lv_at hl 1 rfl) ?_
          refine va_get (D := (dC, dI)) (ci := 13) (v := .ref ch) (C := RX11) (T := TX11) (N := 7) hx hb hts kc_xOdds_1 hown hK hP 0 rfl rfl 5 (by decide) (hts (.fieldLink RX11 42 "MistHeaps" "chances" "LMistHeaps$Chances;") kc_xOdds_2) (fun _ h9 => h9) rfl dX11_odds_106 ?_
          refine lv_aload_n hx hb dX11_odds_109 rfl (lv_at hl 1 rfl) ?_
          refine va_get (D := (dC, dI)) (ci := 13) (v := .ref sc) (C := RX11) (T := TX11) (N := 7) hx hb hts kc_xOdds_1 hown hK hP 0 rfl rfl 0 (by decide) (hts (.fieldLink RX11 14 "MistHeaps" "scene" "LMistHeaps$Scene;") kc_xOdds_3) (fun _ h9 => h9) rfl dX11_odds_110 ?_
          refine lv_iload_n hx hb dX11_odds_113 rfl (lv_at hl 2 rfl) ?_
          refine lv_lload hx hb dX11_odds_114 (lv_at hl 0 rfl) ?_
          have hPc := hP.sub (ws' := [(ch, .inr (2, [.long 0, .int 0, .ref dr, .ref tO, .ref hO])), (sc, .inr (10, [.ref aTp, .int 0, .ref aHl, .int 0, .long 0, .int 0, .int 0, .ref aHs, .int 0, .ref aWk, .int 0, .ref aBk, .int 0, .ref aFc])), (aHl, .inr (7, [.int 3, .int 0, .ref bW, .ref bA, .ref bE, .ref bC, .int 0, .null, .int 0, .int 0, .int 0])), (aFc, .inl (cF, 6, .inl fF)), (dr, .inl (cD, 36, .inl fD)), (tO, .inl (cTO, 3, .inr (.inr (.inr (.inr (fun i => if i < 3 then some (rt i) else none)))))), ((rt 0), .inl (cT, 36, .inr (.inl f0)))]) [4, 1, 2, 3, 5, 6, 7] rfl
          have hDc := hD.sub (ws' := [(ch, .inr (2, [.long 0, .int 0, .ref dr, .ref tO, .ref hO])), (sc, .inr (10, [.ref aTp, .int 0, .ref aHl, .int 0, .long 0, .int 0, .int 0, .ref aHs, .int 0, .ref aWk, .int 0, .ref aBk, .int 0, .ref aFc])), (aHl, .inr (7, [.int 3, .int 0, .ref bW, .ref bA, .ref bE, .ref bC, .int 0, .null, .int 0, .int 0, .int 0])), (aFc, .inl (cF, 6, .inl fF)), (dr, .inl (cD, 36, .inl fD)), (tO, .inl (cTO, 3, .inr (.inr (.inr (.inr (fun i => if i < 3 then some (rt i) else none)))))), ((rt 0), .inl (cT, 36, .inr (.inl f0)))]) [4, 1, 2, 3, 5, 6, 7] (by decide) rfl
          have hKc := hK.sub (tys' := [(cF, .int), (cD, .int), (cTO, .array .long), (cT, .long)]) [0, 1, 2, 3] rfl
          have hFc := va_free (wc := [(ch, .inr (2, [.long 0, .int 0, .ref dr, .ref tO, .ref hO])), (sc, .inr (10, [.ref aTp, .int 0, .ref aHl, .int 0, .long 0, .int 0, .int 0, .ref aHs, .int 0, .ref aWk, .int 0, .ref aBk, .int 0, .ref aFc])), (aHl, .inr (7, [.int 3, .int 0, .ref bW, .ref bA, .ref bE, .ref bC, .int 0, .null, .int 0, .int 0, .int 0])), (aFc, .inl (cF, 6, .inl fF)), (dr, .inl (cD, 36, .inl fD)), (tO, .inl (cTO, 3, .inr (.inr (.inr (.inr (fun i => if i < 3 then some (rt i) else none)))))), ((rt 0), .inl (cT, 36, .inr (.inl f0)))]) hD hS hA [4, 1, 2, 3, 5, 6, 7] rfl
          refine va_calll (va_runV (As := [.ref sc, .int (nI jx_6), .long ((1 : Int64) <<< ((nI jy_16).toInt64 &&& 63))]) (rest := []) ⟨hx, hb, hml, hown, hts⟩ (c_walked0 l dC dI gd ch dr tO hO 0 0 rt rh cD cTO cHO cT cH sc aTp aHl aHs aWk aBk aFc bW bA bE bC cF fF fD f0 jx_6 ((1 : Int64) <<< ((nI jy_16).toInt64 &&& 63)) H.size (by omega)) (cwV 3 hts gX11_odds_X0_walked rfl rfl rfl (by decide +kernel) ⟨Nat.le_of_ble_eq_true rfl, Nat.le_of_ble_eq_true rfl⟩) ⟨fun a U g mk q => by obtain ⟨q0, q1, qP, qK, qD, qhG⟩ := q; exact ⟨q0, q1, qP, va_K.moved (u := U) (U := U.calling g mk a) (Vm.Alike.refl U.vm) qK, qD, qhG.same rfl rfl⟩, va_recv hK hP (ci := 2) (q0 := 4) rfl rfl, fun U hU hW => ⟨rfl, by rw [hU], by rw [hU]; exact hPc, va_K.moved hW.alike hKc, hDc.weaken (fun _ _ _ _ => trivial), hG.call hS hU hW (fun q h => hFc q h)⟩⟩ rfl rfl hl.1 rfl (lv_room (Nat.le_of_ble_eq_true rfl)) dX11_odds_116 ⟨Nat.le_of_ble_eq_true rfl, Nat.le_of_ble_eq_true rfl⟩) hS (fun q _ h => hFc q h) hFc (fun r_19 u tC H1 locs htC hvm hw_20 hB hz1 hk1 hS => ?_)
          obtain ⟨fF2_21, fD2_22, f02_23⟩ := u
          try dsimp only at hw_20 hB
          obtain ⟨hP1, hK1, hD1⟩ := hB
          rw [htC] at hP1
          have hK1 := va_K.moved hvm.symm hK1
          obtain ⟨hP, hD⟩ := va_join (wr := [(h0, .inr (13, [.ref sc, .ref kp, .int 0, .ref bl, .ref go, .ref ch, .ref bo])), ((rt 1), .inl (cT, 36, .inr (.inl f1))), ((rt 2), .inl (cT, 36, .inr (.inl f2))), (hO, .inl (cHO, 8, .inr (.inr (.inr (.inr (fun i => if i < 8 then some (rh i) else none)))))), ((rh 0), .inl (cH, 36, .inl g0)), ((rh 1), .inl (cH, 36, .inl g1)), ((rh 2), .inl (cH, 36, .inl g2)), ((rh 3), .inl (cH, 36, .inl g3)), ((rh 4), .inl (cH, 36, .inl g4)), ((rh 5), .inl (cH, 36, .inl g5)), ((rh 6), .inl (cH, 36, .inl g6)), ((rh 7), .inl (cH, 36, .inl g7))]) (w1 := [(ch, .inr (2, [.long 0, .int 0, .ref dr, .ref tO, .ref hO])), (sc, .inr (10, [.ref aTp, .int 0, .ref aHl, .int 0, .long 0, .int 0, .int 0, .ref aHs, .int 0, .ref aWk, .int 0, .ref aBk, .int 0, .ref aFc])), (aHl, .inr (7, [.int 3, .int 0, .ref bW, .ref bA, .ref bE, .ref bC, .int 0, .null, .int 0, .int 0, .int 0])), (aFc, .inl (cF, 6, .inl fF2_21)), (dr, .inl (cD, 36, .inl fD2_22)), (tO, .inl (cTO, 3, .inr (.inr (.inr (.inr (fun i => if i < 3 then some (rt i) else none)))))), ((rt 0), .inl (cT, 36, .inr (.inl f02_23)))]) hP hD [4, 1, 2, 3, 5, 6, 7] [0, 8, 9, 10, 11, 12, 13, 14, 15, 16, 17, 18] rfl rfl (by decide) (by decide) hk1 hFc hP1 hD1
          have hK := (hK.sub (tys' := [(cT, .long), (cT, .long), (cHO, .array .int), (cH, .int), (cH, .int), (cH, .int), (cH, .int), (cH, .int), (cH, .int), (cH, .int), (cH, .int)]) [4, 5, 6, 7, 8, 9, 10, 11, 12, 13, 14] rfl).app hK1
          generalize H1 = H at hP hS ⊢
          have hP : va_P (dC, dI) vwCl [(h0, .inr (13, [.ref sc, .ref kp, .int 0, .ref bl, .ref go, .ref ch, .ref bo])), ((rt 1), .inl (cT, 36, .inr (.inl f1))), ((rt 2), .inl (cT, 36, .inr (.inl f2))), (hO, .inl (cHO, 8, .inr (.inr (.inr (.inr (fun i => if i < 8 then some (rh i) else none)))))), ((rh 0), .inl (cH, 36, .inl g0)), ((rh 1), .inl (cH, 36, .inl g1)), ((rh 2), .inl (cH, 36, .inl g2)), ((rh 3), .inl (cH, 36, .inl g3)), ((rh 4), .inl (cH, 36, .inl g4)), ((rh 5), .inl (cH, 36, .inl g5)), ((rh 6), .inl (cH, 36, .inl g6)), ((rh 7), .inl (cH, 36, .inl g7)), (ch, .inr (2, [.long 0, .int 0, .ref dr, .ref tO, .ref hO])), (sc, .inr (10, [.ref aTp, .int 0, .ref aHl, .int 0, .long 0, .int 0, .int 0, .ref aHs, .int 0, .ref aWk, .int 0, .ref aBk, .int 0, .ref aFc])), (aHl, .inr (7, [.int 3, .int 0, .ref bW, .ref bA, .ref bE, .ref bC, .int 0, .null, .int 0, .int 0, .int 0])), (aFc, .inl (cF, 6, .inl fF2_21)), (dr, .inl (cD, 36, .inl fD2_22)), (tO, .inl (cTO, 3, .inr (.inr (.inr (.inr (fun i => if i < 3 then some (rt i) else none)))))), ((rt 0), .inl (cT, 36, .inr (.inl f02_23)))] H := hP
          have hD : va_D A [(h0, .inr (13, [.ref sc, .ref kp, .int 0, .ref bl, .ref go, .ref ch, .ref bo])), ((rt 1), .inl (cT, 36, .inr (.inl f1))), ((rt 2), .inl (cT, 36, .inr (.inl f2))), (hO, .inl (cHO, 8, .inr (.inr (.inr (.inr (fun i => if i < 8 then some (rh i) else none)))))), ((rh 0), .inl (cH, 36, .inl g0)), ((rh 1), .inl (cH, 36, .inl g1)), ((rh 2), .inl (cH, 36, .inl g2)), ((rh 3), .inl (cH, 36, .inl g3)), ((rh 4), .inl (cH, 36, .inl g4)), ((rh 5), .inl (cH, 36, .inl g5)), ((rh 6), .inl (cH, 36, .inl g6)), ((rh 7), .inl (cH, 36, .inl g7)), (ch, .inr (2, [.long 0, .int 0, .ref dr, .ref tO, .ref hO])), (sc, .inr (10, [.ref aTp, .int 0, .ref aHl, .int 0, .long 0, .int 0, .int 0, .ref aHs, .int 0, .ref aWk, .int 0, .ref aBk, .int 0, .ref aFc])), (aHl, .inr (7, [.int 3, .int 0, .ref bW, .ref bA, .ref bE, .ref bC, .int 0, .null, .int 0, .int 0, .int 0])), (aFc, .inl (cF, 6, .inl fF2_21)), (dr, .inl (cD, 36, .inl fD2_22)), (tO, .inl (cTO, 3, .inr (.inr (.inr (.inr (fun i => if i < 3 then some (rt i) else none)))))), ((rt 0), .inl (cT, 36, .inr (.inl f02_23)))] := hD
          have hK : va_K (dC, dI) vwCl [(cT, .long), (cT, .long), (cHO, .array .int), (cH, .int), (cH, .int), (cH, .int), (cH, .int), (cH, .int), (cH, .int), (cH, .int), (cH, .int), (cF, .int), (cD, .int), (cTO, .array .long), (cT, .long)] s := hK
          refine ql_as (y := lN (if jy_16 = jx_6 then 1 else 0)) (by rw [hw_20, hz_one' jy_16 (by omega) jx_6 (by omega)]; by_cases q : jy_16 = jx_6 <;> simp [q] <;> rfl) ?_
          refine lv_lstore (lv' := [(6, .long (lN (if jy_16 = jx_6 then 1 else 0))), (4, .long ((1 : Int64) <<< ((nI jy_16).toInt64 &&& 63))), (0, .ref h0), (1, .int (nI jx_6)), (2, .int (nI jy_16)), (3, .int z)]) hx hb dX11_odds_119 hl (by decide) rfl (fun ls hl => ?_)
          refine lv_lload hx hb dX11_odds_121 (lv_at hl 0 rfl) ?_
          refine lv_aload_n hx hb dX11_odds_123 rfl (lv_at hl 2 rfl) ?_
          refine va_get (D := (dC, dI)) (ci := 13) (v := .ref sc) (C := RX11) (T := TX11) (N := 7) hx hb hts kc_xOdds_1 hown hK hP 0 rfl rfl 0 (by decide) (hts (.fieldLink RX11 14 "MistHeaps" "scene" "LMistHeaps$Scene;") kc_xOdds_3) (fun _ h9 => h9) rfl dX11_odds_124 ?_
          refine va_get (D := (dC, dI)) (ci := 10) (v := .int 0) (C := RX8) (T := TX8) (N := 14) hx hb hts kc_xOdds_4 hown hK hP 13 rfl rfl 10 (by decide) (hts (.fieldLink RX11 169 "MistHeaps$Scene" "walkSize" "I") kc_xOdds_5) (fun _ h9 => h9) rfl dX11_odds_127 ?_
          refine vp_callSl (va_runS (As := [.int 0]) (rest := [.long (lN (if jy_16 = jx_6 then 1 else 0))]) ⟨hx, hb, hml, hown, hts⟩ (c_timesOf l dC dI 0 (by omega)) (va_cwS 1 hts gX11_odds_X0_timesOf rfl rfl rfl (by decide +kernel) ⟨Nat.le_of_ble_eq_true rfl, Nat.le_of_ble_eq_true rfl⟩) ⟨fun a U g mk q => ⟨q.1, trivial⟩, fun U hU hW => ⟨rfl, trivial⟩⟩ rfl rfl hl.1 rfl (lv_room (Nat.le_of_ble_eq_true rfl)) dX11_odds_130 ⟨Nat.le_of_ble_eq_true rfl, Nat.le_of_ble_eq_true rfl⟩).run (fun r_24 hw_25 => ?_)
          refine ql_as (y := lN 1) (hw_25) ?_
          refine lv_iload_n hx hb dX11_odds_133 rfl (lv_at hl 5 rfl) ?_
          refine vp_callSl (va_runS (As := [.long (lN (if jy_16 = jx_6 then 1 else 0)), .long (lN 1), .int z]) (rest := []) ⟨hx, hb, hml, hown, hts⟩ (c_partOf l dC dI (if jy_16 = jx_6 then 1 else 0) 1 z (by (try split) <;> omega) (by omega) (by omega) (Nat.mod_one _)) (va_cwS 3 hts gX11_odds_X11_partOf rfl rfl rfl (by decide +kernel) ⟨Nat.le_of_ble_eq_true rfl, Nat.le_of_ble_eq_true rfl⟩) ⟨fun a U g mk q => ⟨q.1, trivial⟩, fun U hU hW => ⟨rfl, trivial⟩⟩ rfl rfl hl.1 rfl (lv_room (Nat.le_of_ble_eq_true rfl)) dX11_odds_134 ⟨Nat.le_of_ble_eq_true rfl, Nat.le_of_ble_eq_true rfl⟩).run (fun r_26 hw_27 => ?_)
          rw [hQ]
          exact W.lret (v := r_26) hx hb hr (fun tQ htQ hWQ => ⟨⟨r_26, (), rfl, by have e1 : ¬ nI jy_16 = 40 := fun q => absurd ((nI_eq (a := jy_16) (b := 40) (by omega) (by omega)).mp q) (by omega); have e2 : (nI jx_6 = nI jy_16) ↔ jy_16 = jx_6 := ⟨fun q => ((nI_eq (by omega) (by omega)).mp q).symm, fun q => by rw [q]⟩; rw [hw_27, Nat.div_one]; simp only [f_odds, e2]; (repeat' split) <;> first | contradiction | rfl | (simp only [← Int32.not_lt] at *; simp_all), trivial⟩, hS.F htQ⟩) hS.2.2 dX11_odds_137
        · skip
          refine lv_if_eq (tgt := 35) hx hb dX11_odds_24 (by decide) (fun _ => ?_) (fun c_28 => absurd c_28 (by decide))
          refine lv_iload_n hx hb dX11_odds_35 rfl (lv_at hl 2 rfl) ?_
          refine lv_bipush (v := 40) hx hb dX11_odds_36 (by decide) ?_
          refine lv_icmp_ne (tgt := 53) hx hb dX11_odds_38 (by decide) (fun c_29 => ?_) (fun c_29 => ?_)
          · skip
            refine lv_iload_n hx hb dX11_odds_53 rfl (lv_at hl 2 rfl) ?_
            refine lv_bipush (v := 50) hx hb dX11_odds_54 (by decide) ?_
            refine lv_icmp_lt (tgt := 101) hx hb dX11_odds_56 (by decide) (fun c_30 => ?_) (fun c_30 => ?_)
            · skip
              refine lv_ldc2 (v := (-9223372036854775808)) hx hb hown (hts (.constantLong RX11 139 (-9223372036854775808)) kc_xOdds_0) dX11_odds_101 ?_
              rw [hQ]
              exact W.lret (v := (-9223372036854775808)) hx hb hr (fun tQ htQ hWQ => ⟨⟨(-9223372036854775808), (), rfl, by simp only [f_odds, tA1, tA2, tA3, tB1, tB2, tB3, if_false]; (repeat' split) <;> first | contradiction | with_reducible rfl | (simp_all; done) | (simp only [← Int32.not_lt] at *; simp_all), trivial⟩, hS.F htQ⟩) hS.2.2 dX11_odds_104
            · skip
              refine lv_iload_n hx hb dX11_odds_59 rfl (lv_at hl 2 rfl) ?_
              refine lv_bipush (v := 50) hx hb dX11_odds_60 (by decide) ?_
              refine lv_isub hx hb dX11_odds_62 ?_
              refine lv_aload_n hx hb dX11_odds_63 rfl (lv_at hl 0 rfl) ?_
              refine va_get (D := (dC, dI)) (ci := 13) (v := .ref sc) (C := RX11) (T := TX11) (N := 7) hx hb hts kc_xOdds_1 hown hK hP 0 rfl rfl 0 (by decide) (hts (.fieldLink RX11 14 "MistHeaps" "scene" "LMistHeaps$Scene;") kc_xOdds_3) (fun _ h9 => h9) rfl dX11_odds_64 ?_
              refine va_get (D := (dC, dI)) (ci := 10) (v := .int 0) (C := RX8) (T := TX8) (N := 14) hx hb hts kc_xOdds_4 hown hK hP 1 rfl rfl 8 (by decide) (hts (.fieldLink RX11 101 "MistHeaps$Scene" "heapCount" "I") kc_xOdds_6) (fun _ h9 => h9) rfl dX11_odds_67 ?_
              refine lv_icmp_ge (tgt := 101) hx hb dX11_odds_70 (by decide) (fun c_31 => ?_) (fun c_31 => absurd c_31 (not_not_intro (y50 (by assumption))))
              refine lv_ldc2 (v := (-9223372036854775808)) hx hb hown (hts (.constantLong RX11 139 (-9223372036854775808)) kc_xOdds_0) dX11_odds_101 ?_
              rw [hQ]
              exact W.lret (v := (-9223372036854775808)) hx hb hr (fun tQ htQ hWQ => ⟨⟨(-9223372036854775808), (), rfl, by simp only [f_odds, tA1, tA2, tA3, tB1, tB2, tB3, if_false]; (repeat' split) <;> first | contradiction | with_reducible rfl | (simp_all; done) | (simp only [← Int32.not_lt] at *; simp_all), trivial⟩, hS.F htQ⟩) hS.2.2 dX11_odds_104
          · skip
            subst c_29
            refine lv_aload_n hx hb dX11_odds_41 rfl (lv_at hl 0 rfl) ?_
            refine va_get (D := (dC, dI)) (ci := 13) (v := .ref sc) (C := RX11) (T := TX11) (N := 7) hx hb hts kc_xOdds_1 hown hK hP 0 rfl rfl 0 (by decide) (hts (.fieldLink RX11 14 "MistHeaps" "scene" "LMistHeaps$Scene;") kc_xOdds_3) (fun _ h9 => h9) rfl dX11_odds_42 ?_
            refine va_get (D := (dC, dI)) (ci := 10) (v := .long 0) (C := RX8) (T := TX8) (N := 14) hx hb hts kc_xOdds_4 hown hK hP 1 rfl rfl 4 (by decide) (hts (.fieldLink RX11 73 "MistHeaps$Scene" "edges" "J") kc_xOdds_7) (fun _ h9 => h9) rfl dX11_odds_45 ?_
            refine lv_lstore (lv' := [(4, .long 0), (0, .ref h0), (1, .int (nI jx_6)), (2, .int 40), (3, .int z)]) hx hb dX11_odds_48 hl (by decide) rfl (fun ls hl => ?_)
            refine lv_goto (tgt := 105) hx hb dX11_odds_50 (by decide) ?_
            refine lv_aload_n hx hb dX11_odds_105 rfl (lv_at hl 1 rfl) ?_
            refine va_get (D := (dC, dI)) (ci := 13) (v := .ref ch) (C := RX11) (T := TX11) (N := 7) hx hb hts kc_xOdds_1 hown hK hP 0 rfl rfl 5 (by decide) (hts (.fieldLink RX11 42 "MistHeaps" "chances" "LMistHeaps$Chances;") kc_xOdds_2) (fun _ h9 => h9) rfl dX11_odds_106 ?_
            refine lv_aload_n hx hb dX11_odds_109 rfl (lv_at hl 1 rfl) ?_
            refine va_get (D := (dC, dI)) (ci := 13) (v := .ref sc) (C := RX11) (T := TX11) (N := 7) hx hb hts kc_xOdds_1 hown hK hP 0 rfl rfl 0 (by decide) (hts (.fieldLink RX11 14 "MistHeaps" "scene" "LMistHeaps$Scene;") kc_xOdds_3) (fun _ h9 => h9) rfl dX11_odds_110 ?_
            refine lv_iload_n hx hb dX11_odds_113 rfl (lv_at hl 2 rfl) ?_
            refine lv_lload hx hb dX11_odds_114 (lv_at hl 0 rfl) ?_
            have hPc := hP.sub (ws' := [(ch, .inr (2, [.long 0, .int 0, .ref dr, .ref tO, .ref hO])), (sc, .inr (10, [.ref aTp, .int 0, .ref aHl, .int 0, .long 0, .int 0, .int 0, .ref aHs, .int 0, .ref aWk, .int 0, .ref aBk, .int 0, .ref aFc])), (aHl, .inr (7, [.int 3, .int 0, .ref bW, .ref bA, .ref bE, .ref bC, .int 0, .null, .int 0, .int 0, .int 0])), (aFc, .inl (cF, 6, .inl fF)), (dr, .inl (cD, 36, .inl fD)), (tO, .inl (cTO, 3, .inr (.inr (.inr (.inr (fun i => if i < 3 then some (rt i) else none)))))), ((rt 0), .inl (cT, 36, .inr (.inl f0)))]) [4, 1, 2, 3, 5, 6, 7] rfl
            have hDc := hD.sub (ws' := [(ch, .inr (2, [.long 0, .int 0, .ref dr, .ref tO, .ref hO])), (sc, .inr (10, [.ref aTp, .int 0, .ref aHl, .int 0, .long 0, .int 0, .int 0, .ref aHs, .int 0, .ref aWk, .int 0, .ref aBk, .int 0, .ref aFc])), (aHl, .inr (7, [.int 3, .int 0, .ref bW, .ref bA, .ref bE, .ref bC, .int 0, .null, .int 0, .int 0, .int 0])), (aFc, .inl (cF, 6, .inl fF)), (dr, .inl (cD, 36, .inl fD)), (tO, .inl (cTO, 3, .inr (.inr (.inr (.inr (fun i => if i < 3 then some (rt i) else none)))))), ((rt 0), .inl (cT, 36, .inr (.inl f0)))]) [4, 1, 2, 3, 5, 6, 7] (by decide) rfl
            have hKc := hK.sub (tys' := [(cF, .int), (cD, .int), (cTO, .array .long), (cT, .long)]) [0, 1, 2, 3] rfl
            have hFc := va_free (wc := [(ch, .inr (2, [.long 0, .int 0, .ref dr, .ref tO, .ref hO])), (sc, .inr (10, [.ref aTp, .int 0, .ref aHl, .int 0, .long 0, .int 0, .int 0, .ref aHs, .int 0, .ref aWk, .int 0, .ref aBk, .int 0, .ref aFc])), (aHl, .inr (7, [.int 3, .int 0, .ref bW, .ref bA, .ref bE, .ref bC, .int 0, .null, .int 0, .int 0, .int 0])), (aFc, .inl (cF, 6, .inl fF)), (dr, .inl (cD, 36, .inl fD)), (tO, .inl (cTO, 3, .inr (.inr (.inr (.inr (fun i => if i < 3 then some (rt i) else none)))))), ((rt 0), .inl (cT, 36, .inr (.inl f0)))]) hD hS hA [4, 1, 2, 3, 5, 6, 7] rfl
            refine va_calll (va_runV (As := [.ref sc, .int (nI jx_6), .long 0]) (rest := []) ⟨hx, hb, hml, hown, hts⟩ (c_walked0 l dC dI gd ch dr tO hO 0 0 rt rh cD cTO cHO cT cH sc aTp aHl aHs aWk aBk aFc bW bA bE bC cF fF fD f0 jx_6 0 H.size (by omega)) (cwV 3 hts gX11_odds_X0_walked rfl rfl rfl (by decide +kernel) ⟨Nat.le_of_ble_eq_true rfl, Nat.le_of_ble_eq_true rfl⟩) ⟨fun a U g mk q => by obtain ⟨q0, q1, qP, qK, qD, qhG⟩ := q; exact ⟨q0, q1, qP, va_K.moved (u := U) (U := U.calling g mk a) (Vm.Alike.refl U.vm) qK, qD, qhG.same rfl rfl⟩, va_recv hK hP (ci := 2) (q0 := 4) rfl rfl, fun U hU hW => ⟨rfl, by rw [hU], by rw [hU]; exact hPc, va_K.moved hW.alike hKc, hDc.weaken (fun _ _ _ _ => trivial), hG.call hS hU hW (fun q h => hFc q h)⟩⟩ rfl rfl hl.1 rfl (lv_room (Nat.le_of_ble_eq_true rfl)) dX11_odds_116 ⟨Nat.le_of_ble_eq_true rfl, Nat.le_of_ble_eq_true rfl⟩) hS (fun q _ h => hFc q h) hFc (fun r_32 u tC H1 locs htC hvm hw_33 hB hz1 hk1 hS => ?_)
            obtain ⟨fF2_34, fD2_35, f02_36⟩ := u
            try dsimp only at hw_33 hB
            obtain ⟨hP1, hK1, hD1⟩ := hB
            rw [htC] at hP1
            have hK1 := va_K.moved hvm.symm hK1
            obtain ⟨hP, hD⟩ := va_join (wr := [(h0, .inr (13, [.ref sc, .ref kp, .int 0, .ref bl, .ref go, .ref ch, .ref bo])), ((rt 1), .inl (cT, 36, .inr (.inl f1))), ((rt 2), .inl (cT, 36, .inr (.inl f2))), (hO, .inl (cHO, 8, .inr (.inr (.inr (.inr (fun i => if i < 8 then some (rh i) else none)))))), ((rh 0), .inl (cH, 36, .inl g0)), ((rh 1), .inl (cH, 36, .inl g1)), ((rh 2), .inl (cH, 36, .inl g2)), ((rh 3), .inl (cH, 36, .inl g3)), ((rh 4), .inl (cH, 36, .inl g4)), ((rh 5), .inl (cH, 36, .inl g5)), ((rh 6), .inl (cH, 36, .inl g6)), ((rh 7), .inl (cH, 36, .inl g7))]) (w1 := [(ch, .inr (2, [.long 0, .int 0, .ref dr, .ref tO, .ref hO])), (sc, .inr (10, [.ref aTp, .int 0, .ref aHl, .int 0, .long 0, .int 0, .int 0, .ref aHs, .int 0, .ref aWk, .int 0, .ref aBk, .int 0, .ref aFc])), (aHl, .inr (7, [.int 3, .int 0, .ref bW, .ref bA, .ref bE, .ref bC, .int 0, .null, .int 0, .int 0, .int 0])), (aFc, .inl (cF, 6, .inl fF2_34)), (dr, .inl (cD, 36, .inl fD2_35)), (tO, .inl (cTO, 3, .inr (.inr (.inr (.inr (fun i => if i < 3 then some (rt i) else none)))))), ((rt 0), .inl (cT, 36, .inr (.inl f02_36)))]) hP hD [4, 1, 2, 3, 5, 6, 7] [0, 8, 9, 10, 11, 12, 13, 14, 15, 16, 17, 18] rfl rfl (by decide) (by decide) hk1 hFc hP1 hD1
            have hK := (hK.sub (tys' := [(cT, .long), (cT, .long), (cHO, .array .int), (cH, .int), (cH, .int), (cH, .int), (cH, .int), (cH, .int), (cH, .int), (cH, .int), (cH, .int)]) [4, 5, 6, 7, 8, 9, 10, 11, 12, 13, 14] rfl).app hK1
            generalize H1 = H at hP hS ⊢
            have hP : va_P (dC, dI) vwCl [(h0, .inr (13, [.ref sc, .ref kp, .int 0, .ref bl, .ref go, .ref ch, .ref bo])), ((rt 1), .inl (cT, 36, .inr (.inl f1))), ((rt 2), .inl (cT, 36, .inr (.inl f2))), (hO, .inl (cHO, 8, .inr (.inr (.inr (.inr (fun i => if i < 8 then some (rh i) else none)))))), ((rh 0), .inl (cH, 36, .inl g0)), ((rh 1), .inl (cH, 36, .inl g1)), ((rh 2), .inl (cH, 36, .inl g2)), ((rh 3), .inl (cH, 36, .inl g3)), ((rh 4), .inl (cH, 36, .inl g4)), ((rh 5), .inl (cH, 36, .inl g5)), ((rh 6), .inl (cH, 36, .inl g6)), ((rh 7), .inl (cH, 36, .inl g7)), (ch, .inr (2, [.long 0, .int 0, .ref dr, .ref tO, .ref hO])), (sc, .inr (10, [.ref aTp, .int 0, .ref aHl, .int 0, .long 0, .int 0, .int 0, .ref aHs, .int 0, .ref aWk, .int 0, .ref aBk, .int 0, .ref aFc])), (aHl, .inr (7, [.int 3, .int 0, .ref bW, .ref bA, .ref bE, .ref bC, .int 0, .null, .int 0, .int 0, .int 0])), (aFc, .inl (cF, 6, .inl fF2_34)), (dr, .inl (cD, 36, .inl fD2_35)), (tO, .inl (cTO, 3, .inr (.inr (.inr (.inr (fun i => if i < 3 then some (rt i) else none)))))), ((rt 0), .inl (cT, 36, .inr (.inl f02_36)))] H := hP
            have hD : va_D A [(h0, .inr (13, [.ref sc, .ref kp, .int 0, .ref bl, .ref go, .ref ch, .ref bo])), ((rt 1), .inl (cT, 36, .inr (.inl f1))), ((rt 2), .inl (cT, 36, .inr (.inl f2))), (hO, .inl (cHO, 8, .inr (.inr (.inr (.inr (fun i => if i < 8 then some (rh i) else none)))))), ((rh 0), .inl (cH, 36, .inl g0)), ((rh 1), .inl (cH, 36, .inl g1)), ((rh 2), .inl (cH, 36, .inl g2)), ((rh 3), .inl (cH, 36, .inl g3)), ((rh 4), .inl (cH, 36, .inl g4)), ((rh 5), .inl (cH, 36, .inl g5)), ((rh 6), .inl (cH, 36, .inl g6)), ((rh 7), .inl (cH, 36, .inl g7)), (ch, .inr (2, [.long 0, .int 0, .ref dr, .ref tO, .ref hO])), (sc, .inr (10, [.ref aTp, .int 0, .ref aHl, .int 0, .long 0, .int 0, .int 0, .ref aHs, .int 0, .ref aWk, .int 0, .ref aBk, .int 0, .ref aFc])), (aHl, .inr (7, [.int 3, .int 0, .ref bW, .ref bA, .ref bE, .ref bC, .int 0, .null, .int 0, .int 0, .int 0])), (aFc, .inl (cF, 6, .inl fF2_34)), (dr, .inl (cD, 36, .inl fD2_35)), (tO, .inl (cTO, 3, .inr (.inr (.inr (.inr (fun i => if i < 3 then some (rt i) else none)))))), ((rt 0), .inl (cT, 36, .inr (.inl f02_36)))] := hD
            have hK : va_K (dC, dI) vwCl [(cT, .long), (cT, .long), (cHO, .array .int), (cH, .int), (cH, .int), (cH, .int), (cH, .int), (cH, .int), (cH, .int), (cH, .int), (cH, .int), (cF, .int), (cD, .int), (cTO, .array .long), (cT, .long)] s := hK
            refine ql_as (y := lN (0)) (by rw [hw_33, hz_e0 jx_6 (by omega)]; rfl) ?_
            refine lv_lstore (lv' := [(6, .long (lN (0))), (4, .long 0), (0, .ref h0), (1, .int (nI jx_6)), (2, .int 40), (3, .int z)]) hx hb dX11_odds_119 hl (by decide) rfl (fun ls hl => ?_)
            refine lv_lload hx hb dX11_odds_121 (lv_at hl 0 rfl) ?_
            refine lv_aload_n hx hb dX11_odds_123 rfl (lv_at hl 2 rfl) ?_
            refine va_get (D := (dC, dI)) (ci := 13) (v := .ref sc) (C := RX11) (T := TX11) (N := 7) hx hb hts kc_xOdds_1 hown hK hP 0 rfl rfl 0 (by decide) (hts (.fieldLink RX11 14 "MistHeaps" "scene" "LMistHeaps$Scene;") kc_xOdds_3) (fun _ h9 => h9) rfl dX11_odds_124 ?_
            refine va_get (D := (dC, dI)) (ci := 10) (v := .int 0) (C := RX8) (T := TX8) (N := 14) hx hb hts kc_xOdds_4 hown hK hP 13 rfl rfl 10 (by decide) (hts (.fieldLink RX11 169 "MistHeaps$Scene" "walkSize" "I") kc_xOdds_5) (fun _ h9 => h9) rfl dX11_odds_127 ?_
            refine vp_callSl (va_runS (As := [.int 0]) (rest := [.long (lN (0))]) ⟨hx, hb, hml, hown, hts⟩ (c_timesOf l dC dI 0 (by omega)) (va_cwS 1 hts gX11_odds_X0_timesOf rfl rfl rfl (by decide +kernel) ⟨Nat.le_of_ble_eq_true rfl, Nat.le_of_ble_eq_true rfl⟩) ⟨fun a U g mk q => ⟨q.1, trivial⟩, fun U hU hW => ⟨rfl, trivial⟩⟩ rfl rfl hl.1 rfl (lv_room (Nat.le_of_ble_eq_true rfl)) dX11_odds_130 ⟨Nat.le_of_ble_eq_true rfl, Nat.le_of_ble_eq_true rfl⟩).run (fun r_37 hw_38 => ?_)
            refine ql_as (y := lN 1) (hw_38) ?_
            refine lv_iload_n hx hb dX11_odds_133 rfl (lv_at hl 5 rfl) ?_
            refine vp_callSl (va_runS (As := [.long (lN (0)), .long (lN 1), .int z]) (rest := []) ⟨hx, hb, hml, hown, hts⟩ (c_partOf l dC dI (0) 1 z (by (try split) <;> omega) (by omega) (by omega) (Nat.mod_one _)) (va_cwS 3 hts gX11_odds_X11_partOf rfl rfl rfl (by decide +kernel) ⟨Nat.le_of_ble_eq_true rfl, Nat.le_of_ble_eq_true rfl⟩) ⟨fun a U g mk q => ⟨q.1, trivial⟩, fun U hU hW => ⟨rfl, trivial⟩⟩ rfl rfl hl.1 rfl (lv_room (Nat.le_of_ble_eq_true rfl)) dX11_odds_134 ⟨Nat.le_of_ble_eq_true rfl, Nat.le_of_ble_eq_true rfl⟩).run (fun r_39 hw_40 => ?_)
            rw [hQ]
            exact W.lret (v := r_39) hx hb hr (fun tQ htQ hWQ => ⟨⟨r_39, (), rfl, by rw [hw_40]; simp only [f_odds]; (repeat' split) <;> first | contradiction | rfl | (simp only [← Int32.not_lt] at *; simp_all), trivial⟩, hS.F htQ⟩) hS.2.2 dX11_odds_137
      · skip
        rw [Int32.not_le] at c_10
        refine lv_ldc2 (v := (-9223372036854775808)) hx hb hown (hts (.constantLong RX11 139 (-9223372036854775808)) kc_xOdds_0) dX11_odds_16 ?_
        rw [hQ]
        exact W.lret (v := (-9223372036854775808)) hx hb hr (fun tQ htQ hWQ => ⟨⟨(-9223372036854775808), (), rfl, by simp only [f_odds, tA1, tA2, tA3, tB1, tB2, tB3, if_false]; (repeat' split) <;> first | contradiction | with_reducible rfl | (simp_all; done) | (simp only [← Int32.not_lt] at *; simp_all), trivial⟩, hS.F htQ⟩) hS.2.2 dX11_odds_19
  · skip
    refine lv_if_eq (tgt := 16) hx hb dX11_odds_4 (by decide) (fun _ => ?_) (fun c_41 => absurd c_41 (by decide))
    refine lv_ldc2 (v := (-9223372036854775808)) hx hb hown (hts (.constantLong RX11 139 (-9223372036854775808)) kc_xOdds_0) dX11_odds_16 ?_
    rw [hQ]
    exact W.lret (v := (-9223372036854775808)) hx hb hr (fun tQ htQ hWQ => ⟨⟨(-9223372036854775808), (), rfl, by simp only [f_odds, tA1, tA2, tA3, tB1, tB2, tB3, if_false]; (repeat' split) <;> first | contradiction | with_reducible rfl | (simp_all; done) | (simp only [← Int32.not_lt] at *; simp_all), trivial⟩, hS.F htQ⟩) hS.2.2 dX11_odds_19
