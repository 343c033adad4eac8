theorem dX12_odds_0 : decode cX12_odds 0 = .ok (.iload_n 2, 1) := by decide +kernel
theorem dX12_odds_1 : decode cX12_odds 1 = .ok (.bipush 50, 2) := by decide +kernel
theorem dX12_odds_3 : decode cX12_odds 3 = .ok (.if_icmp .lt 18, 3) := by decide +kernel
theorem dX12_odds_21 : decode cX12_odds 21 = .ok (.iconst 0, 1) := by decide +kernel
theorem dX12_odds_22 : decode cX12_odds 22 = .ok (.istore 4, 2) := by decide +kernel
theorem dX12_odds_24 : decode cX12_odds 24 = .ok (.iload_n 1, 1) := by decide +kernel
set_option maxRecDepth 20000 in
theorem ggX12_odds_X12_isCell : GoodIn wsX12_odds wsX12_isCell := goodIn_r _ [14, 9, 10, 7, 11] (by decide +kernel) (by decide +kernel)
set_option maxRecDepth 20000 in
theorem gX12_odds_X12_isCell : GoodIn wsX12_odds (va_wsS RX12 149 yX12_isCell wsX12_isCell) := goodIn_app (goodIn_of _ (by decide +kernel)) ggX12_odds_X12_isCell
theorem dX12_odds_25 : decode cX12_odds 25 = .ok (.invokestatic 149, 3) := by decide +kernel
theorem dX12_odds_28 : decode cX12_odds 28 = .ok (.ifCond .eq 30, 3) := by decide +kernel
theorem dX12_odds_31 : decode cX12_odds 31 = .ok (.iload_n 2, 1) := by decide +kernel
theorem dX12_odds_32 : decode cX12_odds 32 = .ok (.invokestatic 149, 3) := by decide +kernel
theorem dX12_odds_35 : decode cX12_odds 35 = .ok (.ifCond .ne 14, 3) := by decide +kernel
theorem dX12_odds_49 : decode cX12_odds 49 = .ok (.iload_n 3, 1) := by decide +kernel
theorem dX12_odds_50 : decode cX12_odds 50 = .ok (.iconst 0, 1) := by decide +kernel
theorem dX12_odds_51 : decode cX12_odds 51 = .ok (.iconst 1, 1) := by decide +kernel
set_option maxRecDepth 20000 in
theorem ggX12_odds_X12_in : GoodIn wsX12_odds wsX12_in := goodIn_r _ [11] (by decide +kernel) (by decide +kernel)
set_option maxRecDepth 20000 in
theorem gX12_odds_X12_in : GoodIn wsX12_odds (va_wsS RX12 45 yX12_in wsX12_in) := goodIn_app (goodIn_of _ (by decide +kernel)) ggX12_odds_X12_in
theorem dX12_odds_52 : decode cX12_odds 52 = .ok (.invokestatic 45, 3) := by decide +kernel
theorem dX12_odds_55 : decode cX12_odds 55 = .ok (.ifCond .ne 7, 3) := by decide +kernel
theorem dX12_odds_62 : decode cX12_odds 62 = .ok (.aload_n 0, 1) := by decide +kernel
set_option maxRecDepth 20000 in
theorem ggX12_odds_X12_looksForDrifts : GoodIn wsX12_odds wsX12_looksForDrifts := goodIn_r _ [18, 19, 20, 21, 22, 7, 23, 24, 25, 26, 27, 28, 29, 2, 30, 31, 83, 84, 85, 86, 87, 88, 89, 90, 91, 92, 93, 94, 95, 96, 97, 98, 99, 100, 101, 102, 103, 104, 105] (by decide +kernel) (by decide +kernel)
set_option maxRecDepth 20000 in
theorem gX12_odds_X12_looksForDrifts : GoodIn wsX12_odds (wsV RX12 209 RX12 yX12_looksForDrifts wsX12_looksForDrifts) := goodIn_app (goodIn_of _ (by decide +kernel)) ggX12_odds_X12_looksForDrifts
theorem dX12_odds_63 : decode cX12_odds 63 = .ok (.invokevirtual 209, 3) := by decide +kernel
theorem dX12_odds_66 : decode cX12_odds 66 = .ok (.aload_n 0, 1) := by decide +kernel
theorem dX12_odds_67 : decode cX12_odds 67 = .ok (.iload_n 1, 1) := by decide +kernel
set_option maxRecDepth 20000 in
theorem ggX12_odds_X12_begins : GoodIn wsX12_odds wsX12_begins := goodIn_r _ [35, 3, 83, 84, 85, 86, 87, 88, 89, 90, 91, 92, 93, 94, 95, 96, 97, 98, 99, 100, 101, 102, 103, 104, 105] (by decide +kernel) (by decide +kernel)
set_option maxRecDepth 20000 in
theorem gX12_odds_X12_begins : GoodIn wsX12_odds (wsV RX12 212 RX12 yX12_begins wsX12_begins) := goodIn_app (goodIn_of _ (by decide +kernel)) ggX12_odds_X12_begins
theorem dX12_odds_68 : decode cX12_odds 68 = .ok (.invokevirtual 212, 3) := by decide +kernel
theorem dX12_odds_71 : decode cX12_odds 71 = .ok (.iconst 0, 1) := by decide +kernel
theorem dX12_odds_72 : decode cX12_odds 72 = .ok (.istore 5, 2) := by decide +kernel
theorem dX12_odds_74 : decode cX12_odds 74 = .ok (.iload 5, 2) := by decide +kernel
theorem dX12_odds_76 : decode cX12_odds 76 = .ok (.aload_n 0, 1) := by decide +kernel
theorem dX12_odds_77 : decode cX12_odds 77 = .ok (.getfield 9, 3) := by decide +kernel
theorem dX12_odds_80 : decode cX12_odds 80 = .ok (.iconst 2, 1) := by decide +kernel
theorem dX12_odds_81 : decode cX12_odds 81 = .ok (.iaload, 1) := by decide +kernel
theorem dX12_odds_82 : decode cX12_odds 82 = .ok (.if_icmp .ge 23, 3) := by decide +kernel
theorem dX12_odds_105 : decode cX12_odds 105 = .ok (.iload 4, 2) := by decide +kernel
theorem dX12_odds_107 : decode cX12_odds 107 = .ok (.ifCond .eq 14, 3) := by decide +kernel
theorem dX12_odds_121 : decode cX12_odds 121 = .ok (.iload_n 2, 1) := by decide +kernel
theorem dX12_odds_122 : decode cX12_odds 122 = .ok (.bipush 40, 2) := by decide +kernel
theorem dX12_odds_124 : decode cX12_odds 124 = .ok (.if_icmp .ne 10, 3) := by decide +kernel
theorem dX12_odds_134 : decode cX12_odds 134 = .ok (.aload_n 0, 1) := by decide +kernel
theorem dX12_odds_135 : decode cX12_odds 135 = .ok (.getfield 28, 3) := by decide +kernel
theorem dX12_odds_138 : decode cX12_odds 138 = .ok (.iload_n 2, 1) := by decide +kernel
theorem dX12_odds_139 : decode cX12_odds 139 = .ok (.laload, 1) := by decide +kernel
theorem dX12_odds_140 : decode cX12_odds 140 = .ok (.lstore 5, 2) := by decide +kernel
theorem dX12_odds_142 : decode cX12_odds 142 = .ok (.lload 5, 2) := by decide +kernel
theorem dX12_odds_144 : decode cX12_odds 144 = .ok (.aload_n 0, 1) := by decide +kernel
theorem dX12_odds_145 : decode cX12_odds 145 = .ok (.getfield 9, 3) := by decide +kernel
theorem dX12_odds_148 : decode cX12_odds 148 = .ok (.iconst 2, 1) := by decide +kernel
theorem dX12_odds_149 : decode cX12_odds 149 = .ok (.iaload, 1) := by decide +kernel
set_option maxRecDepth 20000 in
theorem ggX12_odds_X12_twenties : GoodIn wsX12_odds wsX12_twenties := goodIn_r _ [79, 41] (by decide +kernel) (by decide +kernel)
set_option maxRecDepth 20000 in
theorem gX12_odds_X12_twenties : GoodIn wsX12_odds (va_wsS RX12 226 yX12_twenties wsX12_twenties) := goodIn_app (goodIn_of _ (by decide +kernel)) ggX12_odds_X12_twenties
theorem dX12_odds_150 : decode cX12_odds 150 = .ok (.invokestatic 226, 3) := by decide +kernel
theorem dX12_odds_153 : decode cX12_odds 153 = .ok (.iload_n 3, 1) := by decide +kernel
set_option maxRecDepth 20000 in
theorem ggX12_odds_X12_lowest : GoodIn wsX12_odds wsX12_lowest := goodIn_r _ [82] (by decide +kernel) (by decide +kernel)
set_option maxRecDepth 20000 in
theorem gX12_odds_X12_lowest : GoodIn wsX12_odds (va_wsS RX12 229 yX12_lowest wsX12_lowest) := goodIn_app (goodIn_of _ (by decide +kernel)) ggX12_odds_X12_lowest
theorem dX12_odds_154 : decode cX12_odds 154 = .ok (.invokestatic 229, 3) := by decide +kernel
theorem dX12_odds_157 : decode cX12_odds 157 = .ok (.lreturn, 1) := by decide +kernel
theorem dX12_odds_58 : decode cX12_odds 58 = .ok (.ldc2_w 181, 3) := by decide +kernel
theorem dX12_odds_61 : decode cX12_odds 61 = .ok (.lreturn, 1) := by decide +kernel
theorem dX12_odds_38 : decode cX12_odds 38 = .ok (.iload_n 2, 1) := by decide +kernel
theorem dX12_odds_39 : decode cX12_odds 39 = .ok (.bipush 40, 2) := by decide +kernel
theorem dX12_odds_41 : decode cX12_odds 41 = .ok (.if_icmp .eq 8, 3) := by decide +kernel
theorem dX12_odds_127 : decode cX12_odds 127 = .ok (.aload_n 0, 1) := by decide +kernel
set_option maxRecDepth 20000 in
theorem ggX12_odds_X12_over : GoodIn wsX12_odds wsX12_over := goodIn_r _ [76, 2, 3, 83, 84, 85, 86, 87, 88, 89, 90, 91, 92, 93, 94, 95, 96, 97, 98, 99, 100, 101, 102, 103, 104, 105] (by decide +kernel) (by decide +kernel)
set_option maxRecDepth 20000 in
theorem gX12_odds_X12_over : GoodIn wsX12_odds (wsV RX12 222 RX12 yX12_over wsX12_over) := goodIn_app (goodIn_of _ (by decide +kernel)) ggX12_odds_X12_over
theorem dX12_odds_128 : decode cX12_odds 128 = .ok (.invokevirtual 222, 3) := by decide +kernel
theorem dX12_odds_131 : decode cX12_odds 131 = .ok (.goto 9, 3) := by decide +kernel
theorem dX12_odds_44 : decode cX12_odds 44 = .ok (.iload 4, 2) := by decide +kernel
theorem dX12_odds_46 : decode cX12_odds 46 = .ok (.ifCond .eq 12, 3) := by decide +kernel
theorem dX12_odds_6 : decode cX12_odds 6 = .ok (.aload_n 0, 1) := by decide +kernel
theorem dX12_odds_7 : decode cX12_odds 7 = .ok (.iload_n 2, 1) := by decide +kernel
theorem dX12_odds_8 : decode cX12_odds 8 = .ok (.bipush 50, 2) := by decide +kernel
theorem dX12_odds_10 : decode cX12_odds 10 = .ok (.isub, 1) := by decide +kernel
set_option maxRecDepth 20000 in
theorem ggX12_odds_X12_isHeap : GoodIn wsX12_odds wsX12_isHeap := goodIn_r _ [8, 2, 9, 10, 7, 11, 83, 84, 85, 86, 87, 88, 89, 90, 91, 92, 93, 94, 95, 96, 97, 98, 99, 100, 101, 102, 103, 104, 105] (by decide +kernel) (by decide +kernel)
set_option maxRecDepth 20000 in
theorem gX12_odds_X12_isHeap : GoodIn wsX12_odds (wsV RX12 164 RX12 yX12_isHeap wsX12_isHeap) := goodIn_app (goodIn_of _ (by decide +kernel)) ggX12_odds_X12_isHeap
theorem dX12_odds_11 : decode cX12_odds 11 = .ok (.invokevirtual 164, 3) := by decide +kernel
theorem dX12_odds_14 : decode cX12_odds 14 = .ok (.ifCond .eq 7, 3) := by decide +kernel
theorem dX12_goesBy_0 : decode cX12_goesBy 0 = .ok (.aload_n 0, 1) := by decide +kernel
theorem dX12_goesBy_1 : decode cX12_goesBy 1 = .ok (.iload_n 1, 1) := by decide +kernel
set_option maxRecDepth 20000 in
theorem ggX12_goesBy_X12_begins : GoodIn wsX12_goesBy wsX12_begins := goodIn_r _ [5, 6, 27, 28, 29, 30, 31, 32, 33, 34, 35, 36, 37, 38, 39, 40, 41, 42, 43, 44, 45, 46, 47, 48, 49] (by decide +kernel) (by decide +kernel)
set_option maxRecDepth 20000 in
theorem gX12_goesBy_X12_begins : GoodIn wsX12_goesBy (wsV RX12 212 RX12 yX12_begins wsX12_begins) := goodIn_app (goodIn_of _ (by decide +kernel)) ggX12_goesBy_X12_begins
theorem dX12_goesBy_2 : decode cX12_goesBy 2 = .ok (.invokevirtual 212, 3) := by decide +kernel
theorem dX12_goesBy_5 : decode cX12_goesBy 5 = .ok (.iload_n 3, 1) := by decide +kernel
theorem dX12_goesBy_6 : decode cX12_goesBy 6 = .ok (.istore 4, 2) := by decide +kernel
theorem dX12_goesBy_8 : decode cX12_goesBy 8 = .ok (.iload 4, 2) := by decide +kernel
theorem dX12_goesBy_10 : decode cX12_goesBy 10 = .ok (.ifCond .le 50, 3) := by decide +kernel
theorem dX12_goesBy_13 : decode cX12_goesBy 13 = .ok (.iinc 4 (-1), 3) := by decide +kernel
theorem dX12_goesBy_16 : decode cX12_goesBy 16 = .ok (.iload 4, 2) := by decide +kernel
theorem dX12_goesBy_18 : decode cX12_goesBy 18 = .ok (.iconst 2, 1) := by decide +kernel
theorem dX12_goesBy_19 : decode cX12_goesBy 19 = .ok (.if_icmp .ne 10, 3) := by decide +kernel
theorem dX12_goesBy_29 : decode cX12_goesBy 29 = .ok (.iload 4, 2) := by decide +kernel
theorem dX12_goesBy_31 : decode cX12_goesBy 31 = .ok (.iconst 1, 1) := by decide +kernel
theorem dX12_goesBy_32 : decode cX12_goesBy 32 = .ok (.if_icmp .ne 13, 3) := by decide +kernel
theorem dX12_goesBy_45 : decode cX12_goesBy 45 = .ok (.iload_n 2, 1) := by decide +kernel
theorem dX12_goesBy_46 : decode cX12_goesBy 46 = .ok (.bipush 8, 2) := by decide +kernel
theorem dX12_goesBy_48 : decode cX12_goesBy 48 = .ok (.irem, 1) := by decide +kernel
theorem dX12_goesBy_49 : decode cX12_goesBy 49 = .ok (.istore 5, 2) := by decide +kernel
theorem dX12_goesBy_51 : decode cX12_goesBy 51 = .ok (.aload_n 0, 1) := by decide +kernel
theorem dX12_goesBy_52 : decode cX12_goesBy 52 = .ok (.iload 5, 2) := by decide +kernel
set_option maxRecDepth 20000 in
theorem ggX12_goesBy_X12_goesOn : GoodIn wsX12_goesBy wsX12_goesOn := goodIn_r _ [10, 11, 6, 12, 13, 14, 15, 16, 4, 17, 18, 19, 20, 21, 22, 23, 24, 25, 26, 27, 28, 29, 30, 31, 32, 33, 34, 35, 36, 37, 38, 39, 40, 41, 42, 43, 44, 45, 46, 47, 48, 49] (by decide +kernel) (by decide +kernel)
set_option maxRecDepth 20000 in
theorem gX12_goesBy_X12_goesOn : GoodIn wsX12_goesBy (wsV RX12 215 RX12 yX12_goesOn wsX12_goesOn) := goodIn_app (goodIn_of _ (by decide +kernel)) ggX12_goesBy_X12_goesOn
theorem dX12_goesBy_54 : decode cX12_goesBy 54 = .ok (.invokevirtual 215, 3) := by decide +kernel
theorem dX12_goesBy_57 : decode cX12_goesBy 57 = .ok (.goto (-49), 3) := by decide +kernel
theorem dX12_goesBy_60 : decode cX12_goesBy 60 = .ok (.return_, 1) := by decide +kernel
theorem dX12_goesBy_35 : decode cX12_goesBy 35 = .ok (.iload_n 2, 1) := by decide +kernel
theorem dX12_goesBy_36 : decode cX12_goesBy 36 = .ok (.bipush 8, 2) := by decide +kernel
theorem dX12_goesBy_38 : decode cX12_goesBy 38 = .ok (.idiv, 1) := by decide +kernel
theorem dX12_goesBy_39 : decode cX12_goesBy 39 = .ok (.bipush 8, 2) := by decide +kernel
theorem dX12_goesBy_41 : decode cX12_goesBy 41 = .ok (.irem, 1) := by decide +kernel
theorem dX12_goesBy_42 : decode cX12_goesBy 42 = .ok (.goto 7, 3) := by decide +kernel
theorem dX12_goesBy_22 : decode cX12_goesBy 22 = .ok (.iload_n 2, 1) := by decide +kernel
theorem dX12_goesBy_23 : decode cX12_goesBy 23 = .ok (.bipush 64, 2) := by decide +kernel
theorem dX12_goesBy_25 : decode cX12_goesBy 25 = .ok (.idiv, 1) := by decide +kernel
theorem dX12_goesBy_26 : decode cX12_goesBy 26 = .ok (.goto 23, 3) := by decide +kernel
def f_odds (x y z : Int32) : Int64 := if x < 0 then -9223372036854775808 else if 35 < x then -9223372036854775808 else if z < 0 then -9223372036854775808 else if 1 < z then -9223372036854775808 else if y = 40 then (if z = 0 then 0 else 1) else if y < 0 then -9223372036854775808 else if 35 < y then -9223372036854775808 else if z = 0 then (if x = y then 1 else 0) else 1
def bwI (j o n k : Nat) : Int32 := nI (wy (GG (fun q => ind (pth n j q) n o) (8 ^ n)).2 n k)
def swI (n k : Nat) : Int32 := nI (wy (GG (fun _ => 0) (8 ^ n)).2 n k)
def f_best (x y n k : Int32) : Int32 := if x < 0 then -1 else if 35 < x then -1 else if y < 0 then -1 else if 35 < y then -1 else if k < 0 then -1 else if 2 < k then -1 else if n < 1 then -2 else if 3 < n then -2 else if k < n then bwI x.toNatClampNeg y.toNatClampNeg n.toNatClampNeg k.toNatClampNeg else -1
def f_bestOdds (x y n z : Int32) : Int64 := if x < 0 then -9223372036854775808 else if 35 < x then -9223372036854775808 else if y < 0 then -9223372036854775808 else if 35 < y then -9223372036854775808 else if n < 1 then -9223372036854775808 else if 3 < n then -9223372036854775808 else if z < 0 then -9223372036854775808 else if 1 < z then -9223372036854775808 else if z = 0 then (if (GG (fun q => ind (pth n.toNatClampNeg x.toNatClampNeg q) n.toNatClampNeg y.toNatClampNeg) (8 ^ n.toNatClampNeg)).1 = 0 then 0 else 1) else 1
def f_safe (x n k : Int32) : Int32 := if x < 0 then -1 else if 35 < x then -1 else if k < 0 then -1 else if 2 < k then -1 else if n < 1 then -2 else if 3 < n then -2 else if k < n then swI n.toNatClampNeg k.toNatClampNeg else -1
theorem three {n : Int32} (h1 : ¬ n < 1) (h2 : ¬ 3 < n) : n = 1 ∨ n = 2 ∨ n = 3 := by
  rw [i_lt] at h1 h2
  have e1 : (1 : Int32).toInt = 1 := rfl
  have e3 : (3 : Int32).toInt = 3 := rfl
  have : n.toInt = 1 ∨ n.toInt = 2 ∨ n.toInt = 3 := by omega
  rcases this with q | q | q
  · exact Or.inl (Int32.toInt_inj.mp q)
  · exact Or.inr (Or.inl (Int32.toInt_inj.mp q))
  · exact Or.inr (Or.inr (Int32.toInt_inj.mp q))
/-- the best value is one of the values -/
theorem GG_val (v : Nat → Int64) : ∀ k, 0 < k → (-1 : Int64) < v 0 → (GG v k).1 = v (GG v k).2
  | 0, h, _ => absurd h (Nat.lt_irrefl 0)
  | k + 1, _, h0 => by
    rcases Nat.eq_zero_or_pos k with q | q
    · subst q
      have : GG v 1 = (v 0, 0) := by
        show (if (-1 : Int64) < v 0 then (v 0, 0) else ((-1 : Int64), 0)) = _
        rw [if_pos h0]
      rw [this]
    · have ih := GG_val v k q h0
      show (if (GG v k).1 < v k then (v k, k) else GG v k).1 = v (if (GG v k).1 < v k then (v k, k) else GG v k).2
      split
      · rfl
      · exact ih
theorem best_val (n j o : Nat) (hn : 1 ≤ n) (hn3 : n ≤ 3) : ∃ a : Nat, (a = 0 ∨ a = 20 ^ n) ∧ (GG (fun q => ind (pth n j q) n o) (8 ^ n)).1 = lN a := by
  have h := GG_val (fun q => ind (pth n j q) n o) (8 ^ n) (Nat.pow_pos (by omega)) (ind_ge _ _ _ hn3)
  rw [h]
  show ∃ a : Nat, (a = 0 ∨ a = 20 ^ n) ∧ ind (pth n j _) n o = lN a
  unfold ind
  split
  · exact ⟨20 ^ n, Or.inr rfl, rfl⟩
  · exact ⟨0, Or.inl rfl, rfl⟩
theorem a_mod {a b : Nat} (h : a = 0 ∨ a = b) : a % b = 0 := by
  rcases h with rfl | rfl
  · exact Nat.zero_mod b
  · exact Nat.mod_self a
theorem p20 {n : Nat} (h1 : 1 ≤ n) (h3 : n ≤ 3) : 0 < 20 ^ n ∧ 20 ^ n < 2 ^ 62 := by
  have : n = 1 ∨ n = 2 ∨ n = 3 := by omega
  rcases this with rfl | rfl | rfl <;> decide
theorem bo_val {a n : Nat} (h1 : 1 ≤ n) (h3 : n ≤ 3) (h : a = 0 ∨ a = 20 ^ n) : lN (a / 20 ^ n) = if lN a = 0 then 0 else 1 := by
  have p := p20 h1 h3
  rcases h with rfl | rfl
  · rw [Nat.zero_div]; rfl
  · rw [Nat.div_self p.1, if_neg (fun q => absurd ((pk_lEQ (by omega) (by omega)).mp (q.trans (show (0 : Int64) = lN 0 from rfl))) (by omega))]; rfl

theorem kc_mHeapB_0 : ∀ w ∈ wsX120, w ∈ wsX12_isHeap := by decide +kernel
theorem kc_mHeapB_1 : (.fieldLink RX12 9 "MistHeapsModel" "s" "[I" : Cond) ∈ wsX12_isHeap := by decide +kernel
set_option maxHeartbeats 4000000 in
set_option maxRecDepth 100000 in
theorem c_mHeapB (l : Launch) (dC : Nat → ClassId) (dI : Nat → Nat → Nat) (m0 aS aI aB aT aG aO aN aD aY : Nat) (bv : Int64) (cS : ClassId) (h : Int32) : Met l yX12_isHeap wsX12_isHeap ({ frames := 1, cells := 0, slots := 0, locals := 22 } : Room) (va_Pc [.ref m0, .int h] (fun U => va_P (dC, dI) vwCl [(m0, .inr (14, [.int 0, .ref aS, .ref aI, .int 0, .int 0, .int 0, .int 0, .int 0, .int 0, .ref aB, .ref aT, .int 0, .int 0, .ref aG, .ref aO, .ref aN, .ref aD, .long bv, .ref aY, .int 0, .int 0, .int 0, .int 0])), (aS, .inl (cS, 901, .inl s0))] U.heap ∧ va_K (dC, dI) vwCl [(cS, .int)] U)) (vp_Si (fun r => r = 0)) 0 0 (fun _ => False) := by
  refine met_ofQ (cc := cX12_isHeap) (maxL := 2) (ret := (some .boolean)) (by decide) rfl ?_
  intro p e s m args below meth c s₁ Q B hml hv hQ
  obtain ⟨rfl, hP, hK⟩ := hv
  have hx := B.exec
  have hb := B.bytes
  have hr := B.returns
  have hts := atoms_spec (ws := wsX12_isHeap) B.pre
  have hown : s.vm.findClass RX12 = some m.cls := findClass_of_methodNamed B.named
  have hlocks := B.notSynchronized
  obtain ⟨A, hAe⟩ : ∃ A : Nat → Prop, A = fun _ => False := ⟨_, rfl⟩
  rw [← hAe] at hQ
  have hS : va_S A s.heap s.heap [] := va_S.rf
  have hl := lv_entry [.ref m0, .int h] (n := 2) (Nat.le_of_ble_eq_true rfl)
  rw [lg_entry_eq]
  generalize (lg_sl [.ref m0, .int h] ++ List.replicate (2 - (lg_sl [.ref m0, .int h]).length) Slot.unset).toArray = ls at hl ⊢
  generalize hag : ([.ref m0, .int h] : List Value).toArray = args at hts hQ ⊢
  have hl : lv_has ls 2 [(0, .ref m0), (1, .int h)] := hl
  refine lv_iload_n hx hb dX12_isHeap_0 rfl (lv_at hl 1 rfl) ?_
  refine lv_iconst (v := 0) hx hb dX12_isHeap_1 (by decide) ?_
  refine lv_aload_n hx hb dX12_isHeap_2 rfl (lv_at hl 0 rfl) ?_
  refine va_get (D := (dC, dI)) (ci := 14) (v := .ref aS) (C := RX12) (T := TX12) (N := 23) hx hb hts kc_mHeapB_0 hown hK hP 0 rfl rfl 1 (by decide) (hts (.fieldLink RX12 9 "MistHeapsModel" "s" "[I") kc_mHeapB_1) (fun _ h9 => h9) rfl dX12_isHeap_3 ?_
  refine lv_iconst (v := 0) hx hb dX12_isHeap_6 (by decide) ?_
  refine va_iald hx hb hK hP 1 0 rfl rfl (vp_in_nI (n := 0) (N := 901) (by omega) (by omega)) dX12_isHeap_7 ?_
  refine qi_as (y := 0) (rfl) ?_
  refine lv_iconst (v := 1) hx hb dX12_isHeap_8 (by decide) ?_
  refine lv_isub hx hb dX12_isHeap_9 ?_
  refine qi_as (y := (-1)) (by decide) ?_
  refine vp_callSi (va_runS (As := [.int h, .int 0, .int (-1)]) (rest := []) ⟨hx, hb, hml, hown, hts⟩ (c_in l dC dI h 0 (-1)) (va_cwS 3 hts gX12_isHeap_X12_in rfl rfl rfl (by decide +kernel) ⟨Nat.le_of_ble_eq_true rfl, Nat.le_of_ble_eq_true rfl⟩) ⟨fun a U g mk q => ⟨q.1, trivial⟩, fun U hU hW => ⟨rfl, trivial⟩⟩ rfl rfl hl.1 rfl (lv_room (Nat.le_of_ble_eq_true rfl)) dX12_isHeap_10 ⟨Nat.le_of_ble_eq_true rfl, Nat.le_of_ble_eq_true rfl⟩).run (fun r_1 hw_2 => ?_)
  have hw_2 : r_1 = 0 := by rcases hw_2 with ⟨_, h1, h2⟩ | ⟨h, _⟩ <;> first | exact (no_in h1 h2).elim | exact h
  subst hw_2
  rw [hQ]
  exact W.zret (v := 0) hx hb hr rfl (fun tQ htQ hWQ => ⟨0, rfl, rfl, by rw [htQ]⟩) (fun q hq => absurd hq List.not_mem_nil) dX12_isHeap_13

theorem kc_mOdds_0 : ∀ w ∈ wsX120, w ∈ wsX12_odds := by decide +kernel
theorem kc_mOdds_1 : (.fieldLink RX12 9 "MistHeapsModel" "s" "[I" : Cond) ∈ wsX12_odds := by decide +kernel
theorem kc_mOdds_2 : (.fieldLink RX12 28 "MistHeapsModel" "often" "[J" : Cond) ∈ wsX12_odds := by decide +kernel
theorem kc_mOdds_3 : (.constantLong RX12 181 (-9223372036854775808) : Cond) ∈ wsX12_odds := by decide +kernel
set_option maxHeartbeats 4000000 in
set_option maxRecDepth 100000 in
theorem c_mOdds (l : Launch) (dC : Nat → ClassId) (dI : Nat → Nat → Nat) (m0 aS aI aB aT aG aO aN aD aY : Nat) (bv : Int64) (cS cB cO cN cD : ClassId) (fB fD : Nat → Int32) (fO fN : Nat → Int64) (x y z : Int32) (sz : Nat) : Met l yX12_odds wsX12_odds ({ frames := 3, cells := 0, slots := 0, locals := 73 } : Room) (va_Pc [.ref m0, .int x, .int y, .int z] (fun U => U.heap.size = sz ∧ va_P (dC, dI) vwCl [(m0, .inr (14, [.int 0, .ref aS, .ref aI, .int 0, .int 0, .int 0, .int 0, .int 0, .int 0, .ref aB, .ref aT, .int 0, .int 0, .ref aG, .ref aO, .ref aN, .ref aD, .long bv, .ref aY, .int 0, .int 0, .int 0, .int 0])), (aS, .inl (cS, 901, .inl s0)), (aB, .inl (cB, 6, .inl fB)), (aO, .inl (cO, 36, .inr (.inl fO))), (aN, .inl (cN, 36, .inr (.inl fN))), (aD, .inl (cD, 36, .inl fD))] U.heap ∧ va_K (dC, dI) vwCl [(cS, .int), (cB, .int), (cO, .long), (cN, .long), (cD, .int)] U ∧ va_D (fun _ => True) [(m0, .inr (14, [.int 0, .ref aS, .ref aI, .int 0, .int 0, .int 0, .int 0, .int 0, .int 0, .ref aB, .ref aT, .int 0, .int 0, .ref aG, .ref aO, .ref aN, .ref aD, .long bv, .ref aY, .int 0, .int 0, .int 0, .int 0])), (aS, .inl (cS, 901, .inl s0)), (aB, .inl (cB, 6, .inl fB)), (aO, .inl (cO, 36, .inr (.inl fO))), (aN, .inl (cN, 36, .inr (.inl fN))), (aD, .inl (cD, 36, .inl fD))])) (va_Ql (fun (r : Int64) (u : Unit) => match u with | () => r = f_odds x y z) (fun (u : Unit) (t : State) => match u with | () => True) (va_A [(m0, .inr (14, [.int 0, .ref aS, .ref aI, .int 0, .int 0, .int 0, .int 0, .int 0, .int 0, .ref aB, .ref aT, .int 0, .int 0, .ref aG, .ref aO, .ref aN, .ref aD, .long bv, .ref aY, .int 0, .int 0, .int 0, .int 0])), (aS, .inl (cS, 901, .inl s0)), (aB, .inl (cB, 6, .inl fB)), (aO, .inl (cO, 36, .inr (.inl fO))), (aN, .inl (cN, 36, .inr (.inl fN))), (aD, .inl (cD, 36, .inl fD))] sz)) 0 0 (va_A [(m0, .inr (14, [.int 0, .ref aS, .ref aI, .int 0, .int 0, .int 0, .int 0, .int 0, .int 0, .ref aB, .ref aT, .int 0, .int 0, .ref aG, .ref aO, .ref aN, .ref aD, .long bv, .ref aY, .int 0, .int 0, .int 0, .int 0])), (aS, .inl (cS, 901, .inl s0)), (aB, .inl (cB, 6, .inl fB)), (aO, .inl (cO, 36, .inr (.inl fO))), (aN, .inl (cN, 36, .inr (.inl fN))), (aD, .inl (cD, 36, .inl fD))] sz) := by
  refine met_ofQ (cc := cX12_odds) (maxL := 7) (ret := (some .long)) (by decide) rfl ?_
  intro p e s m args below meth c s₁ Q B hml hv hQ
  obtain ⟨rfl, hsz, hP, hK, hD0⟩ := hv
  have hx := B.exec
  have hb := B.bytes
  have hr := B.returns
  have hts := atoms_spec (ws := wsX12_odds) B.pre
  have hown : s.vm.findClass RX12 = some m.cls := findClass_of_methodNamed B.named
  have hlocks := B.notSynchronized
  subst hsz
  have hD := hD0.self (sz := s.heap.size)
  generalize hAe : va_A [(m0, .inr (14, [.int 0, .ref aS, .ref aI, .int 0, .int 0, .int 0, .int 0, .int 0, .int 0, .ref aB, .ref aT, .int 0, .int 0, .ref aG, .ref aO, .ref aN, .ref aD, .long bv, .ref aY, .int 0, .int 0, .int 0, .int 0])), (aS, .inl (cS, 901, .inl s0)), (aB, .inl (cB, 6, .inl fB)), (aO, .inl (cO, 36, .inr (.inl fO))), (aN, .inl (cN, 36, .inr (.inl fN))), (aD, .inl (cD, 36, .inl fD))] s.heap.size = A at hD hQ ⊢
  have hA : ∀ q : Nat, s.heap.size ≤ q → A q := fun q h => by rw [← hAe]; exact Or.inr h
  have hS : va_S A s.heap s.heap [] := va_S.rf
  have hl := lv_entry [.ref m0, .int x, .int y, .int z] (n := 7) (Nat.le_of_ble_eq_true rfl)
  rw [lg_entry_eq]
  generalize (lg_sl [.ref m0, .int x, .int y, .int z] ++ List.replicate (7 - (lg_sl [.ref m0, .int x, .int y, .int z]).length) Slot.unset).toArray = ls at hl ⊢
  generalize hag : ([.ref m0, .int x, .int y, .int z] : List Value).toArray = args at hts hQ ⊢
  have hl : lv_has ls 7 [(0, .ref m0), (1, .int x), (2, .int y), (3, .int z)] := hl
  obtain ⟨H, hH⟩ : ∃ H : Heap, H = s.heap := ⟨_, rfl⟩
  rw [← hH] at hP
  rw [← hH]
  have hS : va_S A s.heap H [] := by rw [hH]; exact hS
  obtain ⟨locs, hlo⟩ : ∃ L : List Loc, L = [] := ⟨_, rfl⟩
  rw [← hlo] at hS
  rw [← hlo]
  clear hH hlo
  refine lv_iload_n hx hb dX12_odds_0 rfl (lv_at hl 2 rfl) ?_
  refine lv_bipush (v := 50) hx hb dX12_odds_1 (by decide) ?_
  refine lv_icmp_lt (tgt := 21) hx hb dX12_odds_3 (by decide) (fun c_1 => ?_) (fun c_1 => ?_)
  · skip
    refine lv_iconst (v := 0) hx hb dX12_odds_21 (by decide) ?_
    refine lv_istore (lv' := [(4, .int 0), (0, .ref m0), (1, .int x), (2, .int y), (3, .int z)]) hx hb dX12_odds_22 hl (by decide) rfl (fun ls hl => ?_)
    refine lv_iload_n hx hb dX12_odds_24 rfl (lv_at hl 2 rfl) ?_
    refine vp_callSi (va_runS (As := [.int x]) (rest := []) ⟨hx, hb, hml, hown, hts⟩ (c_mCell l dC dI x) (va_cwS 1 hts gX12_odds_X12_isCell rfl rfl rfl (by decide +kernel) ⟨Nat.le_of_ble_eq_true rfl, Nat.le_of_ble_eq_true rfl⟩) ⟨fun a U g mk q => ⟨q.1, trivial⟩, fun U hU hW => ⟨rfl, trivial⟩⟩ rfl rfl hl.1 rfl (lv_room (Nat.le_of_ble_eq_true rfl)) dX12_odds_25 ⟨Nat.le_of_ble_eq_true rfl, Nat.le_of_ble_eq_true rfl⟩).run (fun r_2 hw_3 => ?_)
    rcases hw_3 with ⟨rfl, h_4, h_5⟩ | ⟨rfl, h_6⟩
    · skip
      obtain ⟨jx_7, hj_8, rfl⟩ := in_of (n := 35) (M := 35) rfl h_4 h_5
      refine lv_if_eq (tgt := 58) hx hb dX12_odds_28 (by decide) (fun c_9 => absurd c_9 (by decide)) (fun _ => ?_)
      refine lv_iload_n hx hb dX12_odds_31 rfl (lv_at hl 3 rfl) ?_
      refine vp_callSi (va_runS (As := [.int y]) (rest := []) ⟨hx, hb, hml, hown, hts⟩ (c_mCell l dC dI y) (va_cwS 1 hts gX12_odds_X12_isCell rfl rfl rfl (by decide +kernel) ⟨Nat.le_of_ble_eq_true rfl, Nat.le_of_ble_eq_true rfl⟩) ⟨fun a U g mk q => ⟨q.1, trivial⟩, fun U hU hW => ⟨rfl, trivial⟩⟩ rfl rfl hl.1 rfl (lv_room (Nat.le_of_ble_eq_true rfl)) dX12_odds_32 ⟨Nat.le_of_ble_eq_true rfl, Nat.le_of_ble_eq_true rfl⟩).run (fun r_10 hw_11 => ?_)
      rcases hw_11 with ⟨rfl, h_12, h_13⟩ | ⟨rfl, h_14⟩
      · skip
        obtain ⟨jy_15, hj_16, rfl⟩ := in_of (n := 35) (M := 35) rfl h_12 h_13
        refine lv_if_ne (tgt := 49) hx hb dX12_odds_35 (by decide) (fun _ => ?_) (fun c_17 => absurd c_17 (by decide))
        refine lv_iload_n hx hb dX12_odds_49 rfl (lv_at hl 4 rfl) ?_
        refine lv_iconst (v := 0) hx hb dX12_odds_50 (by decide) ?_
        refine lv_iconst (v := 1) hx hb dX12_odds_51 (by decide) ?_
        refine vp_callSi (va_runS (As := [.int z, .int 0, .int 1]) (rest := []) ⟨hx, hb, hml, hown, hts⟩ (c_in l dC dI z 0 1) (va_cwS 3 hts gX12_odds_X12_in rfl rfl rfl (by decide +kernel) ⟨Nat.le_of_ble_eq_true rfl, Nat.le_of_ble_eq_true rfl⟩) ⟨fun a U g mk q => ⟨q.1, trivial⟩, fun U hU hW => ⟨rfl, trivial⟩⟩ rfl rfl hl.1 rfl (lv_room (Nat.le_of_ble_eq_true rfl)) dX12_odds_52 ⟨Nat.le_of_ble_eq_true rfl, Nat.le_of_ble_eq_true rfl⟩).run (fun r_18 hw_19 => ?_)
        rcases hw_19 with ⟨rfl, h_20, h_21⟩ | ⟨rfl, h_22⟩
        · skip
          refine lv_if_ne (tgt := 62) hx hb dX12_odds_55 (by decide) (fun _ => ?_) (fun c_23 => absurd c_23 (by decide))
          refine lv_aload_n hx hb dX12_odds_62 rfl (lv_at hl 1 rfl) ?_
          have hPc := hP.sub (ws' := [(m0, .inr (14, [.int 0, .ref aS, .ref aI, .int 0, .int 0, .int 0, .int 0, .int 0, .int 0, .ref aB, .ref aT, .int 0, .int 0, .ref aG, .ref aO, .ref aN, .ref aD, .long bv, .ref aY, .int 0, .int 0, .int 0, .int 0])), (aS, .inl (cS, 901, .inl s0)), (aB, .inl (cB, 6, .inl fB)), (aD, .inl (cD, 36, .inl fD))]) [0, 1, 2, 5] rfl
          have hDc := hD.sub (ws' := [(m0, .inr (14, [.int 0, .ref aS, .ref aI, .int 0, .int 0, .int 0, .int 0, .int 0, .int 0, .ref aB, .ref aT, .int 0, .int 0, .ref aG, .ref aO, .ref aN, .ref aD, .long bv, .ref aY, .int 0, .int 0, .int 0, .int 0])), (aS, .inl (cS, 901, .inl s0)), (aB, .inl (cB, 6, .inl fB)), (aD, .inl (cD, 36, .inl fD))]) [0, 1, 2, 5] (by decide) rfl
          have hKc := hK.sub (tys' := [(cS, .int), (cB, .int), (cD, .int)]) [0, 1, 4] rfl
          have hFc := va_free (wc := [(m0, .inr (14, [.int 0, .ref aS, .ref aI, .int 0, .int 0, .int 0, .int 0, .int 0, .int 0, .ref aB, .ref aT, .int 0, .int 0, .ref aG, .ref aO, .ref aN, .ref aD, .long bv, .ref aY, .int 0, .int 0, .int 0, .int 0])), (aS, .inl (cS, 901, .inl s0)), (aB, .inl (cB, 6, .inl fB)), (aD, .inl (cD, 36, .inl fD))]) hD hS hA [0, 1, 2, 5] rfl
          refine va_callv (va_runV (As := []) (rest := []) ⟨hx, hb, hml, hown, hts⟩ (c_looksFor0 l dC dI m0 aS aI aB aT aG aO aN aD aY bv cS cB cD (fB) (fD) H.size) (cwV 0 hts gX12_odds_X12_looksForDrifts rfl rfl rfl (by decide +kernel) ⟨Nat.le_of_ble_eq_true rfl, Nat.le_of_ble_eq_true rfl⟩) ⟨fun a U g mk q => by obtain ⟨q0, q1, qP, qK, qD⟩ := q; exact ⟨q0, q1, qP, va_K.moved (u := U) (U := U.calling g mk a) (Vm.Alike.refl U.vm) qK, qD⟩, va_recv hK hP (ci := 14) (q0 := 0) rfl rfl, fun U hU hW => ⟨rfl, by rw [hU], by rw [hU]; exact hPc, va_K.moved hW.alike hKc, hDc.weaken (fun _ _ _ _ => trivial)⟩⟩ rfl rfl hl.1 rfl (lv_room (Nat.le_of_ble_eq_true rfl)) dX12_odds_63 ⟨Nat.le_of_ble_eq_true rfl, Nat.le_of_ble_eq_true rfl⟩) hS (fun q _ h => hFc q h) hFc (fun u tC H1 locs htC hvm hw_25 hB hz1 hk1 hS => ?_)
          obtain ⟨fB2_26, fD2_27⟩ := u
          try dsimp only at hw_25 hB
          obtain ⟨hP1, hK1, hD1⟩ := hB
          rw [htC] at hP1
          have hK1 := va_K.moved hvm.symm hK1
          obtain ⟨hP, hD⟩ := va_join (wr := [(aO, .inl (cO, 36, .inr (.inl fO))), (aN, .inl (cN, 36, .inr (.inl fN)))]) (w1 := [(m0, .inr (14, [.int 0, .ref aS, .ref aI, .int 0, .int 0, .int 0, .int 0, .int 0, .int 0, .ref aB, .ref aT, .int 0, .int 0, .ref aG, .ref aO, .ref aN, .ref aD, .long bv, .ref aY, .int 0, .int 0, .int 0, .int 0])), (aS, .inl (cS, 901, .inl s0)), (aB, .inl (cB, 6, .inl fB2_26)), (aD, .inl (cD, 36, .inl fD2_27))]) hP hD [0, 1, 2, 5] [3, 4] rfl rfl (by decide) (by decide) hk1 hFc hP1 hD1
          have hK := (hK.sub (tys' := [(cO, .long), (cN, .long)]) [2, 3] rfl).app hK1
          generalize H1 = H at hP hS ⊢
          have hP : va_P (dC, dI) vwCl [(aO, .inl (cO, 36, .inr (.inl fO))), (aN, .inl (cN, 36, .inr (.inl fN))), (m0, .inr (14, [.int 0, .ref aS, .ref aI, .int 0, .int 0, .int 0, .int 0, .int 0, .int 0, .ref aB, .ref aT, .int 0, .int 0, .ref aG, .ref aO, .ref aN, .ref aD, .long bv, .ref aY, .int 0, .int 0, .int 0, .int 0])), (aS, .inl (cS, 901, .inl s0)), (aB, .inl (cB, 6, .inl fB2_26)), (aD, .inl (cD, 36, .inl fD2_27))] H := hP
          have hD : va_D A [(aO, .inl (cO, 36, .inr (.inl fO))), (aN, .inl (cN, 36, .inr (.inl fN))), (m0, .inr (14, [.int 0, .ref aS, .ref aI, .int 0, .int 0, .int 0, .int 0, .int 0, .int 0, .ref aB, .ref aT, .int 0, .int 0, .ref aG, .ref aO, .ref aN, .ref aD, .long bv, .ref aY, .int 0, .int 0, .int 0, .int 0])), (aS, .inl (cS, 901, .inl s0)), (aB, .inl (cB, 6, .inl fB2_26)), (aD, .inl (cD, 36, .inl fD2_27))] := hD
          have hK : va_K (dC, dI) vwCl [(cO, .long), (cN, .long), (cS, .int), (cB, .int), (cD, .int)] s := hK
          refine lv_aload_n hx hb dX12_odds_66 rfl (lv_at hl 1 rfl) ?_
          refine lv_iload_n hx hb dX12_odds_67 rfl (lv_at hl 2 rfl) ?_
          have hPc := hP.sub (ws' := [(m0, .inr (14, [.int 0, .ref aS, .ref aI, .int 0, .int 0, .int 0, .int 0, .int 0, .int 0, .ref aB, .ref aT, .int 0, .int 0, .ref aG, .ref aO, .ref aN, .ref aD, .long bv, .ref aY, .int 0, .int 0, .int 0, .int 0])), (aO, .inl (cO, 36, .inr (.inl fO)))]) [2, 0] rfl
          have hDc := hD.sub (ws' := [(m0, .inr (14, [.int 0, .ref aS, .ref aI, .int 0, .int 0, .int 0, .int 0, .int 0, .int 0, .ref aB, .ref aT, .int 0, .int 0, .ref aG, .ref aO, .ref aN, .ref aD, .long bv, .ref aY, .int 0, .int 0, .int 0, .int 0])), (aO, .inl (cO, 36, .inr (.inl fO)))]) [2, 0] (by decide) rfl
          have hKc := hK.sub (tys' := [(cO, .long)]) [0] rfl
          have hFc := va_free (wc := [(m0, .inr (14, [.int 0, .ref aS, .ref aI, .int 0, .int 0, .int 0, .int 0, .int 0, .int 0, .ref aB, .ref aT, .int 0, .int 0, .ref aG, .ref aO, .ref aN, .ref aD, .long bv, .ref aY, .int 0, .int 0, .int 0, .int 0])), (aO, .inl (cO, 36, .inr (.inl fO)))]) hD hS hA [2, 0] rfl
          refine va_callv (va_runV (As := [.int (nI jx_7)]) (rest := []) ⟨hx, hb, hml, hown, hts⟩ (c_begins l dC dI m0 aS aI aB aT aG aO aN aD aY bv cO (fO) (jx_7) H.size (by omega)) (cwV 1 hts gX12_odds_X12_begins rfl rfl rfl (by decide +kernel) ⟨Nat.le_of_ble_eq_true rfl, Nat.le_of_ble_eq_true rfl⟩) ⟨fun a U g mk q => by obtain ⟨q0, q1, qP, qK, qD⟩ := q; exact ⟨q0, q1, qP, va_K.moved (u := U) (U := U.calling g mk a) (Vm.Alike.refl U.vm) qK, qD⟩, va_recv hK hP (ci := 14) (q0 := 2) rfl rfl, fun U hU hW => ⟨rfl, by rw [hU], by rw [hU]; exact hPc, va_K.moved hW.alike hKc, hDc.weaken (fun _ _ _ _ => trivial)⟩⟩ rfl rfl hl.1 rfl (lv_room (Nat.le_of_ble_eq_true rfl)) dX12_odds_68 ⟨Nat.le_of_ble_eq_true rfl, Nat.le_of_ble_eq_true rfl⟩) hS (fun q _ h => hFc q h) hFc (fun u tC H1 locs htC hvm hw_29 hB hz1 hk1 hS => ?_)
          obtain ⟨fO2_30, rfl⟩ : ∃ z, z = u := ⟨_, rfl⟩
          try dsimp only at hw_29 hB
          obtain ⟨hP1, hK1, hD1⟩ := hB
          rw [htC] at hP1
          have hK1 := va_K.moved hvm.symm hK1
          obtain ⟨hP, hD⟩ := va_join (wr := [(aN, .inl (cN, 36, .inr (.inl fN))), (aS, .inl (cS, 901, .inl s0)), (aB, .inl (cB, 6, .inl fB2_26)), (aD, .inl (cD, 36, .inl fD2_27))]) (w1 := [(m0, .inr (14, [.int 0, .ref aS, .ref aI, .int 0, .int 0, .int 0, .int 0, .int 0, .int 0, .ref aB, .ref aT, .int 0, .int 0, .ref aG, .ref aO, .ref aN, .ref aD, .long bv, .ref aY, .int 0, .int 0, .int 0, .int 0])), (aO, .inl (cO, 36, .inr (.inl fO2_30)))]) hP hD [2, 0] [1, 3, 4, 5] rfl rfl (by decide) (by decide) hk1 hFc hP1 hD1
          have hK := (hK.sub (tys' := [(cN, .long), (cS, .int), (cB, .int), (cD, .int)]) [1, 2, 3, 4] rfl).app hK1
          generalize H1 = H at hP hS ⊢
          have hP : va_P (dC, dI) vwCl [(aN, .inl (cN, 36, .inr (.inl fN))), (aS, .inl (cS, 901, .inl s0)), (aB, .inl (cB, 6, .inl fB2_26)), (aD, .inl (cD, 36, .inl fD2_27)), (m0, .inr (14, [.int 0, .ref aS, .ref aI, .int 0, .int 0, .int 0, .int 0, .int 0, .int 0, .ref aB, .ref aT, .int 0, .int 0, .ref aG, .ref aO, .ref aN, .ref aD, .long bv, .ref aY, .int 0, .int 0, .int 0, .int 0])), (aO, .inl (cO, 36, .inr (.inl fO2_30)))] H := hP
          have hD : va_D A [(aN, .inl (cN, 36, .inr (.inl fN))), (aS, .inl (cS, 901, .inl s0)), (aB, .inl (cB, 6, .inl fB2_26)), (aD, .inl (cD, 36, .inl fD2_27)), (m0, .inr (14, [.int 0, .ref aS, .ref aI, .int 0, .int 0, .int 0, .int 0, .int 0, .int 0, .ref aB, .ref aT, .int 0, .int 0, .ref aG, .ref aO, .ref aN, .ref aD, .long bv, .ref aY, .int 0, .int 0, .int 0, .int 0])), (aO, .inl (cO, 36, .inr (.inl fO2_30)))] := hD
          have hK : va_K (dC, dI) vwCl [(cN, .long), (cS, .int), (cB, .int), (cD, .int), (cO, .long)] s := hK
          refine lv_iconst (v := 0) hx hb dX12_odds_71 (by decide) ?_
          refine lv_istore (lv' := [(5, .int 0), (4, .int 0), (0, .ref m0), (1, .int (nI jx_7)), (2, .int (nI jy_15)), (3, .int z)]) hx hb dX12_odds_72 hl (by decide) rfl (fun ls hl => ?_)
          refine lv_iload hx hb dX12_odds_74 (lv_at hl 0 rfl) ?_
          refine lv_aload_n hx hb dX12_odds_76 rfl (lv_at hl 2 rfl) ?_
          refine va_get (D := (dC, dI)) (ci := 14) (v := .ref aS) (C := RX12) (T := TX12) (N := 23) hx hb hts kc_mOdds_0 hown hK hP 4 rfl rfl 1 (by decide) (hts (.fieldLink RX12 9 "MistHeapsModel" "s" "[I") kc_mOdds_1) (fun _ h9 => h9) rfl dX12_odds_77 ?_
          refine lv_iconst (v := 2) hx hb dX12_odds_80 (by decide) ?_
          refine va_iald hx hb hK hP 1 1 rfl rfl (vp_in_nI (n := 2) (N := 901) (by omega) (by omega)) dX12_odds_81 ?_
          refine qi_as (y := 0) (rfl) ?_
          refine lv_icmp_ge (tgt := 105) hx hb dX12_odds_82 (by decide) (fun _ => ?_) (fun c_31 => absurd c_31 (by decide))
          refine lv_iload hx hb dX12_odds_105 (lv_at hl 1 rfl) ?_
          refine lv_if_eq (tgt := 121) hx hb dX12_odds_107 (by decide) (fun _ => ?_) (fun c_32 => absurd c_32 (by decide))
          refine lv_iload_n hx hb dX12_odds_121 rfl (lv_at hl 4 rfl) ?_
          refine lv_bipush (v := 40) hx hb dX12_odds_122 (by decide) ?_
          refine lv_icmp_ne (tgt := 134) hx hb dX12_odds_124 (by decide) (fun c_33 => ?_) (fun c_33 => ?_)
          · skip
            have c_33 : ¬ jy_15 = 40 := fun q => c_33 ((nI_eq (a := jy_15) (b := 40) (by omega) (by omega)).mpr q)
            refine lv_aload_n hx hb dX12_odds_134 rfl (lv_at hl 2 rfl) ?_
            refine va_get (D := (dC, dI)) (ci := 14) (v := .ref aO) (C := RX12) (T := TX12) (N := 23) hx hb hts kc_mOdds_0 hown hK hP 4 rfl rfl 14 (by decide) (hts (.fieldLink RX12 28 "MistHeapsModel" "often" "[J") kc_mOdds_2) (fun _ h9 => h9) rfl dX12_odds_135 ?_
            refine lv_iload_n hx hb dX12_odds_138 rfl (lv_at hl 4 rfl) ?_
            refine va_lald hx hb hK hP 5 4 rfl rfl (vp_in_nI (n := jy_15) (N := 36) (by omega) (by omega)) dX12_odds_139 ?_
            refine ql_as (y := lN (if jy_15 = jx_7 then 1 else 0)) ((show fO2_30 (nI jy_15).toNatClampNeg = fO2_30 jy_15 from by rw [nI_clamp (by omega)]).trans (by rw [hw_29 jy_15 (by omega)]; unfold ind; split <;> rfl)) ?_
            refine lv_lstore (lv' := [(5, .long (lN (if jy_15 = jx_7 then 1 else 0))), (4, .int 0), (0, .ref m0), (1, .int (nI jx_7)), (2, .int (nI jy_15)), (3, .int z)]) hx hb dX12_odds_140 hl (by decide) rfl (fun ls hl => ?_)
            refine lv_lload hx hb dX12_odds_142 (lv_at hl 0 rfl) ?_
            refine lv_aload_n hx hb dX12_odds_144 rfl (lv_at hl 2 rfl) ?_
            refine va_get (D := (dC, dI)) (ci := 14) (v := .ref aS) (C := RX12) (T := TX12) (N := 23) hx hb hts kc_mOdds_0 hown hK hP 4 rfl rfl 1 (by decide) (hts (.fieldLink RX12 9 "MistHeapsModel" "s" "[I") kc_mOdds_1) (fun _ h9 => h9) rfl dX12_odds_145 ?_
            refine lv_iconst (v := 2) hx hb dX12_odds_148 (by decide) ?_
            refine va_iald hx hb hK hP 1 1 rfl rfl (vp_in_nI (n := 2) (N := 901) (by omega) (by omega)) dX12_odds_149 ?_
            refine qi_as (y := 0) (rfl) ?_
            refine vp_callSl (va_runS (As := [.int 0]) (rest := [.long (lN (if jy_15 = jx_7 then 1 else 0))]) ⟨hx, hb, hml, hown, hts⟩ (c_twenties l dC dI 0 (by omega)) (va_cwS 1 hts gX12_odds_X12_twenties rfl rfl rfl (by decide +kernel) ⟨Nat.le_of_ble_eq_true rfl, Nat.le_of_ble_eq_true rfl⟩) ⟨fun a U g mk q => ⟨q.1, trivial⟩, fun U hU hW => ⟨rfl, trivial⟩⟩ rfl rfl hl.1 rfl (lv_room (Nat.le_of_ble_eq_true rfl)) dX12_odds_150 ⟨Nat.le_of_ble_eq_true rfl, Nat.le_of_ble_eq_true rfl⟩).run (fun r_34 hw_35 => ?_)
            refine ql_as (y := lN 1) (hw_35) ?_
            refine lv_iload_n hx hb dX12_odds_153 rfl (lv_at hl 5 rfl) ?_
            refine vp_callSl (va_runS (As := [.long (lN (if jy_15 = jx_7 then 1 else 0)), .long (lN 1), .int z]) (rest := []) ⟨hx, hb, hml, hown, hts⟩ (c_lowest l dC dI (if jy_15 = jx_7 then 1 else 0) 1 z (by split <;> omega) (by omega) (by omega) (Nat.mod_one _)) (va_cwS 3 hts gX12_odds_X12_lowest rfl rfl rfl (by decide +kernel) ⟨Nat.le_of_ble_eq_true rfl, Nat.le_of_ble_eq_true rfl⟩) ⟨fun a U g mk q => ⟨q.1, trivial⟩, fun U hU hW => ⟨rfl, trivial⟩⟩ rfl rfl hl.1 rfl (lv_room (Nat.le_of_ble_eq_true rfl)) dX12_odds_154 ⟨Nat.le_of_ble_eq_true rfl, Nat.le_of_ble_eq_true rfl⟩).run (fun r_36 hw_37 => ?_)
            rw [hQ]
            exact W.lret (v := r_36) hx hb hr (fun tQ htQ hWQ => ⟨⟨r_36, (), rfl, by have e1 : ¬ nI jy_15 = 40 := fun q => absurd ((nI_eq (a := jy_15) (b := 40) (by omega) (by omega)).mp q) (by omega); have e2 : (nI jx_7 = nI jy_15) ↔ jy_15 = jx_7 := ⟨fun q => ((nI_eq (by omega) (by omega)).mp q).symm, fun q => by rw [q]⟩; rw [hw_37, Nat.div_one]; simp only [f_odds, e2]; (repeat' split) <;> first | contradiction | rfl | simp_all, trivial⟩, hS.F htQ⟩) hS.2.2 dX12_odds_157
          · skip
            have c_33 : jy_15 = 40 := (nI_eq (a := jy_15) (b := 40) (by omega) (by omega)).mp c_33
            exfalso
            omega
        · skip
          refine lv_if_ne (tgt := 62) hx hb dX12_odds_55 (by decide) (fun c_38 => absurd c_38 (by decide)) (fun _ => ?_)
          refine lv_ldc2 (v := (-9223372036854775808)) hx hb hown (hts (.constantLong RX12 181 (-9223372036854775808)) kc_mOdds_3) dX12_odds_58 ?_
          rw [hQ]
          exact W.lret (v := (-9223372036854775808)) hx hb hr (fun tQ htQ hWQ => ⟨⟨(-9223372036854775808), (), rfl, by simp only [f_odds]; (repeat' split) <;> simp_all, trivial⟩, hS.F htQ⟩) hS.2.2 dX12_odds_61
      · skip
        refine lv_if_ne (tgt := 49) hx hb dX12_odds_35 (by decide) (fun c_39 => absurd c_39 (by decide)) (fun _ => ?_)
        refine lv_iload_n hx hb dX12_odds_38 rfl (lv_at hl 3 rfl) ?_
        refine lv_bipush (v := 40) hx hb dX12_odds_39 (by decide) ?_
        refine lv_icmp_eq (tgt := 49) hx hb dX12_odds_41 (by decide) (fun c_40 => ?_) (fun c_40 => ?_)
        · skip
          subst c_40
          refine lv_iload_n hx hb dX12_odds_49 rfl (lv_at hl 4 rfl) ?_
          refine lv_iconst (v := 0) hx hb dX12_odds_50 (by decide) ?_
          refine lv_iconst (v := 1) hx hb dX12_odds_51 (by decide) ?_
          refine vp_callSi (va_runS (As := [.int z, .int 0, .int 1]) (rest := []) ⟨hx, hb, hml, hown, hts⟩ (c_in l dC dI z 0 1) (va_cwS 3 hts gX12_odds_X12_in rfl rfl rfl (by decide +kernel) ⟨Nat.le_of_ble_eq_true rfl, Nat.le_of_ble_eq_true rfl⟩) ⟨fun a U g mk q => ⟨q.1, trivial⟩, fun U hU hW => ⟨rfl, trivial⟩⟩ rfl rfl hl.1 rfl (lv_room (Nat.le_of_ble_eq_true rfl)) dX12_odds_52 ⟨Nat.le_of_ble_eq_true rfl, Nat.le_of_ble_eq_true rfl⟩).run (fun r_41 hw_42 => ?_)
          rcases hw_42 with ⟨rfl, h_43, h_44⟩ | ⟨rfl, h_45⟩
          · skip
            refine lv_if_ne (tgt := 62) hx hb dX12_odds_55 (by decide) (fun _ => ?_) (fun c_46 => absurd c_46 (by decide))
            refine lv_aload_n hx hb dX12_odds_62 rfl (lv_at hl 1 rfl) ?_
            have hPc := hP.sub (ws' := [(m0, .inr (14, [.int 0, .ref aS, .ref aI, .int 0, .int 0, .int 0, .int 0, .int 0, .int 0, .ref aB, .ref aT, .int 0, .int 0, .ref aG, .ref aO, .ref aN, .ref aD, .long bv, .ref aY, .int 0, .int 0, .int 0, .int 0])), (aS, .inl (cS, 901, .inl s0)), (aB, .inl (cB, 6, .inl fB)), (aD, .inl (cD, 36, .inl fD))]) [0, 1, 2, 5] rfl
            have hDc := hD.sub (ws' := [(m0, .inr (14, [.int 0, .ref aS, .ref aI, .int 0, .int 0, .int 0, .int 0, .int 0, .int 0, .ref aB, .ref aT, .int 0, .int 0, .ref aG, .ref aO, .ref aN, .ref aD, .long bv, .ref aY, .int 0, .int 0, .int 0, .int 0])), (aS, .inl (cS, 901, .inl s0)), (aB, .inl (cB, 6, .inl fB)), (aD, .inl (cD, 36, .inl fD))]) [0, 1, 2, 5] (by decide) rfl
            have hKc := hK.sub (tys' := [(cS, .int), (cB, .int), (cD, .int)]) [0, 1, 4] rfl
            have hFc := va_free (wc := [(m0, .inr (14, [.int 0, .ref aS, .ref aI, .int 0, .int 0, .int 0, .int 0, .int 0, .int 0, .ref aB, .ref aT, .int 0, .int 0, .ref aG, .ref aO, .ref aN, .ref aD, .long bv, .ref aY, .int 0, .int 0, .int 0, .int 0])), (aS, .inl (cS, 901, .inl s0)), (aB, .inl (cB, 6, .inl fB)), (aD, .inl (cD, 36, .inl fD))]) hD hS hA [0, 1, 2, 5] rfl
            refine va_callv (va_runV (As := []) (rest := []) ⟨hx, hb, hml, hown, hts⟩ (c_looksFor0 l dC dI m0 aS aI aB aT aG aO aN aD aY bv cS cB cD (fB) (fD) H.size) (cwV 0 hts gX12_odds_X12_looksForDrifts rfl rfl rfl (by decide +kernel) ⟨Nat.le_of_ble_eq_true rfl, Nat.le_of_ble_eq_true rfl⟩) ⟨fun a U g mk q => by obtain ⟨q0, q1, qP, qK, qD⟩ := q; exact ⟨q0, q1, qP, va_K.moved (u := U) (U := U.calling g mk a) (Vm.Alike.refl U.vm) qK, qD⟩, va_recv hK hP (ci := 14) (q0 := 0) rfl rfl, fun U hU hW => ⟨rfl, by rw [hU], by rw [hU]; exact hPc, va_K.moved hW.alike hKc, hDc.weaken (fun _ _ _ _ => trivial)⟩⟩ rfl rfl hl.1 rfl (lv_room (Nat.le_of_ble_eq_true rfl)) dX12_odds_63 ⟨Nat.le_of_ble_eq_true rfl, Nat.le_of_ble_eq_true rfl⟩) hS (fun q _ h => hFc q h) hFc (fun u tC H1 locs htC hvm hw_48 hB hz1 hk1 hS => ?_)
            obtain ⟨fB2_49, fD2_50⟩ := u
            try dsimp only at hw_48 hB
            obtain ⟨hP1, hK1, hD1⟩ := hB
            rw [htC] at hP1
            have hK1 := va_K.moved hvm.symm hK1
            obtain ⟨hP, hD⟩ := va_join (wr := [(aO, .inl (cO, 36, .inr (.inl fO))), (aN, .inl (cN, 36, .inr (.inl fN)))]) (w1 := [(m0, .inr (14, [.int 0, .ref aS, .ref aI, .int 0, .int 0, .int 0, .int 0, .int 0, .int 0, .ref aB, .ref aT, .int 0, .int 0, .ref aG, .ref aO, .ref aN, .ref aD, .long bv, .ref aY, .int 0, .int 0, .int 0, .int 0])), (aS, .inl (cS, 901, .inl s0)), (aB, .inl (cB, 6, .inl fB2_49)), (aD, .inl (cD, 36, .inl fD2_50))]) hP hD [0, 1, 2, 5] [3, 4] rfl rfl (by decide) (by decide) hk1 hFc hP1 hD1
            have hK := (hK.sub (tys' := [(cO, .long), (cN, .long)]) [2, 3] rfl).app hK1
            generalize H1 = H at hP hS ⊢
            have hP : va_P (dC, dI) vwCl [(aO, .inl (cO, 36, .inr (.inl fO))), (aN, .inl (cN, 36, .inr (.inl fN))), (m0, .inr (14, [.int 0, .ref aS, .ref aI, .int 0, .int 0, .int 0, .int 0, .int 0, .int 0, .ref aB, .ref aT, .int 0, .int 0, .ref aG, .ref aO, .ref aN, .ref aD, .long bv, .ref aY, .int 0, .int 0, .int 0, .int 0])), (aS, .inl (cS, 901, .inl s0)), (aB, .inl (cB, 6, .inl fB2_49)), (aD, .inl (cD, 36, .inl fD2_50))] H := hP
            have hD : va_D A [(aO, .inl (cO, 36, .inr (.inl fO))), (aN, .inl (cN, 36, .inr (.inl fN))), (m0, .inr (14, [.int 0, .ref aS, .ref aI, .int 0, .int 0, .int 0, .int 0, .int 0, .int 0, .ref aB, .ref aT, .int 0, .int 0, .ref aG, .ref aO, .ref aN, .ref aD, .long bv, .ref aY, .int 0, .int 0, .int 0, .int 0])), (aS, .inl (cS, 901, .inl s0)), (aB, .inl (cB, 6, .inl fB2_49)), (aD, .inl (cD, 36, .inl fD2_50))] := hD
            have hK : va_K (dC, dI) vwCl [(cO, .long), (cN, .long), (cS, .int), (cB, .int), (cD, .int)] s := hK
            refine lv_aload_n hx hb dX12_odds_66 rfl (lv_at hl 1 rfl) ?_
            refine lv_iload_n hx hb dX12_odds_67 rfl (lv_at hl 2 rfl) ?_
            have hPc := hP.sub (ws' := [(m0, .inr (14, [.int 0, .ref aS, .ref aI, .int 0, .int 0, .int 0, .int 0, .int 0, .int 0, .ref aB, .ref aT, .int 0, .int 0, .ref aG, .ref aO, .ref aN, .ref aD, .long bv, .ref aY, .int 0, .int 0, .int 0, .int 0])), (aO, .inl (cO, 36, .inr (.inl fO)))]) [2, 0] rfl
            have hDc := hD.sub (ws' := [(m0, .inr (14, [.int 0, .ref aS, .ref aI, .int 0, .int 0, .int 0, .int 0, .int 0, .int 0, .ref aB, .ref aT, .int 0, .int 0, .ref aG, .ref aO, .ref aN, .ref aD, .long bv, .ref aY, .int 0, .int 0, .int 0, .int 0])), (aO, .inl (cO, 36, .inr (.inl fO)))]) [2, 0] (by decide) rfl
            have hKc := hK.sub (tys' := [(cO, .long)]) [0] rfl
            have hFc := va_free (wc := [(m0, .inr (14, [.int 0, .ref aS, .ref aI, .int 0, .int 0, .int 0, .int 0, .int 0, .int 0, .ref aB, .ref aT, .int 0, .int 0, .ref aG, .ref aO, .ref aN, .ref aD, .long bv, .ref aY, .int 0, .int 0, .int 0, .int 0])), (aO, .inl (cO, 36, .inr (.inl fO)))]) hD hS hA [2, 0] rfl
            refine va_callv (va_runV (As := [.int (nI jx_7)]) (rest := []) ⟨hx, hb, hml, hown, hts⟩ (c_begins l dC dI m0 aS aI aB aT aG aO aN aD aY bv cO (fO) (jx_7) H.size (by omega)) (cwV 1 hts gX12_odds_X12_begins rfl rfl rfl (by decide +kernel) ⟨Nat.le_of_ble_eq_true rfl, Nat.le_of_ble_eq_true rfl⟩) ⟨fun a U g mk q => by obtain ⟨q0, q1, qP, qK, qD⟩ := q; exact ⟨q0, q1, qP, va_K.moved (u := U) (U := U.calling g mk a) (Vm.Alike.refl U.vm) qK, qD⟩, va_recv hK hP (ci := 14) (q0 := 2) rfl rfl, fun U hU hW => ⟨rfl, by rw [hU], by rw [hU]; exact hPc, va_K.moved hW.alike hKc, hDc.weaken (fun _ _ _ _ => trivial)⟩⟩ rfl rfl hl.1 rfl (lv_room (Nat.le_of_ble_eq_true rfl)) dX12_odds_68 ⟨Nat.le_of_ble_eq_true rfl, Nat.le_of_ble_eq_true rfl⟩) hS (fun q _ h => hFc q h) hFc (fun u tC H1 locs htC hvm hw_52 hB hz1 hk1 hS => ?_)
            obtain ⟨fO2_53, rfl⟩ : ∃ z, z = u := ⟨_, rfl⟩
            try dsimp only at hw_52 hB
            obtain ⟨hP1, hK1, hD1⟩ := hB
            rw [htC] at hP1
            have hK1 := va_K.moved hvm.symm hK1
            obtain ⟨hP, hD⟩ := va_join (wr := [(aN, .inl (cN, 36, .inr (.inl fN))), (aS, .inl (cS, 901, .inl s0)), (aB, .inl (cB, 6, .inl fB2_49)), (aD, .inl (cD, 36, .inl fD2_50))]) (w1 := [(m0, .inr (14, [.int 0, .ref aS, .ref aI, .int 0, .int 0, .int 0, .int 0, .int 0, .int 0, .ref aB, .ref aT, .int 0, .int 0, .ref aG, .ref aO, .ref aN, .ref aD, .long bv, .ref aY, .int 0, .int 0, .int 0, .int 0])), (aO, .inl (cO, 36, .inr (.inl fO2_53)))]) hP hD [2, 0] [1, 3, 4, 5] rfl rfl (by decide) (by decide) hk1 hFc hP1 hD1
            have hK := (hK.sub (tys' := [(cN, .long), (cS, .int), (cB, .int), (cD, .int)]) [1, 2, 3, 4] rfl).app hK1
            generalize H1 = H at hP hS ⊢
            have hP : va_P (dC, dI) vwCl [(aN, .inl (cN, 36, .inr (.inl fN))), (aS, .inl (cS, 901, .inl s0)), (aB, .inl (cB, 6, .inl fB2_49)), (aD, .inl (cD, 36, .inl fD2_50)), (m0, .inr (14, [.int 0, .ref aS, .ref aI, .int 0, .int 0, .int 0, .int 0, .int 0, .int 0, .ref aB, .ref aT, .int 0, .int 0, .ref aG, .ref aO, .ref aN, .ref aD, .long bv, .ref aY, .int 0, .int 0, .int 0, .int 0])), (aO, .inl (cO, 36, .inr (.inl fO2_53)))] H := hP
            have hD : va_D A [(aN, .inl (cN, 36, .inr (.inl fN))), (aS, .inl (cS, 901, .inl s0)), (aB, .inl (cB, 6, .inl fB2_49)), (aD, .inl (cD, 36, .inl fD2_50)), (m0, .inr (14, [.int 0, .ref aS, .ref aI, .int 0, .int 0, .int 0, .int 0, .int 0, .int 0, .ref aB, .ref aT, .int 0, .int 0, .ref aG, .ref aO, .ref aN, .ref aD, .long bv, .ref aY, .int 0, .int 0, .int 0, .int 0])), (aO, .inl (cO, 36, .inr (.inl fO2_53)))] := hD
            have hK : va_K (dC, dI) vwCl [(cN, .long), (cS, .int), (cB, .int), (cD, .int), (cO, .long)] s := hK
            refine lv_iconst (v := 0) hx hb dX12_odds_71 (by decide) ?_
            refine lv_istore (lv' := [(5, .int 0), (4, .int 0), (0, .ref m0), (1, .int (nI jx_7)), (2, .int 40), (3, .int z)]) hx hb dX12_odds_72 hl (by decide) rfl (fun ls hl => ?_)
            refine lv_iload hx hb dX12_odds_74 (lv_at hl 0 rfl) ?_
            refine lv_aload_n hx hb dX12_odds_76 rfl (lv_at hl 2 rfl) ?_
            refine va_get (D := (dC, dI)) (ci := 14) (v := .ref aS) (C := RX12) (T := TX12) (N := 23) hx hb hts kc_mOdds_0 hown hK hP 4 rfl rfl 1 (by decide) (hts (.fieldLink RX12 9 "MistHeapsModel" "s" "[I") kc_mOdds_1) (fun _ h9 => h9) rfl dX12_odds_77 ?_
            refine lv_iconst (v := 2) hx hb dX12_odds_80 (by decide) ?_
            refine va_iald hx hb hK hP 1 1 rfl rfl (vp_in_nI (n := 2) (N := 901) (by omega) (by omega)) dX12_odds_81 ?_
            refine qi_as (y := 0) (rfl) ?_
            refine lv_icmp_ge (tgt := 105) hx hb dX12_odds_82 (by decide) (fun _ => ?_) (fun c_54 => absurd c_54 (by decide))
            refine lv_iload hx hb dX12_odds_105 (lv_at hl 1 rfl) ?_
            refine lv_if_eq (tgt := 121) hx hb dX12_odds_107 (by decide) (fun _ => ?_) (fun c_55 => absurd c_55 (by decide))
            refine lv_iload_n hx hb dX12_odds_121 rfl (lv_at hl 4 rfl) ?_
            refine lv_bipush (v := 40) hx hb dX12_odds_122 (by decide) ?_
            refine lv_icmp_ne (tgt := 134) hx hb dX12_odds_124 (by decide) (fun c_56 => absurd c_56 (by decide)) (fun _ => ?_)
            refine lv_aload_n hx hb dX12_odds_127 rfl (lv_at hl 2 rfl) ?_
            have hPc := hP.sub (ws' := [(m0, .inr (14, [.int 0, .ref aS, .ref aI, .int 0, .int 0, .int 0, .int 0, .int 0, .int 0, .ref aB, .ref aT, .int 0, .int 0, .ref aG, .ref aO, .ref aN, .ref aD, .long bv, .ref aY, .int 0, .int 0, .int 0, .int 0])), (aS, .inl (cS, 901, .inl s0)), (aO, .inl (cO, 36, .inr (.inl fO2_53)))]) [4, 1, 5] rfl
            have hKc := hK.sub (tys' := [(cS, .int), (cO, .long)]) [1, 4] rfl
            refine vp_callSl (va_runV (As := []) (rest := []) ⟨hx, hb, hml, hown, hts⟩ (c_over0 l dC dI m0 aS aI aB aT aG aO aN aD aY bv cS cO (fO2_53)) (cwV 0 hts gX12_odds_X12_over rfl rfl rfl (by decide +kernel) ⟨Nat.le_of_ble_eq_true rfl, Nat.le_of_ble_eq_true rfl⟩) ⟨fun a U g mk q => by obtain ⟨q0, qP, qK⟩ := q; exact ⟨q0, qP, va_K.moved (u := U) (U := U.calling g mk a) (Vm.Alike.refl U.vm) qK⟩, va_recv hK hP (ci := 14) (q0 := 4) rfl rfl, fun U hU hW => ⟨rfl, by rw [hU]; exact hPc, va_K.moved hW.alike hKc⟩⟩ rfl rfl hl.1 rfl (lv_room (Nat.le_of_ble_eq_true rfl)) dX12_odds_128 ⟨Nat.le_of_ble_eq_true rfl, Nat.le_of_ble_eq_true rfl⟩).run (fun r_57 hw_58 => ?_)
            refine ql_as (y := lN 0) (hw_58) ?_
            refine lv_goto (tgt := 140) hx hb dX12_odds_131 (by decide) ?_
            refine lv_lstore (lv' := [(5, .long (lN 0)), (4, .int 0), (0, .ref m0), (1, .int (nI jx_7)), (2, .int 40), (3, .int z)]) hx hb dX12_odds_140 hl (by decide) rfl (fun ls hl => ?_)
            refine lv_lload hx hb dX12_odds_142 (lv_at hl 0 rfl) ?_
            refine lv_aload_n hx hb dX12_odds_144 rfl (lv_at hl 2 rfl) ?_
            refine va_get (D := (dC, dI)) (ci := 14) (v := .ref aS) (C := RX12) (T := TX12) (N := 23) hx hb hts kc_mOdds_0 hown hK hP 4 rfl rfl 1 (by decide) (hts (.fieldLink RX12 9 "MistHeapsModel" "s" "[I") kc_mOdds_1) (fun _ h9 => h9) rfl dX12_odds_145 ?_
            refine lv_iconst (v := 2) hx hb dX12_odds_148 (by decide) ?_
            refine va_iald hx hb hK hP 1 1 rfl rfl (vp_in_nI (n := 2) (N := 901) (by omega) (by omega)) dX12_odds_149 ?_
            refine qi_as (y := 0) (rfl) ?_
            refine vp_callSl (va_runS (As := [.int 0]) (rest := [.long (lN 0)]) ⟨hx, hb, hml, hown, hts⟩ (c_twenties l dC dI 0 (by omega)) (va_cwS 1 hts gX12_odds_X12_twenties rfl rfl rfl (by decide +kernel) ⟨Nat.le_of_ble_eq_true rfl, Nat.le_of_ble_eq_true rfl⟩) ⟨fun a U g mk q => ⟨q.1, trivial⟩, fun U hU hW => ⟨rfl, trivial⟩⟩ rfl rfl hl.1 rfl (lv_room (Nat.le_of_ble_eq_true rfl)) dX12_odds_150 ⟨Nat.le_of_ble_eq_true rfl, Nat.le_of_ble_eq_true rfl⟩).run (fun r_59 hw_60 => ?_)
            refine ql_as (y := lN 1) (hw_60) ?_
            refine lv_iload_n hx hb dX12_odds_153 rfl (lv_at hl 5 rfl) ?_
            refine vp_callSl (va_runS (As := [.long (lN 0), .long (lN 1), .int z]) (rest := []) ⟨hx, hb, hml, hown, hts⟩ (c_lowest l dC dI (0) 1 z (by omega) (by omega) (by omega) (Nat.mod_one _)) (va_cwS 3 hts gX12_odds_X12_lowest rfl rfl rfl (by decide +kernel) ⟨Nat.le_of_ble_eq_true rfl, Nat.le_of_ble_eq_true rfl⟩) ⟨fun a U g mk q => ⟨q.1, trivial⟩, fun U hU hW => ⟨rfl, trivial⟩⟩ rfl rfl hl.1 rfl (lv_room (Nat.le_of_ble_eq_true rfl)) dX12_odds_154 ⟨Nat.le_of_ble_eq_true rfl, Nat.le_of_ble_eq_true rfl⟩).run (fun r_61 hw_62 => ?_)
            rw [hQ]
            exact W.lret (v := r_61) hx hb hr (fun tQ htQ hWQ => ⟨⟨r_61, (), rfl, by rw [hw_62]; simp only [f_odds]; (repeat' split) <;> first | contradiction | rfl | simp_all, trivial⟩, hS.F htQ⟩) hS.2.2 dX12_odds_157
          · skip
            refine lv_if_ne (tgt := 62) hx hb dX12_odds_55 (by decide) (fun c_63 => absurd c_63 (by decide)) (fun _ => ?_)
            refine lv_ldc2 (v := (-9223372036854775808)) hx hb hown (hts (.constantLong RX12 181 (-9223372036854775808)) kc_mOdds_3) dX12_odds_58 ?_
            rw [hQ]
            exact W.lret (v := (-9223372036854775808)) hx hb hr (fun tQ htQ hWQ => ⟨⟨(-9223372036854775808), (), rfl, by simp only [f_odds]; (repeat' split) <;> simp_all, trivial⟩, hS.F htQ⟩) hS.2.2 dX12_odds_61
        · skip
          refine lv_iload hx hb dX12_odds_44 (lv_at hl 0 rfl) ?_
          refine lv_if_eq (tgt := 58) hx hb dX12_odds_46 (by decide) (fun _ => ?_) (fun c_64 => absurd c_64 (by decide))
          refine lv_ldc2 (v := (-9223372036854775808)) hx hb hown (hts (.constantLong RX12 181 (-9223372036854775808)) kc_mOdds_3) dX12_odds_58 ?_
          rw [hQ]
          exact W.lret (v := (-9223372036854775808)) hx hb hr (fun tQ htQ hWQ => ⟨⟨(-9223372036854775808), (), rfl, by simp only [f_odds]; (repeat' split) <;> simp_all, trivial⟩, hS.F htQ⟩) hS.2.2 dX12_odds_61
    · skip
      refine lv_if_eq (tgt := 58) hx hb dX12_odds_28 (by decide) (fun _ => ?_) (fun c_65 => absurd c_65 (by decide))
      refine lv_ldc2 (v := (-9223372036854775808)) hx hb hown (hts (.constantLong RX12 181 (-9223372036854775808)) kc_mOdds_3) dX12_odds_58 ?_
      rw [hQ]
      exact W.lret (v := (-9223372036854775808)) hx hb hr (fun tQ htQ hWQ => ⟨⟨(-9223372036854775808), (), rfl, by simp only [f_odds]; (repeat' split) <;> simp_all, trivial⟩, hS.F htQ⟩) hS.2.2 dX12_odds_61
  · skip
    refine lv_aload_n hx hb dX12_odds_6 rfl (lv_at hl 0 rfl) ?_
    refine lv_iload_n hx hb dX12_odds_7 rfl (lv_at hl 2 rfl) ?_
    refine lv_bipush (v := 50) hx hb dX12_odds_8 (by decide) ?_
    refine lv_isub hx hb dX12_odds_10 ?_
    have hPc := hP.sub (ws' := [(m0, .inr (14, [.int 0, .ref aS, .ref aI, .int 0, .int 0, .int 0, .int 0, .int 0, .int 0, .ref aB, .ref aT, .int 0, .int 0, .ref aG, .ref aO, .ref aN, .ref aD, .long bv, .ref aY, .int 0, .int 0, .int 0, .int 0])), (aS, .inl (cS, 901, .inl s0))]) [0, 1] rfl
    have hKc := hK.sub (tys' := [(cS, .int)]) [0] rfl
    refine vp_callSi (va_runV (As := [.int (y - 50)]) (rest := []) ⟨hx, hb, hml, hown, hts⟩ (c_mHeapB l dC dI m0 aS aI aB aT aG aO aN aD aY bv cS (y - 50)) (cwV 1 hts gX12_odds_X12_isHeap rfl rfl rfl (by decide +kernel) ⟨Nat.le_of_ble_eq_true rfl, Nat.le_of_ble_eq_true rfl⟩) ⟨fun a U g mk q => by obtain ⟨q0, qP, qK⟩ := q; exact ⟨q0, qP, va_K.moved (u := U) (U := U.calling g mk a) (Vm.Alike.refl U.vm) qK⟩, va_recv hK hP (ci := 14) (q0 := 0) rfl rfl, fun U hU hW => ⟨rfl, by rw [hU]; exact hPc, va_K.moved hW.alike hKc⟩⟩ rfl rfl hl.1 rfl (lv_room (Nat.le_of_ble_eq_true rfl)) dX12_odds_11 ⟨Nat.le_of_ble_eq_true rfl, Nat.le_of_ble_eq_true rfl⟩).run (fun r_66 hw_67 => ?_)
    refine qi_as (y := 0) (hw_67) ?_
    refine lv_if_eq (tgt := 21) hx hb dX12_odds_14 (by decide) (fun _ => ?_) (fun c_68 => absurd c_68 (by decide))
    refine lv_iconst (v := 0) hx hb dX12_odds_21 (by decide) ?_
    refine lv_istore (lv' := [(4, .int 0), (0, .ref m0), (1, .int x), (2, .int y), (3, .int z)]) hx hb dX12_odds_22 hl (by decide) rfl (fun ls hl => ?_)
    refine lv_iload_n hx hb dX12_odds_24 rfl (lv_at hl 2 rfl) ?_
    refine vp_callSi (va_runS (As := [.int x]) (rest := []) ⟨hx, hb, hml, hown, hts⟩ (c_mCell l dC dI x) (va_cwS 1 hts gX12_odds_X12_isCell rfl rfl rfl (by decide +kernel) ⟨Nat.le_of_ble_eq_true rfl, Nat.le_of_ble_eq_true rfl⟩) ⟨fun a U g mk q => ⟨q.1, trivial⟩, fun U hU hW => ⟨rfl, trivial⟩⟩ rfl rfl hl.1 rfl (lv_room (Nat.le_of_ble_eq_true rfl)) dX12_odds_25 ⟨Nat.le_of_ble_eq_true rfl, Nat.le_of_ble_eq_true rfl⟩).run (fun r_69 hw_70 => ?_)
    rcases hw_70 with ⟨rfl, h_71, h_72⟩ | ⟨rfl, h_73⟩
    · skip
      obtain ⟨jx_74, hj_75, rfl⟩ := in_of (n := 35) (M := 35) rfl h_71 h_72
      refine lv_if_eq (tgt := 58) hx hb dX12_odds_28 (by decide) (fun c_76 => absurd c_76 (by decide)) (fun _ => ?_)
      refine lv_iload_n hx hb dX12_odds_31 rfl (lv_at hl 3 rfl) ?_
      refine vp_callSi (va_runS (As := [.int y]) (rest := []) ⟨hx, hb, hml, hown, hts⟩ (c_mCell l dC dI y) (va_cwS 1 hts gX12_odds_X12_isCell rfl rfl rfl (by decide +kernel) ⟨Nat.le_of_ble_eq_true rfl, Nat.le_of_ble_eq_true rfl⟩) ⟨fun a U g mk q => ⟨q.1, trivial⟩, fun U hU hW => ⟨rfl, trivial⟩⟩ rfl rfl hl.1 rfl (lv_room (Nat.le_of_ble_eq_true rfl)) dX12_odds_32 ⟨Nat.le_of_ble_eq_true rfl, Nat.le_of_ble_eq_true rfl⟩).run (fun r_77 hw_78 => ?_)
      rcases hw_78 with ⟨rfl, h_79, h_80⟩ | ⟨rfl, h_81⟩
      · skip
        obtain ⟨jy_82, hj_83, rfl⟩ := in_of (n := 35) (M := 35) rfl h_79 h_80
        refine lv_if_ne (tgt := 49) hx hb dX12_odds_35 (by decide) (fun _ => ?_) (fun c_84 => absurd c_84 (by decide))
        refine lv_iload_n hx hb dX12_odds_49 rfl (lv_at hl 4 rfl) ?_
        refine lv_iconst (v := 0) hx hb dX12_odds_50 (by decide) ?_
        refine lv_iconst (v := 1) hx hb dX12_odds_51 (by decide) ?_
        refine vp_callSi (va_runS (As := [.int z, .int 0, .int 1]) (rest := []) ⟨hx, hb, hml, hown, hts⟩ (c_in l dC dI z 0 1) (va_cwS 3 hts gX12_odds_X12_in rfl rfl rfl (by decide +kernel) ⟨Nat.le_of_ble_eq_true rfl, Nat.le_of_ble_eq_true rfl⟩) ⟨fun a U g mk q => ⟨q.1, trivial⟩, fun U hU hW => ⟨rfl, trivial⟩⟩ rfl rfl hl.1 rfl (lv_room (Nat.le_of_ble_eq_true rfl)) dX12_odds_52 ⟨Nat.le_of_ble_eq_true rfl, Nat.le_of_ble_eq_true rfl⟩).run (fun r_85 hw_86 => ?_)
        rcases hw_86 with ⟨rfl, h_87, h_88⟩ | ⟨rfl, h_89⟩
        · skip
          refine lv_if_ne (tgt := 62) hx hb dX12_odds_55 (by decide) (fun _ => ?_) (fun c_90 => absurd c_90 (by decide))
          refine lv_aload_n hx hb dX12_odds_62 rfl (lv_at hl 1 rfl) ?_
          have hPc := hP.sub (ws' := [(m0, .inr (14, [.int 0, .ref aS, .ref aI, .int 0, .int 0, .int 0, .int 0, .int 0, .int 0, .ref aB, .ref aT, .int 0, .int 0, .ref aG, .ref aO, .ref aN, .ref aD, .long bv, .ref aY, .int 0, .int 0, .int 0, .int 0])), (aS, .inl (cS, 901, .inl s0)), (aB, .inl (cB, 6, .inl fB)), (aD, .inl (cD, 36, .inl fD))]) [0, 1, 2, 5] rfl
          have hDc := hD.sub (ws' := [(m0, .inr (14, [.int 0, .ref aS, .ref aI, .int 0, .int 0, .int 0, .int 0, .int 0, .int 0, .ref aB, .ref aT, .int 0, .int 0, .ref aG, .ref aO, .ref aN, .ref aD, .long bv, .ref aY, .int 0, .int 0, .int 0, .int 0])), (aS, .inl (cS, 901, .inl s0)), (aB, .inl (cB, 6, .inl fB)), (aD, .inl (cD, 36, .inl fD))]) [0, 1, 2, 5] (by decide) rfl
          have hKc := hK.sub (tys' := [(cS, .int), (cB, .int), (cD, .int)]) [0, 1, 4] rfl
          have hFc := va_free (wc := [(m0, .inr (14, [.int 0, .ref aS, .ref aI, .int 0, .int 0, .int 0, .int 0, .int 0, .int 0, .ref aB, .ref aT, .int 0, .int 0, .ref aG, .ref aO, .ref aN, .ref aD, .long bv, .ref aY, .int 0, .int 0, .int 0, .int 0])), (aS, .inl (cS, 901, .inl s0)), (aB, .inl (cB, 6, .inl fB)), (aD, .inl (cD, 36, .inl fD))]) hD hS hA [0, 1, 2, 5] rfl
          refine va_callv (va_runV (As := []) (rest := []) ⟨hx, hb, hml, hown, hts⟩ (c_looksFor0 l dC dI m0 aS aI aB aT aG aO aN aD aY bv cS cB cD (fB) (fD) H.size) (cwV 0 hts gX12_odds_X12_looksForDrifts rfl rfl rfl (by decide +kernel) ⟨Nat.le_of_ble_eq_true rfl, Nat.le_of_ble_eq_true rfl⟩) ⟨fun a U g mk q => by obtain ⟨q0, q1, qP, qK, qD⟩ := q; exact ⟨q0, q1, qP, va_K.moved (u := U) (U := U.calling g mk a) (Vm.Alike.refl U.vm) qK, qD⟩, va_recv hK hP (ci := 14) (q0 := 0) rfl rfl, fun U hU hW => ⟨rfl, by rw [hU], by rw [hU]; exact hPc, va_K.moved hW.alike hKc, hDc.weaken (fun _ _ _ _ => trivial)⟩⟩ rfl rfl hl.1 rfl (lv_room (Nat.le_of_ble_eq_true rfl)) dX12_odds_63 ⟨Nat.le_of_ble_eq_true rfl, Nat.le_of_ble_eq_true rfl⟩) hS (fun q _ h => hFc q h) hFc (fun u tC H1 locs htC hvm hw_92 hB hz1 hk1 hS => ?_)
          obtain ⟨fB2_93, fD2_94⟩ := u
          try dsimp only at hw_92 hB
          obtain ⟨hP1, hK1, hD1⟩ := hB
          rw [htC] at hP1
          have hK1 := va_K.moved hvm.symm hK1
          obtain ⟨hP, hD⟩ := va_join (wr := [(aO, .inl (cO, 36, .inr (.inl fO))), (aN, .inl (cN, 36, .inr (.inl fN)))]) (w1 := [(m0, .inr (14, [.int 0, .ref aS, .ref aI, .int 0, .int 0, .int 0, .int 0, .int 0, .int 0, .ref aB, .ref aT, .int 0, .int 0, .ref aG, .ref aO, .ref aN, .ref aD, .long bv, .ref aY, .int 0, .int 0, .int 0, .int 0])), (aS, .inl (cS, 901, .inl s0)), (aB, .inl (cB, 6, .inl fB2_93)), (aD, .inl (cD, 36, .inl fD2_94))]) hP hD [0, 1, 2, 5] [3, 4] rfl rfl (by decide) (by decide) hk1 hFc hP1 hD1
          have hK := (hK.sub (tys' := [(cO, .long), (cN, .long)]) [2, 3] rfl).app hK1
          generalize H1 = H at hP hS ⊢
          have hP : va_P (dC, dI) vwCl [(aO, .inl (cO, 36, .inr (.inl fO))), (aN, .inl (cN, 36, .inr (.inl fN))), (m0, .inr (14, [.int 0, .ref aS, .ref aI, .int 0, .int 0, .int 0, .int 0, .int 0, .int 0, .ref aB, .ref aT, .int 0, .int 0, .ref aG, .ref aO, .ref aN, .ref aD, .long bv, .ref aY, .int 0, .int 0, .int 0, .int 0])), (aS, .inl (cS, 901, .inl s0)), (aB, .inl (cB, 6, .inl fB2_93)), (aD, .inl (cD, 36, .inl fD2_94))] H := hP
          have hD : va_D A [(aO, .inl (cO, 36, .inr (.inl fO))), (aN, .inl (cN, 36, .inr (.inl fN))), (m0, .inr (14, [.int 0, .ref aS, .ref aI, .int 0, .int 0, .int 0, .int 0, .int 0, .int 0, .ref aB, .ref aT, .int 0, .int 0, .ref aG, .ref aO, .ref aN, .ref aD, .long bv, .ref aY, .int 0, .int 0, .int 0, .int 0])), (aS, .inl (cS, 901, .inl s0)), (aB, .inl (cB, 6, .inl fB2_93)), (aD, .inl (cD, 36, .inl fD2_94))] := hD
          have hK : va_K (dC, dI) vwCl [(cO, .long), (cN, .long), (cS, .int), (cB, .int), (cD, .int)] s := hK
          refine lv_aload_n hx hb dX12_odds_66 rfl (lv_at hl 1 rfl) ?_
          refine lv_iload_n hx hb dX12_odds_67 rfl (lv_at hl 2 rfl) ?_
          have hPc := hP.sub (ws' := [(m0, .inr (14, [.int 0, .ref aS, .ref aI, .int 0, .int 0, .int 0, .int 0, .int 0, .int 0, .ref aB, .ref aT, .int 0, .int 0, .ref aG, .ref aO, .ref aN, .ref aD, .long bv, .ref aY, .int 0, .int 0, .int 0, .int 0])), (aO, .inl (cO, 36, .inr (.inl fO)))]) [2, 0] rfl
          have hDc := hD.sub (ws' := [(m0, .inr (14, [.int 0, .ref aS, .ref aI, .int 0, .int 0, .int 0, .int 0, .int 0, .int 0, .ref aB, .ref aT, .int 0, .int 0, .ref aG, .ref aO, .ref aN, .ref aD, .long bv, .ref aY, .int 0, .int 0, .int 0, .int 0])), (aO, .inl (cO, 36, .inr (.inl fO)))]) [2, 0] (by decide) rfl
          have hKc := hK.sub (tys' := [(cO, .long)]) [0] rfl
          have hFc := va_free (wc := [(m0, .inr (14, [.int 0, .ref aS, .ref aI, .int 0, .int 0, .int 0, .int 0, .int 0, .int 0, .ref aB, .ref aT, .int 0, .int 0, .ref aG, .ref aO, .ref aN, .ref aD, .long bv, .ref aY, .int 0, .int 0, .int 0, .int 0])), (aO, .inl (cO, 36, .inr (.inl fO)))]) hD hS hA [2, 0] rfl
          refine va_callv (va_runV (As := [.int (nI jx_74)]) (rest := []) ⟨hx, hb, hml, hown, hts⟩ (c_begins l dC dI m0 aS aI aB aT aG aO aN aD aY bv cO (fO) (jx_74) H.size (by omega)) (cwV 1 hts gX12_odds_X12_begins rfl rfl rfl (by decide +kernel) ⟨Nat.le_of_ble_eq_true rfl, Nat.le_of_ble_eq_true rfl⟩) ⟨fun a U g mk q => by obtain ⟨q0, q1, qP, qK, qD⟩ := q; exact ⟨q0, q1, qP, va_K.moved (u := U) (U := U.calling g mk a) (Vm.Alike.refl U.vm) qK, qD⟩, va_recv hK hP (ci := 14) (q0 := 2) rfl rfl, fun U hU hW => ⟨rfl, by rw [hU], by rw [hU]; exact hPc, va_K.moved hW.alike hKc, hDc.weaken (fun _ _ _ _ => trivial)⟩⟩ rfl rfl hl.1 rfl (lv_room (Nat.le_of_ble_eq_true rfl)) dX12_odds_68 ⟨Nat.le_of_ble_eq_true rfl, Nat.le_of_ble_eq_true rfl⟩) hS (fun q _ h => hFc q h) hFc (fun u tC H1 locs htC hvm hw_96 hB hz1 hk1 hS => ?_)
          obtain ⟨fO2_97, rfl⟩ : ∃ z, z = u := ⟨_, rfl⟩
          try dsimp only at hw_96 hB
          obtain ⟨hP1, hK1, hD1⟩ := hB
          rw [htC] at hP1
          have hK1 := va_K.moved hvm.symm hK1
          obtain ⟨hP, hD⟩ := va_join (wr := [(aN, .inl (cN, 36, .inr (.inl fN))), (aS, .inl (cS, 901, .inl s0)), (aB, .inl (cB, 6, .inl fB2_93)), (aD, .inl (cD, 36, .inl fD2_94))]) (w1 := [(m0, .inr (14, [.int 0, .ref aS, .ref aI, .int 0, .int 0, .int 0, .int 0, .int 0, .int 0, .ref aB, .ref aT, .int 0, .int 0, .ref aG, .ref aO, .ref aN, .ref aD, .long bv, .ref aY, .int 0, .int 0, .int 0, .int 0])), (aO, .inl (cO, 36, .inr (.inl fO2_97)))]) hP hD [2, 0] [1, 3, 4, 5] rfl rfl (by decide) (by decide) hk1 hFc hP1 hD1
          have hK := (hK.sub (tys' := [(cN, .long), (cS, .int), (cB, .int), (cD, .int)]) [1, 2, 3, 4] rfl).app hK1
          generalize H1 = H at hP hS ⊢
          have hP : va_P (dC, dI) vwCl [(aN, .inl (cN, 36, .inr (.inl fN))), (aS, .inl (cS, 901, .inl s0)), (aB, .inl (cB, 6, .inl fB2_93)), (aD, .inl (cD, 36, .inl fD2_94)), (m0, .inr (14, [.int 0, .ref aS, .ref aI, .int 0, .int 0, .int 0, .int 0, .int 0, .int 0, .ref aB, .ref aT, .int 0, .int 0, .ref aG, .ref aO, .ref aN, .ref aD, .long bv, .ref aY, .int 0, .int 0, .int 0, .int 0])), (aO, .inl (cO, 36, .inr (.inl fO2_97)))] H := hP
          have hD : va_D A [(aN, .inl (cN, 36, .inr (.inl fN))), (aS, .inl (cS, 901, .inl s0)), (aB, .inl (cB, 6, .inl fB2_93)), (aD, .inl (cD, 36, .inl fD2_94)), (m0, .inr (14, [.int 0, .ref aS, .ref aI, .int 0, .int 0, .int 0, .int 0, .int 0, .int 0, .ref aB, .ref aT, .int 0, .int 0, .ref aG, .ref aO, .ref aN, .ref aD, .long bv, .ref aY, .int 0, .int 0, .int 0, .int 0])), (aO, .inl (cO, 36, .inr (.inl fO2_97)))] := hD
          have hK : va_K (dC, dI) vwCl [(cN, .long), (cS, .int), (cB, .int), (cD, .int), (cO, .long)] s := hK
          refine lv_iconst (v := 0) hx hb dX12_odds_71 (by decide) ?_
          refine lv_istore (lv' := [(5, .int 0), (4, .int 0), (0, .ref m0), (1, .int (nI jx_74)), (2, .int (nI jy_82)), (3, .int z)]) hx hb dX12_odds_72 hl (by decide) rfl (fun ls hl => ?_)
          refine lv_iload hx hb dX12_odds_74 (lv_at hl 0 rfl) ?_
          refine lv_aload_n hx hb dX12_odds_76 rfl (lv_at hl 2 rfl) ?_
          refine va_get (D := (dC, dI)) (ci := 14) (v := .ref aS) (C := RX12) (T := TX12) (N := 23) hx hb hts kc_mOdds_0 hown hK hP 4 rfl rfl 1 (by decide) (hts (.fieldLink RX12 9 "MistHeapsModel" "s" "[I") kc_mOdds_1) (fun _ h9 => h9) rfl dX12_odds_77 ?_
          refine lv_iconst (v := 2) hx hb dX12_odds_80 (by decide) ?_
          refine va_iald hx hb hK hP 1 1 rfl rfl (vp_in_nI (n := 2) (N := 901) (by omega) (by omega)) dX12_odds_81 ?_
          refine qi_as (y := 0) (rfl) ?_
          refine lv_icmp_ge (tgt := 105) hx hb dX12_odds_82 (by decide) (fun _ => ?_) (fun c_98 => absurd c_98 (by decide))
          refine lv_iload hx hb dX12_odds_105 (lv_at hl 1 rfl) ?_
          refine lv_if_eq (tgt := 121) hx hb dX12_odds_107 (by decide) (fun _ => ?_) (fun c_99 => absurd c_99 (by decide))
          refine lv_iload_n hx hb dX12_odds_121 rfl (lv_at hl 4 rfl) ?_
          refine lv_bipush (v := 40) hx hb dX12_odds_122 (by decide) ?_
          refine lv_icmp_ne (tgt := 134) hx hb dX12_odds_124 (by decide) (fun c_100 => ?_) (fun c_100 => ?_)
          · skip
            have c_100 : ¬ jy_82 = 40 := fun q => c_100 ((nI_eq (a := jy_82) (b := 40) (by omega) (by omega)).mpr q)
            refine lv_aload_n hx hb dX12_odds_134 rfl (lv_at hl 2 rfl) ?_
            refine va_get (D := (dC, dI)) (ci := 14) (v := .ref aO) (C := RX12) (T := TX12) (N := 23) hx hb hts kc_mOdds_0 hown hK hP 4 rfl rfl 14 (by decide) (hts (.fieldLink RX12 28 "MistHeapsModel" "often" "[J") kc_mOdds_2) (fun _ h9 => h9) rfl dX12_odds_135 ?_
            refine lv_iload_n hx hb dX12_odds_138 rfl (lv_at hl 4 rfl) ?_
            refine va_lald hx hb hK hP 5 4 rfl rfl (vp_in_nI (n := jy_82) (N := 36) (by omega) (by omega)) dX12_odds_139 ?_
            refine ql_as (y := lN (if jy_82 = jx_74 then 1 else 0)) ((show fO2_97 (nI jy_82).toNatClampNeg = fO2_97 jy_82 from by rw [nI_clamp (by omega)]).trans (by rw [hw_96 jy_82 (by omega)]; unfold ind; split <;> rfl)) ?_
            refine lv_lstore (lv' := [(5, .long (lN (if jy_82 = jx_74 then 1 else 0))), (4, .int 0), (0, .ref m0), (1, .int (nI jx_74)), (2, .int (nI jy_82)), (3, .int z)]) hx hb dX12_odds_140 hl (by decide) rfl (fun ls hl => ?_)
            refine lv_lload hx hb dX12_odds_142 (lv_at hl 0 rfl) ?_
            refine lv_aload_n hx hb dX12_odds_144 rfl (lv_at hl 2 rfl) ?_
            refine va_get (D := (dC, dI)) (ci := 14) (v := .ref aS) (C := RX12) (T := TX12) (N := 23) hx hb hts kc_mOdds_0 hown hK hP 4 rfl rfl 1 (by decide) (hts (.fieldLink RX12 9 "MistHeapsModel" "s" "[I") kc_mOdds_1) (fun _ h9 => h9) rfl dX12_odds_145 ?_
            refine lv_iconst (v := 2) hx hb dX12_odds_148 (by decide) ?_
            refine va_iald hx hb hK hP 1 1 rfl rfl (vp_in_nI (n := 2) (N := 901) (by omega) (by omega)) dX12_odds_149 ?_
            refine qi_as (y := 0) (rfl) ?_
            refine vp_callSl (va_runS (As := [.int 0]) (rest := [.long (lN (if jy_82 = jx_74 then 1 else 0))]) ⟨hx, hb, hml, hown, hts⟩ (c_twenties l dC dI 0 (by omega)) (va_cwS 1 hts gX12_odds_X12_twenties rfl rfl rfl (by decide +kernel) ⟨Nat.le_of_ble_eq_true rfl, Nat.le_of_ble_eq_true rfl⟩) ⟨fun a U g mk q => ⟨q.1, trivial⟩, fun U hU hW => ⟨rfl, trivial⟩⟩ rfl rfl hl.1 rfl (lv_room (Nat.le_of_ble_eq_true rfl)) dX12_odds_150 ⟨Nat.le_of_ble_eq_true rfl, Nat.le_of_ble_eq_true rfl⟩).run (fun r_101 hw_102 => ?_)
            refine ql_as (y := lN 1) (hw_102) ?_
            refine lv_iload_n hx hb dX12_odds_153 rfl (lv_at hl 5 rfl) ?_
            refine vp_callSl (va_runS (As := [.long (lN (if jy_82 = jx_74 then 1 else 0)), .long (lN 1), .int z]) (rest := []) ⟨hx, hb, hml, hown, hts⟩ (c_lowest l dC dI (if jy_82 = jx_74 then 1 else 0) 1 z (by split <;> omega) (by omega) (by omega) (Nat.mod_one _)) (va_cwS 3 hts gX12_odds_X12_lowest rfl rfl rfl (by decide +kernel) ⟨Nat.le_of_ble_eq_true rfl, Nat.le_of_ble_eq_true rfl⟩) ⟨fun a U g mk q => ⟨q.1, trivial⟩, fun U hU hW => ⟨rfl, trivial⟩⟩ rfl rfl hl.1 rfl (lv_room (Nat.le_of_ble_eq_true rfl)) dX12_odds_154 ⟨Nat.le_of_ble_eq_true rfl, Nat.le_of_ble_eq_true rfl⟩).run (fun r_103 hw_104 => ?_)
            rw [hQ]
            exact W.lret (v := r_103) hx hb hr (fun tQ htQ hWQ => ⟨⟨r_103, (), rfl, by have e1 : ¬ nI jy_82 = 40 := fun q => absurd ((nI_eq (a := jy_82) (b := 40) (by omega) (by omega)).mp q) (by omega); have e2 : (nI jx_74 = nI jy_82) ↔ jy_82 = jx_74 := ⟨fun q => ((nI_eq (by omega) (by omega)).mp q).symm, fun q => by rw [q]⟩; rw [hw_104, Nat.div_one]; simp only [f_odds, e2]; (repeat' split) <;> first | contradiction | rfl | simp_all, trivial⟩, hS.F htQ⟩) hS.2.2 dX12_odds_157
          · skip
            have c_100 : jy_82 = 40 := (nI_eq (a := jy_82) (b := 40) (by omega) (by omega)).mp c_100
            exfalso
            omega
        · skip
          refine lv_if_ne (tgt := 62) hx hb dX12_odds_55 (by decide) (fun c_105 => absurd c_105 (by decide)) (fun _ => ?_)
          refine lv_ldc2 (v := (-9223372036854775808)) hx hb hown (hts (.constantLong RX12 181 (-9223372036854775808)) kc_mOdds_3) dX12_odds_58 ?_
          rw [hQ]
          exact W.lret (v := (-9223372036854775808)) hx hb hr (fun tQ htQ hWQ => ⟨⟨(-9223372036854775808), (), rfl, by simp only [f_odds]; (repeat' split) <;> simp_all, trivial⟩, hS.F htQ⟩) hS.2.2 dX12_odds_61
      · skip
        refine lv_if_ne (tgt := 49) hx hb dX12_odds_35 (by decide) (fun c_106 => absurd c_106 (by decide)) (fun _ => ?_)
        refine lv_iload_n hx hb dX12_odds_38 rfl (lv_at hl 3 rfl) ?_
        refine lv_bipush (v := 40) hx hb dX12_odds_39 (by decide) ?_
        refine lv_icmp_eq (tgt := 49) hx hb dX12_odds_41 (by decide) (fun c_107 => ?_) (fun c_107 => ?_)
        · skip
          subst c_107
          refine lv_iload_n hx hb dX12_odds_49 rfl (lv_at hl 4 rfl) ?_
          refine lv_iconst (v := 0) hx hb dX12_odds_50 (by decide) ?_
          refine lv_iconst (v := 1) hx hb dX12_odds_51 (by decide) ?_
          refine vp_callSi (va_runS (As := [.int z, .int 0, .int 1]) (rest := []) ⟨hx, hb, hml, hown, hts⟩ (c_in l dC dI z 0 1) (va_cwS 3 hts gX12_odds_X12_in rfl rfl rfl (by decide +kernel) ⟨Nat.le_of_ble_eq_true rfl, Nat.le_of_ble_eq_true rfl⟩) ⟨fun a U g mk q => ⟨q.1, trivial⟩, fun U hU hW => ⟨rfl, trivial⟩⟩ rfl rfl hl.1 rfl (lv_room (Nat.le_of_ble_eq_true rfl)) dX12_odds_52 ⟨Nat.le_of_ble_eq_true rfl, Nat.le_of_ble_eq_true rfl⟩).run (fun r_108 hw_109 => ?_)
          rcases hw_109 with ⟨rfl, h_110, h_111⟩ | ⟨rfl, h_112⟩
          · skip
            refine lv_if_ne (tgt := 62) hx hb dX12_odds_55 (by decide) (fun _ => ?_) (fun c_113 => absurd c_113 (by decide))
            refine lv_aload_n hx hb dX12_odds_62 rfl (lv_at hl 1 rfl) ?_
            have hPc := hP.sub (ws' := [(m0, .inr (14, [.int 0, .ref aS, .ref aI, .int 0, .int 0, .int 0, .int 0, .int 0, .int 0, .ref aB, .ref aT, .int 0, .int 0, .ref aG, .ref aO, .ref aN, .ref aD, .long bv, .ref aY, .int 0, .int 0, .int 0, .int 0])), (aS, .inl (cS, 901, .inl s0)), (aB, .inl (cB, 6, .inl fB)), (aD, .inl (cD, 36, .inl fD))]) [0, 1, 2, 5] rfl
            have hDc := hD.sub (ws' := [(m0, .inr (14, [.int 0, .ref aS, .ref aI, .int 0, .int 0, .int 0, .int 0, .int 0, .int 0, .ref aB, .ref aT, .int 0, .int 0, .ref aG, .ref aO, .ref aN, .ref aD, .long bv, .ref aY, .int 0, .int 0, .int 0, .int 0])), (aS, .inl (cS, 901, .inl s0)), (aB, .inl (cB, 6, .inl fB)), (aD, .inl (cD, 36, .inl fD))]) [0, 1, 2, 5] (by decide) rfl
            have hKc := hK.sub (tys' := [(cS, .int), (cB, .int), (cD, .int)]) [0, 1, 4] rfl
            have hFc := va_free (wc := [(m0, .inr (14, [.int 0, .ref aS, .ref aI, .int 0, .int 0, .int 0, .int 0, .int 0, .int 0, .ref aB, .ref aT, .int 0, .int 0, .ref aG, .ref aO, .ref aN, .ref aD, .long bv, .ref aY, .int 0, .int 0, .int 0, .int 0])), (aS, .inl (cS, 901, .inl s0)), (aB, .inl (cB, 6, .inl fB)), (aD, .inl (cD, 36, .inl fD))]) hD hS hA [0, 1, 2, 5] rfl
            refine va_callv (va_runV (As := []) (rest := []) ⟨hx, hb, hml, hown, hts⟩ (c_looksFor0 l dC dI m0 aS aI aB aT aG aO aN aD aY bv cS cB cD (fB) (fD) H.size) (cwV 0 hts gX12_odds_X12_looksForDrifts rfl rfl rfl (by decide +kernel) ⟨Nat.le_of_ble_eq_true rfl, Nat.le_of_ble_eq_true rfl⟩) ⟨fun a U g mk q => by obtain ⟨q0, q1, qP, qK, qD⟩ := q; exact ⟨q0, q1, qP, va_K.moved (u := U) (U := U.calling g mk a) (Vm.Alike.refl U.vm) qK, qD⟩, va_recv hK hP (ci := 14) (q0 := 0) rfl rfl, fun U hU hW => ⟨rfl, by rw [hU], by rw [hU]; exact hPc, va_K.moved hW.alike hKc, hDc.weaken (fun _ _ _ _ => trivial)⟩⟩ rfl rfl hl.1 rfl (lv_room (Nat.le_of_ble_eq_true rfl)) dX12_odds_63 ⟨Nat.le_of_ble_eq_true rfl, Nat.le_of_ble_eq_true rfl⟩) hS (fun q _ h => hFc q h) hFc (fun u tC H1 locs htC hvm hw_115 hB hz1 hk1 hS => ?_)
            obtain ⟨fB2_116, fD2_117⟩ := u
            try dsimp only at hw_115 hB
            obtain ⟨hP1, hK1, hD1⟩ := hB
            rw [htC] at hP1
            have hK1 := va_K.moved hvm.symm hK1
            obtain ⟨hP, hD⟩ := va_join (wr := [(aO, .inl (cO, 36, .inr (.inl fO))), (aN, .inl (cN, 36, .inr (.inl fN)))]) (w1 := [(m0, .inr (14, [.int 0, .ref aS, .ref aI, .int 0, .int 0, .int 0, .int 0, .int 0, .int 0, .ref aB, .ref aT, .int 0, .int 0, .ref aG, .ref aO, .ref aN, .ref aD, .long bv, .ref aY, .int 0, .int 0, .int 0, .int 0])), (aS, .inl (cS, 901, .inl s0)), (aB, .inl (cB, 6, .inl fB2_116)), (aD, .inl (cD, 36, .inl fD2_117))]) hP hD [0, 1, 2, 5] [3, 4] rfl rfl (by decide) (by decide) hk1 hFc hP1 hD1
            have hK := (hK.sub (tys' := [(cO, .long), (cN, .long)]) [2, 3] rfl).app hK1
            generalize H1 = H at hP hS ⊢
            have hP : va_P (dC, dI) vwCl [(aO, .inl (cO, 36, .inr (.inl fO))), (aN, .inl (cN, 36, .inr (.inl fN))), (m0, .inr (14, [.int 0, .ref aS, .ref aI, .int 0, .int 0, .int 0, .int 0, .int 0, .int 0, .ref aB, .ref aT, .int 0, .int 0, .ref aG, .ref aO, .ref aN, .ref aD, .long bv, .ref aY, .int 0, .int 0, .int 0, .int 0])), (aS, .inl (cS, 901, .inl s0)), (aB, .inl (cB, 6, .inl fB2_116)), (aD, .inl (cD, 36, .inl fD2_117))] H := hP
            have hD : va_D A [(aO, .inl (cO, 36, .inr (.inl fO))), (aN, .inl (cN, 36, .inr (.inl fN))), (m0, .inr (14, [.int 0, .ref aS, .ref aI, .int 0, .int 0, .int 0, .int 0, .int 0, .int 0, .ref aB, .ref aT, .int 0, .int 0, .ref aG, .ref aO, .ref aN, .ref aD, .long bv, .ref aY, .int 0, .int 0, .int 0, .int 0])), (aS, .inl (cS, 901, .inl s0)), (aB, .inl (cB, 6, .inl fB2_116)), (aD, .inl (cD, 36, .inl fD2_117))] := hD
            have hK : va_K (dC, dI) vwCl [(cO, .long), (cN, .long), (cS, .int), (cB, .int), (cD, .int)] s := hK
            refine lv_aload_n hx hb dX12_odds_66 rfl (lv_at hl 1 rfl) ?_
            refine lv_iload_n hx hb dX12_odds_67 rfl (lv_at hl 2 rfl) ?_
            have hPc := hP.sub (ws' := [(m0, .inr (14, [.int 0, .ref aS, .ref aI, .int 0, .int 0, .int 0, .int 0, .int 0, .int 0, .ref aB, .ref aT, .int 0, .int 0, .ref aG, .ref aO, .ref aN, .ref aD, .long bv, .ref aY, .int 0, .int 0, .int 0, .int 0])), (aO, .inl (cO, 36, .inr (.inl fO)))]) [2, 0] rfl
            have hDc := hD.sub (ws' := [(m0, .inr (14, [.int 0, .ref aS, .ref aI, .int 0, .int 0, .int 0, .int 0, .int 0, .int 0, .ref aB, .ref aT, .int 0, .int 0, .ref aG, .ref aO, .ref aN, .ref aD, .long bv, .ref aY, .int 0, .int 0, .int 0, .int 0])), (aO, .inl (cO, 36, .inr (.inl fO)))]) [2, 0] (by decide) rfl
            have hKc := hK.sub (tys' := [(cO, .long)]) [0] rfl
            have hFc := va_free (wc := [(m0, .inr (14, [.int 0, .ref aS, .ref aI, .int 0, .int 0, .int 0, .int 0, .int 0, .int 0, .ref aB, .ref aT, .int 0, .int 0, .ref aG, .ref aO, .ref aN, .ref aD, .long bv, .ref aY, .int 0, .int 0, .int 0, .int 0])), (aO, .inl (cO, 36, .inr (.inl fO)))]) hD hS hA [2, 0] rfl
            refine va_callv (va_runV (As := [.int (nI jx_74)]) (rest := []) ⟨hx, hb, hml, hown, hts⟩ (c_begins l dC dI m0 aS aI aB aT aG aO aN aD aY bv cO (fO) (jx_74) H.size (by omega)) (cwV 1 hts gX12_odds_X12_begins rfl rfl rfl (by decide +kernel) ⟨Nat.le_of_ble_eq_true rfl, Nat.le_of_ble_eq_true rfl⟩) ⟨fun a U g mk q => by obtain ⟨q0, q1, qP, qK, qD⟩ := q; exact ⟨q0, q1, qP, va_K.moved (u := U) (U := U.calling g mk a) (Vm.Alike.refl U.vm) qK, qD⟩, va_recv hK hP (ci := 14) (q0 := 2) rfl rfl, fun U hU hW => ⟨rfl, by rw [hU], by rw [hU]; exact hPc, va_K.moved hW.alike hKc, hDc.weaken (fun _ _ _ _ => trivial)⟩⟩ rfl rfl hl.1 rfl (lv_room (Nat.le_of_ble_eq_true rfl)) dX12_odds_68 ⟨Nat.le_of_ble_eq_true rfl, Nat.le_of_ble_eq_true rfl⟩) hS (fun q _ h => hFc q h) hFc (fun u tC H1 locs htC hvm hw_119 hB hz1 hk1 hS => ?_)
            obtain ⟨fO2_120, rfl⟩ : ∃ z, z = u := ⟨_, rfl⟩
            try dsimp only at hw_119 hB
            obtain ⟨hP1, hK1, hD1⟩ := hB
            rw [htC] at hP1
            have hK1 := va_K.moved hvm.symm hK1
            obtain ⟨hP, hD⟩ := va_join (wr := [(aN, .inl (cN, 36, .inr (.inl fN))), (aS, .inl (cS, 901, .inl s0)), (aB, .inl (cB, 6, .inl fB2_116)), (aD, .inl (cD, 36, .inl fD2_117))]) (w1 := [(m0, .inr (14, [.int 0, .ref aS, .ref aI, .int 0, .int 0, .int 0, .int 0, .int 0, .int 0, .ref aB, .ref aT, .int 0, .int 0, .ref aG, .ref aO, .ref aN, .ref aD, .long bv, .ref aY, .int 0, .int 0, .int 0, .int 0])), (aO, .inl (cO, 36, .inr (.inl fO2_120)))]) hP hD [2, 0] [1, 3, 4, 5] rfl rfl (by decide) (by decide) hk1 hFc hP1 hD1
            have hK := (hK.sub (tys' := [(cN, .long), (cS, .int), (cB, .int), (cD, .int)]) [1, 2, 3, 4] rfl).app hK1
            generalize H1 = H at hP hS ⊢
            have hP : va_P (dC, dI) vwCl [(aN, .inl (cN, 36, .inr (.inl fN))), (aS, .inl (cS, 901, .inl s0)), (aB, .inl (cB, 6, .inl fB2_116)), (aD, .inl (cD, 36, .inl fD2_117)), (m0, .inr (14, [.int 0, .ref aS, .ref aI, .int 0, .int 0, .int 0, .int 0, .int 0, .int 0, .ref aB, .ref aT, .int 0, .int 0, .ref aG, .ref aO, .ref aN, .ref aD, .long bv, .ref aY, .int 0, .int 0, .int 0, .int 0])), (aO, .inl (cO, 36, .inr (.inl fO2_120)))] H := hP
            have hD : va_D A [(aN, .inl (cN, 36, .inr (.inl fN))), (aS, .inl (cS, 901, .inl s0)), (aB, .inl (cB, 6, .inl fB2_116)), (aD, .inl (cD, 36, .inl fD2_117)), (m0, .inr (14, [.int 0, .ref aS, .ref aI, .int 0, .int 0, .int 0, .int 0, .int 0, .int 0, .ref aB, .ref aT, .int 0, .int 0, .ref aG, .ref aO, .ref aN, .ref aD, .long bv, .ref aY, .int 0, .int 0, .int 0, .int 0])), (aO, .inl (cO, 36, .inr (.inl fO2_120)))] := hD
            have hK : va_K (dC, dI) vwCl [(cN, .long), (cS, .int), (cB, .int), (cD, .int), (cO, .long)] s := hK
            refine lv_iconst (v := 0) hx hb dX12_odds_71 (by decide) ?_
            refine lv_istore (lv' := [(5, .int 0), (4, .int 0), (0, .ref m0), (1, .int (nI jx_74)), (2, .int 40), (3, .int z)]) hx hb dX12_odds_72 hl (by decide) rfl (fun ls hl => ?_)
            refine lv_iload hx hb dX12_odds_74 (lv_at hl 0 rfl) ?_
            refine lv_aload_n hx hb dX12_odds_76 rfl (lv_at hl 2 rfl) ?_
            refine va_get (D := (dC, dI)) (ci := 14) (v := .ref aS) (C := RX12) (T := TX12) (N := 23) hx hb hts kc_mOdds_0 hown hK hP 4 rfl rfl 1 (by decide) (hts (.fieldLink RX12 9 "MistHeapsModel" "s" "[I") kc_mOdds_1) (fun _ h9 => h9) rfl dX12_odds_77 ?_
            refine lv_iconst (v := 2) hx hb dX12_odds_80 (by decide) ?_
            refine va_iald hx hb hK hP 1 1 rfl rfl (vp_in_nI (n := 2) (N := 901) (by omega) (by omega)) dX12_odds_81 ?_
            refine qi_as (y := 0) (rfl) ?_
            refine lv_icmp_ge (tgt := 105) hx hb dX12_odds_82 (by decide) (fun _ => ?_) (fun c_121 => absurd c_121 (by decide))
            refine lv_iload hx hb dX12_odds_105 (lv_at hl 1 rfl) ?_
            refine lv_if_eq (tgt := 121) hx hb dX12_odds_107 (by decide) (fun _ => ?_) (fun c_122 => absurd c_122 (by decide))
            refine lv_iload_n hx hb dX12_odds_121 rfl (lv_at hl 4 rfl) ?_
            refine lv_bipush (v := 40) hx hb dX12_odds_122 (by decide) ?_
            refine lv_icmp_ne (tgt := 134) hx hb dX12_odds_124 (by decide) (fun c_123 => absurd c_123 (by decide)) (fun _ => ?_)
            refine lv_aload_n hx hb dX12_odds_127 rfl (lv_at hl 2 rfl) ?_
            have hPc := hP.sub (ws' := [(m0, .inr (14, [.int 0, .ref aS, .ref aI, .int 0, .int 0, .int 0, .int 0, .int 0, .int 0, .ref aB, .ref aT, .int 0, .int 0, .ref aG, .ref aO, .ref aN, .ref aD, .long bv, .ref aY, .int 0, .int 0, .int 0, .int 0])), (aS, .inl (cS, 901, .inl s0)), (aO, .inl (cO, 36, .inr (.inl fO2_120)))]) [4, 1, 5] rfl
            have hKc := hK.sub (tys' := [(cS, .int), (cO, .long)]) [1, 4] rfl
            refine vp_callSl (va_runV (As := []) (rest := []) ⟨hx, hb, hml, hown, hts⟩ (c_over0 l dC dI m0 aS aI aB aT aG aO aN aD aY bv cS cO (fO2_120)) (cwV 0 hts gX12_odds_X12_over rfl rfl rfl (by decide +kernel) ⟨Nat.le_of_ble_eq_true rfl, Nat.le_of_ble_eq_true rfl⟩) ⟨fun a U g mk q => by obtain ⟨q0, qP, qK⟩ := q; exact ⟨q0, qP, va_K.moved (u := U) (U := U.calling g mk a) (Vm.Alike.refl U.vm) qK⟩, va_recv hK hP (ci := 14) (q0 := 4) rfl rfl, fun U hU hW => ⟨rfl, by rw [hU]; exact hPc, va_K.moved hW.alike hKc⟩⟩ rfl rfl hl.1 rfl (lv_room (Nat.le_of_ble_eq_true rfl)) dX12_odds_128 ⟨Nat.le_of_ble_eq_true rfl, Nat.le_of_ble_eq_true rfl⟩).run (fun r_124 hw_125 => ?_)
            refine ql_as (y := lN 0) (hw_125) ?_
            refine lv_goto (tgt := 140) hx hb dX12_odds_131 (by decide) ?_
            refine lv_lstore (lv' := [(5, .long (lN 0)), (4, .int 0), (0, .ref m0), (1, .int (nI jx_74)), (2, .int 40), (3, .int z)]) hx hb dX12_odds_140 hl (by decide) rfl (fun ls hl => ?_)
            refine lv_lload hx hb dX12_odds_142 (lv_at hl 0 rfl) ?_
            refine lv_aload_n hx hb dX12_odds_144 rfl (lv_at hl 2 rfl) ?_
            refine va_get (D := (dC, dI)) (ci := 14) (v := .ref aS) (C := RX12) (T := TX12) (N := 23) hx hb hts kc_mOdds_0 hown hK hP 4 rfl rfl 1 (by decide) (hts (.fieldLink RX12 9 "MistHeapsModel" "s" "[I") kc_mOdds_1) (fun _ h9 => h9) rfl dX12_odds_145 ?_
            refine lv_iconst (v := 2) hx hb dX12_odds_148 (by decide) ?_
            refine va_iald hx hb hK hP 1 1 rfl rfl (vp_in_nI (n := 2) (N := 901) (by omega) (by omega)) dX12_odds_149 ?_
            refine qi_as (y := 0) (rfl) ?_
            refine vp_callSl (va_runS (As := [.int 0]) (rest := [.long (lN 0)]) ⟨hx, hb, hml, hown, hts⟩ (c_twenties l dC dI 0 (by omega)) (va_cwS 1 hts gX12_odds_X12_twenties rfl rfl rfl (by decide +kernel) ⟨Nat.le_of_ble_eq_true rfl, Nat.le_of_ble_eq_true rfl⟩) ⟨fun a U g mk q => ⟨q.1, trivial⟩, fun U hU hW => ⟨rfl, trivial⟩⟩ rfl rfl hl.1 rfl (lv_room (Nat.le_of_ble_eq_true rfl)) dX12_odds_150 ⟨Nat.le_of_ble_eq_true rfl, Nat.le_of_ble_eq_true rfl⟩).run (fun r_126 hw_127 => ?_)
            refine ql_as (y := lN 1) (hw_127) ?_
            refine lv_iload_n hx hb dX12_odds_153 rfl (lv_at hl 5 rfl) ?_
            refine vp_callSl (va_runS (As := [.long (lN 0), .long (lN 1), .int z]) (rest := []) ⟨hx, hb, hml, hown, hts⟩ (c_lowest l dC dI (0) 1 z (by omega) (by omega) (by omega) (Nat.mod_one _)) (va_cwS 3 hts gX12_odds_X12_lowest rfl rfl rfl (by decide +kernel) ⟨Nat.le_of_ble_eq_true rfl, Nat.le_of_ble_eq_true rfl⟩) ⟨fun a U g mk q => ⟨q.1, trivial⟩, fun U hU hW => ⟨rfl, trivial⟩⟩ rfl rfl hl.1 rfl (lv_room (Nat.le_of_ble_eq_true rfl)) dX12_odds_154 ⟨Nat.le_of_ble_eq_true rfl, Nat.le_of_ble_eq_true rfl⟩).run (fun r_128 hw_129 => ?_)
            rw [hQ]
            exact W.lret (v := r_128) hx hb hr (fun tQ htQ hWQ => ⟨⟨r_128, (), rfl, by rw [hw_129]; simp only [f_odds]; (repeat' split) <;> first | contradiction | rfl | simp_all, trivial⟩, hS.F htQ⟩) hS.2.2 dX12_odds_157
          · skip
            refine lv_if_ne (tgt := 62) hx hb dX12_odds_55 (by decide) (fun c_130 => absurd c_130 (by decide)) (fun _ => ?_)
            refine lv_ldc2 (v := (-9223372036854775808)) hx hb hown (hts (.constantLong RX12 181 (-9223372036854775808)) kc_mOdds_3) dX12_odds_58 ?_
            rw [hQ]
            exact W.lret (v := (-9223372036854775808)) hx hb hr (fun tQ htQ hWQ => ⟨⟨(-9223372036854775808), (), rfl, by simp only [f_odds]; (repeat' split) <;> simp_all, trivial⟩, hS.F htQ⟩) hS.2.2 dX12_odds_61
        · skip
          refine lv_iload hx hb dX12_odds_44 (lv_at hl 0 rfl) ?_
          refine lv_if_eq (tgt := 58) hx hb dX12_odds_46 (by decide) (fun _ => ?_) (fun c_131 => absurd c_131 (by decide))
          refine lv_ldc2 (v := (-9223372036854775808)) hx hb hown (hts (.constantLong RX12 181 (-9223372036854775808)) kc_mOdds_3) dX12_odds_58 ?_
          rw [hQ]
          exact W.lret (v := (-9223372036854775808)) hx hb hr (fun tQ htQ hWQ => ⟨⟨(-9223372036854775808), (), rfl, by simp only [f_odds]; (repeat' split) <;> simp_all, trivial⟩, hS.F htQ⟩) hS.2.2 dX12_odds_61
    · skip
      refine lv_if_eq (tgt := 58) hx hb dX12_odds_28 (by decide) (fun _ => ?_) (fun c_132 => absurd c_132 (by decide))
      refine lv_ldc2 (v := (-9223372036854775808)) hx hb hown (hts (.constantLong RX12 181 (-9223372036854775808)) kc_mOdds_3) dX12_odds_58 ?_
      rw [hQ]
      exact W.lret (v := (-9223372036854775808)) hx hb hr (fun tQ htQ hWQ => ⟨⟨(-9223372036854775808), (), rfl, by simp only [f_odds]; (repeat' split) <;> simp_all, trivial⟩, hS.F htQ⟩) hS.2.2 dX12_odds_61

set_option maxHeartbeats 4000000 in
set_option maxRecDepth 100000 in
theorem c_goesBy1 (l : Launch) (dC : Nat → ClassId) (dI : Nat → Nat → Nat) (m0 aS aI aB aT aG aO aN aD aY : Nat) (bv : Int64) (cS cO cN cD : ClassId) (fO fN : Nat → Int64) (fD : Nat → Int32) (j r0 : Nat) (sz : Nat) (zj : j < 36) (zr : r0 < 8) (zD : ∀ x, x < 36 → fD x = 0) : Met l yX12_goesBy wsX12_goesBy ({ frames := 4, cells := 0, slots := 0, locals := 88 } : Room) (va_Pc [.ref m0, .int (nI j), .int (nI r0), .int 1] (fun U => U.heap.size = sz ∧ va_P (dC, dI) vwCl [(m0, .inr (14, [.int 0, .ref aS, .ref aI, .int 0, .int 0, .int 0, .int 0, .int 0, .int 0, .ref aB, .ref aT, .int 0, .int 0, .ref aG, .ref aO, .ref aN, .ref aD, .long bv, .ref aY, .int 0, .int 0, .int 0, .int 0])), (aS, .inl (cS, 901, .inl s0)), (aO, .inl (cO, 36, .inr (.inl fO))), (aN, .inl (cN, 36, .inr (.inl fN))), (aD, .inl (cD, 36, .inl fD))] U.heap ∧ va_K (dC, dI) vwCl [(cS, .int), (cO, .long), (cN, .long), (cD, .int)] U ∧ va_D (fun _ => True) [(m0, .inr (14, [.int 0, .ref aS, .ref aI, .int 0, .int 0, .int 0, .int 0, .int 0, .int 0, .ref aB, .ref aT, .int 0, .int 0, .ref aG, .ref aO, .ref aN, .ref aD, .long bv, .ref aY, .int 0, .int 0, .int 0, .int 0])), (aS, .inl (cS, 901, .inl s0)), (aO, .inl (cO, 36, .inr (.inl fO))), (aN, .inl (cN, 36, .inr (.inl fN))), (aD, .inl (cD, 36, .inl fD))])) (va_Qv (fun (u : (Nat → Int64) × (Nat → Int64)) => match u with | (fO2, fN2) => ∀ x, x < 36 → fO2 x = ind (pth 1 j r0) 1 x) (fun (u : (Nat → Int64) × (Nat → Int64)) (t : State) => match u with | (fO2, fN2) => va_P (dC, dI) vwCl [(m0, .inr (14, [.int 0, .ref aS, .ref aI, .int 0, .int 0, .int 0, .int 0, .int 0, .int 0, .ref aB, .ref aT, .int 0, .int 0, .ref aG, .ref aO, .ref aN, .ref aD, .long bv, .ref aY, .int 0, .int 0, .int 0, .int 0])), (aS, .inl (cS, 901, .inl s0)), (aO, .inl (cO, 36, .inr (.inl fO2))), (aN, .inl (cN, 36, .inr (.inl fN2))), (aD, .inl (cD, 36, .inl fD))] t.heap ∧ va_K (dC, dI) vwCl [(cS, .int), (cO, .long), (cN, .long), (cD, .int)] t ∧ va_D (va_A [(m0, .inr (14, [.int 0, .ref aS, .ref aI, .int 0, .int 0, .int 0, .int 0, .int 0, .int 0, .ref aB, .ref aT, .int 0, .int 0, .ref aG, .ref aO, .ref aN, .ref aD, .long bv, .ref aY, .int 0, .int 0, .int 0, .int 0])), (aS, .inl (cS, 901, .inl s0)), (aO, .inl (cO, 36, .inr (.inl fO))), (aN, .inl (cN, 36, .inr (.inl fN))), (aD, .inl (cD, 36, .inl fD))] sz) [(m0, .inr (14, [.int 0, .ref aS, .ref aI, .int 0, .int 0, .int 0, .int 0, .int 0, .int 0, .ref aB, .ref aT, .int 0, .int 0, .ref aG, .ref aO, .ref aN, .ref aD, .long bv, .ref aY, .int 0, .int 0, .int 0, .int 0])), (aS, .inl (cS, 901, .inl s0)), (aO, .inl (cO, 36, .inr (.inl fO2))), (aN, .inl (cN, 36, .inr (.inl fN2))), (aD, .inl (cD, 36, .inl fD))]) (va_A [(m0, .inr (14, [.int 0, .ref aS, .ref aI, .int 0, .int 0, .int 0, .int 0, .int 0, .int 0, .ref aB, .ref aT, .int 0, .int 0, .ref aG, .ref aO, .ref aN, .ref aD, .long bv, .ref aY, .int 0, .int 0, .int 0, .int 0])), (aS, .inl (cS, 901, .inl s0)), (aO, .inl (cO, 36, .inr (.inl fO))), (aN, .inl (cN, 36, .inr (.inl fN))), (aD, .inl (cD, 36, .inl fD))] sz)) 0 0 (va_A [(m0, .inr (14, [.int 0, .ref aS, .ref aI, .int 0, .int 0, .int 0, .int 0, .int 0, .int 0, .ref aB, .ref aT, .int 0, .int 0, .ref aG, .ref aO, .ref aN, .ref aD, .long bv, .ref aY, .int 0, .int 0, .int 0, .int 0])), (aS, .inl (cS, 901, .inl s0)), (aO, .inl (cO, 36, .inr (.inl fO))), (aN, .inl (cN, 36, .inr (.inl fN))), (aD, .inl (cD, 36, .inl fD))] sz) := by
  refine met_ofQ (cc := cX12_goesBy) (maxL := 6) (ret := none) (by decide) rfl ?_
  intro p e s m args below meth c s₁ Q B hml hv hQ
  obtain ⟨rfl, hsz, hP, hK, hD0⟩ := hv
  have hx := B.exec
  have hb := B.bytes
  have hr := B.returns
  have hts := atoms_spec (ws := wsX12_goesBy) B.pre
  have hown : s.vm.findClass RX12 = some m.cls := findClass_of_methodNamed B.named
  have hlocks := B.notSynchronized
  subst hsz
  have hD := hD0.self (sz := s.heap.size)
  generalize hAe : va_A [(m0, .inr (14, [.int 0, .ref aS, .ref aI, .int 0, .int 0, .int 0, .int 0, .int 0, .int 0, .ref aB, .ref aT, .int 0, .int 0, .ref aG, .ref aO, .ref aN, .ref aD, .long bv, .ref aY, .int 0, .int 0, .int 0, .int 0])), (aS, .inl (cS, 901, .inl s0)), (aO, .inl (cO, 36, .inr (.inl fO))), (aN, .inl (cN, 36, .inr (.inl fN))), (aD, .inl (cD, 36, .inl fD))] s.heap.size = A at hD hQ ⊢
  have hA : ∀ q : Nat, s.heap.size ≤ q → A q := fun q h => by rw [← hAe]; exact Or.inr h
  have hS : va_S A s.heap s.heap [] := va_S.rf
  have hl := lv_entry [.ref m0, .int (nI j), .int (nI r0), .int 1] (n := 6) (Nat.le_of_ble_eq_true rfl)
  rw [lg_entry_eq]
  generalize (lg_sl [.ref m0, .int (nI j), .int (nI r0), .int 1] ++ List.replicate (6 - (lg_sl [.ref m0, .int (nI j), .int (nI r0), .int 1]).length) Slot.unset).toArray = ls at hl ⊢
  generalize hag : ([.ref m0, .int (nI j), .int (nI r0), .int 1] : List Value).toArray = args at hts hQ ⊢
  have hl : lv_has ls 6 [(0, .ref m0), (1, .int (nI j)), (2, .int (nI r0)), (3, .int 1)] := hl
  obtain ⟨H, hH⟩ : ∃ H : Heap, H = s.heap := ⟨_, rfl⟩
  rw [← hH] at hP
  rw [← hH]
  have hS : va_S A s.heap H [] := by rw [hH]; exact hS
  obtain ⟨locs, hlo⟩ : ∃ L : List Loc, L = [] := ⟨_, rfl⟩
  rw [← hlo] at hS
  rw [← hlo]
  clear hH hlo
  refine lv_aload_n hx hb dX12_goesBy_0 rfl (lv_at hl 0 rfl) ?_
  refine lv_iload_n hx hb dX12_goesBy_1 rfl (lv_at hl 1 rfl) ?_
  have hPc := hP.sub (ws' := [(m0, .inr (14, [.int 0, .ref aS, .ref aI, .int 0, .int 0, .int 0, .int 0, .int 0, .int 0, .ref aB, .ref aT, .int 0, .int 0, .ref aG, .ref aO, .ref aN, .ref aD, .long bv, .ref aY, .int 0, .int 0, .int 0, .int 0])), (aO, .inl (cO, 36, .inr (.inl fO)))]) [0, 2] rfl
  have hDc := hD.sub (ws' := [(m0, .inr (14, [.int 0, .ref aS, .ref aI, .int 0, .int 0, .int 0, .int 0, .int 0, .int 0, .ref aB, .ref aT, .int 0, .int 0, .ref aG, .ref aO, .ref aN, .ref aD, .long bv, .ref aY, .int 0, .int 0, .int 0, .int 0])), (aO, .inl (cO, 36, .inr (.inl fO)))]) [0, 2] (by decide) rfl
  have hKc := hK.sub (tys' := [(cO, .long)]) [1] rfl
  have hFc := va_free (wc := [(m0, .inr (14, [.int 0, .ref aS, .ref aI, .int 0, .int 0, .int 0, .int 0, .int 0, .int 0, .ref aB, .ref aT, .int 0, .int 0, .ref aG, .ref aO, .ref aN, .ref aD, .long bv, .ref aY, .int 0, .int 0, .int 0, .int 0])), (aO, .inl (cO, 36, .inr (.inl fO)))]) hD hS hA [0, 2] rfl
  refine va_callv (va_runV (As := [.int (nI j)]) (rest := []) ⟨hx, hb, hml, hown, hts⟩ (c_begins l dC dI m0 aS aI aB aT aG aO aN aD aY bv cO (fO) (j) H.size (by omega)) (cwV 1 hts gX12_goesBy_X12_begins rfl rfl rfl (by decide +kernel) ⟨Nat.le_of_ble_eq_true rfl, Nat.le_of_ble_eq_true rfl⟩) ⟨fun a U g mk q => by obtain ⟨q0, q1, qP, qK, qD⟩ := q; exact ⟨q0, q1, qP, va_K.moved (u := U) (U := U.calling g mk a) (Vm.Alike.refl U.vm) qK, qD⟩, va_recv hK hP (ci := 14) (q0 := 0) rfl rfl, fun U hU hW => ⟨rfl, by rw [hU], by rw [hU]; exact hPc, va_K.moved hW.alike hKc, hDc.weaken (fun _ _ _ _ => trivial)⟩⟩ rfl rfl hl.1 rfl (lv_room (Nat.le_of_ble_eq_true rfl)) dX12_goesBy_2 ⟨Nat.le_of_ble_eq_true rfl, Nat.le_of_ble_eq_true rfl⟩) hS (fun q _ h => hFc q h) hFc (fun u tC H1 locs htC hvm hw_2 hB hz1 hk1 hS => ?_)
  obtain ⟨fO2_3, rfl⟩ : ∃ z, z = u := ⟨_, rfl⟩
  try dsimp only at hw_2 hB
  obtain ⟨hP1, hK1, hD1⟩ := hB
  rw [htC] at hP1
  have hK1 := va_K.moved hvm.symm hK1
  obtain ⟨hP, hD⟩ := va_join (wr := [(aS, .inl (cS, 901, .inl s0)), (aN, .inl (cN, 36, .inr (.inl fN))), (aD, .inl (cD, 36, .inl fD))]) (w1 := [(m0, .inr (14, [.int 0, .ref aS, .ref aI, .int 0, .int 0, .int 0, .int 0, .int 0, .int 0, .ref aB, .ref aT, .int 0, .int 0, .ref aG, .ref aO, .ref aN, .ref aD, .long bv, .ref aY, .int 0, .int 0, .int 0, .int 0])), (aO, .inl (cO, 36, .inr (.inl fO2_3)))]) hP hD [0, 2] [1, 3, 4] rfl rfl (by decide) (by decide) hk1 hFc hP1 hD1
  have hK := (hK.sub (tys' := [(cS, .int), (cN, .long), (cD, .int)]) [0, 2, 3] rfl).app hK1
  generalize H1 = H at hP hS ⊢
  have hP : va_P (dC, dI) vwCl [(aS, .inl (cS, 901, .inl s0)), (aN, .inl (cN, 36, .inr (.inl fN))), (aD, .inl (cD, 36, .inl fD)), (m0, .inr (14, [.int 0, .ref aS, .ref aI, .int 0, .int 0, .int 0, .int 0, .int 0, .int 0, .ref aB, .ref aT, .int 0, .int 0, .ref aG, .ref aO, .ref aN, .ref aD, .long bv, .ref aY, .int 0, .int 0, .int 0, .int 0])), (aO, .inl (cO, 36, .inr (.inl fO2_3)))] H := hP
  have hD : va_D A [(aS, .inl (cS, 901, .inl s0)), (aN, .inl (cN, 36, .inr (.inl fN))), (aD, .inl (cD, 36, .inl fD)), (m0, .inr (14, [.int 0, .ref aS, .ref aI, .int 0, .int 0, .int 0, .int 0, .int 0, .int 0, .ref aB, .ref aT, .int 0, .int 0, .ref aG, .ref aO, .ref aN, .ref aD, .long bv, .ref aY, .int 0, .int 0, .int 0, .int 0])), (aO, .inl (cO, 36, .inr (.inl fO2_3)))] := hD
  have hK : va_K (dC, dI) vwCl [(cS, .int), (cN, .long), (cD, .int), (cO, .long)] s := hK
  refine lv_iload_n hx hb dX12_goesBy_5 rfl (lv_at hl 3 rfl) ?_
  refine lv_istore (lv' := [(4, .int 1), (0, .ref m0), (1, .int (nI j)), (2, .int (nI r0)), (3, .int 1)]) hx hb dX12_goesBy_6 hl (by decide) rfl (fun ls hl => ?_)
  refine lv_iload hx hb dX12_goesBy_8 (lv_at hl 0 rfl) ?_
  refine lv_if_le (tgt := 60) hx hb dX12_goesBy_10 (by decide) (fun c_4 => absurd c_4 (by decide)) (fun _ => ?_)
  refine lv_iinc (v := 0) (lv' := [(4, .int 0), (0, .ref m0), (1, .int (nI j)), (2, .int (nI r0)), (3, .int 1)]) hx hb dX12_goesBy_13 hl (k := 0) rfl (by decide) (by decide) rfl (fun ls hl => ?_)
  refine lv_iload hx hb dX12_goesBy_16 (lv_at hl 0 rfl) ?_
  refine lv_iconst (v := 2) hx hb dX12_goesBy_18 (by decide) ?_
  refine lv_icmp_ne (tgt := 29) hx hb dX12_goesBy_19 (by decide) (fun _ => ?_) (fun c_5 => absurd c_5 (by decide))
  refine lv_iload hx hb dX12_goesBy_29 (lv_at hl 0 rfl) ?_
  refine lv_iconst (v := 1) hx hb dX12_goesBy_31 (by decide) ?_
  refine lv_icmp_ne (tgt := 45) hx hb dX12_goesBy_32 (by decide) (fun _ => ?_) (fun c_6 => absurd c_6 (by decide))
  refine lv_iload_n hx hb dX12_goesBy_45 rfl (lv_at hl 3 rfl) ?_
  refine lv_bipush (v := 8) hx hb dX12_goesBy_46 (by decide) ?_
  refine lv_irem hx hb dX12_goesBy_48 (by decide) ?_
  refine qi_as (y := nI (r0 % 8)) (pk_rem (a := r0) (d := 8) (by omega) (by omega) (by omega)) ?_
  refine lv_istore (lv' := [(5, .int (nI (r0 % 8))), (4, .int 0), (0, .ref m0), (1, .int (nI j)), (2, .int (nI r0)), (3, .int 1)]) hx hb dX12_goesBy_49 hl (by decide) rfl (fun ls hl => ?_)
  refine lv_aload_n hx hb dX12_goesBy_51 rfl (lv_at hl 2 rfl) ?_
  refine lv_iload hx hb dX12_goesBy_52 (lv_at hl 0 rfl) ?_
  have hPc := hP.sub (ws' := [(m0, .inr (14, [.int 0, .ref aS, .ref aI, .int 0, .int 0, .int 0, .int 0, .int 0, .int 0, .ref aB, .ref aT, .int 0, .int 0, .ref aG, .ref aO, .ref aN, .ref aD, .long bv, .ref aY, .int 0, .int 0, .int 0, .int 0])), (aS, .inl (cS, 901, .inl s0)), (aO, .inl (cO, 36, .inr (.inl fO2_3))), (aN, .inl (cN, 36, .inr (.inl fN))), (aD, .inl (cD, 36, .inl fD))]) [3, 0, 4, 1, 2] rfl
  have hDc := hD.sub (ws' := [(m0, .inr (14, [.int 0, .ref aS, .ref aI, .int 0, .int 0, .int 0, .int 0, .int 0, .int 0, .ref aB, .ref aT, .int 0, .int 0, .ref aG, .ref aO, .ref aN, .ref aD, .long bv, .ref aY, .int 0, .int 0, .int 0, .int 0])), (aS, .inl (cS, 901, .inl s0)), (aO, .inl (cO, 36, .inr (.inl fO2_3))), (aN, .inl (cN, 36, .inr (.inl fN))), (aD, .inl (cD, 36, .inl fD))]) [3, 0, 4, 1, 2] (by decide) rfl
  have hKc := hK.sub (tys' := [(cS, .int), (cO, .long), (cN, .long), (cD, .int)]) [0, 3, 1, 2] rfl
  have hFc := va_free (wc := [(m0, .inr (14, [.int 0, .ref aS, .ref aI, .int 0, .int 0, .int 0, .int 0, .int 0, .int 0, .ref aB, .ref aT, .int 0, .int 0, .ref aG, .ref aO, .ref aN, .ref aD, .long bv, .ref aY, .int 0, .int 0, .int 0, .int 0])), (aS, .inl (cS, 901, .inl s0)), (aO, .inl (cO, 36, .inr (.inl fO2_3))), (aN, .inl (cN, 36, .inr (.inl fN))), (aD, .inl (cD, 36, .inl fD))]) hD hS hA [3, 0, 4, 1, 2] rfl
  refine va_callv (va_runV (As := [.int (nI (r0 % 8))]) (rest := []) ⟨hx, hb, hml, hown, hts⟩ (c_goesOn l dC dI m0 aS aI aB aT aG aO aN aD aY bv cS cO cN cD (fO2_3) (fN) fD (j) 0 (r0 % 8) H.size (by omega) (by omega) (by omega) hw_2 zD) (cwV 1 hts gX12_goesBy_X12_goesOn rfl rfl rfl (by decide +kernel) ⟨Nat.le_of_ble_eq_true rfl, Nat.le_of_ble_eq_true rfl⟩) ⟨fun a U g mk q => by obtain ⟨q0, q1, qP, qK, qD⟩ := q; exact ⟨q0, q1, qP, va_K.moved (u := U) (U := U.calling g mk a) (Vm.Alike.refl U.vm) qK, qD⟩, va_recv hK hP (ci := 14) (q0 := 3) rfl rfl, fun U hU hW => ⟨rfl, by rw [hU], by rw [hU]; exact hPc, va_K.moved hW.alike hKc, hDc.weaken (fun _ _ _ _ => trivial)⟩⟩ rfl rfl hl.1 rfl (lv_room (Nat.le_of_ble_eq_true rfl)) dX12_goesBy_54 ⟨Nat.le_of_ble_eq_true rfl, Nat.le_of_ble_eq_true rfl⟩) hS (fun q _ h => hFc q h) hFc (fun u tC H1 locs htC hvm hw_8 hB hz1 hk1 hS => ?_)
  obtain ⟨fO2_9, fN2_10⟩ := u
  try dsimp only at hw_8 hB
  obtain ⟨hP1, hK1, hD1⟩ := hB
  rw [htC] at hP1
  have hK1 := va_K.moved hvm.symm hK1
  obtain ⟨hP, hD⟩ := va_join (wr := []) (w1 := [(m0, .inr (14, [.int 0, .ref aS, .ref aI, .int 0, .int 0, .int 0, .int 0, .int 0, .int 0, .ref aB, .ref aT, .int 0, .int 0, .ref aG, .ref aO, .ref aN, .ref aD, .long bv, .ref aY, .int 0, .int 0, .int 0, .int 0])), (aS, .inl (cS, 901, .inl s0)), (aO, .inl (cO, 36, .inr (.inl fO2_9))), (aN, .inl (cN, 36, .inr (.inl fN2_10))), (aD, .inl (cD, 36, .inl fD))]) hP hD [3, 0, 4, 1, 2] [] rfl rfl (by decide) (by decide) hk1 hFc hP1 hD1
  have hK := (hK.sub (tys' := []) [] rfl).app hK1
  generalize H1 = H at hP hS ⊢
  have hP : va_P (dC, dI) vwCl [(m0, .inr (14, [.int 0, .ref aS, .ref aI, .int 0, .int 0, .int 0, .int 0, .int 0, .int 0, .ref aB, .ref aT, .int 0, .int 0, .ref aG, .ref aO, .ref aN, .ref aD, .long bv, .ref aY, .int 0, .int 0, .int 0, .int 0])), (aS, .inl (cS, 901, .inl s0)), (aO, .inl (cO, 36, .inr (.inl fO2_9))), (aN, .inl (cN, 36, .inr (.inl fN2_10))), (aD, .inl (cD, 36, .inl fD))] H := hP
  have hD : va_D A [(m0, .inr (14, [.int 0, .ref aS, .ref aI, .int 0, .int 0, .int 0, .int 0, .int 0, .int 0, .ref aB, .ref aT, .int 0, .int 0, .ref aG, .ref aO, .ref aN, .ref aD, .long bv, .ref aY, .int 0, .int 0, .int 0, .int 0])), (aS, .inl (cS, 901, .inl s0)), (aO, .inl (cO, 36, .inr (.inl fO2_9))), (aN, .inl (cN, 36, .inr (.inl fN2_10))), (aD, .inl (cD, 36, .inl fD))] := hD
  have hK : va_K (dC, dI) vwCl [(cS, .int), (cO, .long), (cN, .long), (cD, .int)] s := hK
  have hn_11 : nb j (r0 % 8) < 36 := nb_lt (by omega) (by omega)
  refine lv_goto (tgt := 8) hx hb dX12_goesBy_57 (by decide) ?_
  refine lv_iload hx hb dX12_goesBy_8 (lv_at hl 1 rfl) ?_
  refine lv_if_le (tgt := 60) hx hb dX12_goesBy_10 (by decide) (fun _ => ?_) (fun c_12 => absurd c_12 (by decide))
  rw [hQ]
  have hP9 := hP.sub (ws' := [(m0, .inr (14, [.int 0, .ref aS, .ref aI, .int 0, .int 0, .int 0, .int 0, .int 0, .int 0, .ref aB, .ref aT, .int 0, .int 0, .ref aG, .ref aO, .ref aN, .ref aD, .long bv, .ref aY, .int 0, .int 0, .int 0, .int 0])), (aS, .inl (cS, 901, .inl s0)), (aO, .inl (cO, 36, .inr (.inl fO2_9))), (aN, .inl (cN, 36, .inr (.inl fN2_10))), (aD, .inl (cD, 36, .inl fD))]) [0, 1, 2, 3, 4] rfl
  have hD9 := hD.sub (ws' := [(m0, .inr (14, [.int 0, .ref aS, .ref aI, .int 0, .int 0, .int 0, .int 0, .int 0, .int 0, .ref aB, .ref aT, .int 0, .int 0, .ref aG, .ref aO, .ref aN, .ref aD, .long bv, .ref aY, .int 0, .int 0, .int 0, .int 0])), (aS, .inl (cS, 901, .inl s0)), (aO, .inl (cO, 36, .inr (.inl fO2_9))), (aN, .inl (cN, 36, .inr (.inl fN2_10))), (aD, .inl (cD, 36, .inl fD))]) [0, 1, 2, 3, 4] (by decide) rfl
  have hK9 := hK.sub (tys' := [(cS, .int), (cO, .long), (cN, .long), (cD, .int)]) [0, 1, 2, 3] rfl
  exact W.vret hx hb hr (fun tQ htQ hWQ => ⟨⟨(fO2_9, fN2_10), rfl, hw_8, by rw [htQ]; exact hP9, va_K.moved hWQ.alike hK9, hD9⟩, hS.F htQ⟩) hS.2.2 dX12_goesBy_60

set_option maxHeartbeats 4000000 in
set_option maxRecDepth 100000 in
theorem c_goesBy2 (l : Launch) (dC : Nat → ClassId) (dI : Nat → Nat → Nat) (m0 aS aI aB aT aG aO aN aD aY : Nat) (bv : Int64) (cS cO cN cD : ClassId) (fO fN : Nat → Int64) (fD : Nat → Int32) (j r0 : Nat) (sz : Nat) (zj : j < 36) (zr : r0 < 64) (zD : ∀ x, x < 36 → fD x = 0) : Met l yX12_goesBy wsX12_goesBy ({ frames := 4, cells := 0, slots := 0, locals := 88 } : Room) (va_Pc [.ref m0, .int (nI j), .int (nI r0), .int 2] (fun U => U.heap.size = sz ∧ va_P (dC, dI) vwCl [(m0, .inr (14, [.int 0, .ref aS, .ref aI, .int 0, .int 0, .int 0, .int 0, .int 0, .int 0, .ref aB, .ref aT, .int 0, .int 0, .ref aG, .ref aO, .ref aN, .ref aD, .long bv, .ref aY, .int 0, .int 0, .int 0, .int 0])), (aS, .inl (cS, 901, .inl s0)), (aO, .inl (cO, 36, .inr (.inl fO))), (aN, .inl (cN, 36, .inr (.inl fN))), (aD, .inl (cD, 36, .inl fD))] U.heap ∧ va_K (dC, dI) vwCl [(cS, .int), (cO, .long), (cN, .long), (cD, .int)] U ∧ va_D (fun _ => True) [(m0, .inr (14, [.int 0, .ref aS, .ref aI, .int 0, .int 0, .int 0, .int 0, .int 0, .int 0, .ref aB, .ref aT, .int 0, .int 0, .ref aG, .ref aO, .ref aN, .ref aD, .long bv, .ref aY, .int 0, .int 0, .int 0, .int 0])), (aS, .inl (cS, 901, .inl s0)), (aO, .inl (cO, 36, .inr (.inl fO))), (aN, .inl (cN, 36, .inr (.inl fN))), (aD, .inl (cD, 36, .inl fD))])) (va_Qv (fun (u : (Nat → Int64) × (Nat → Int64)) => match u with | (fO2, fN2) => ∀ x, x < 36 → fO2 x = ind (pth 2 j r0) 2 x) (fun (u : (Nat → Int64) × (Nat → Int64)) (t : State) => match u with | (fO2, fN2) => va_P (dC, dI) vwCl [(m0, .inr (14, [.int 0, .ref aS, .ref aI, .int 0, .int 0, .int 0, .int 0, .int 0, .int 0, .ref aB, .ref aT, .int 0, .int 0, .ref aG, .ref aO, .ref aN, .ref aD, .long bv, .ref aY, .int 0, .int 0, .int 0, .int 0])), (aS, .inl (cS, 901, .inl s0)), (aO, .inl (cO, 36, .inr (.inl fO2))), (aN, .inl (cN, 36, .inr (.inl fN2))), (aD, .inl (cD, 36, .inl fD))] t.heap ∧ va_K (dC, dI) vwCl [(cS, .int), (cO, .long), (cN, .long), (cD, .int)] t ∧ va_D (va_A [(m0, .inr (14, [.int 0, .ref aS, .ref aI, .int 0, .int 0, .int 0, .int 0, .int 0, .int 0, .ref aB, .ref aT, .int 0, .int 0, .ref aG, .ref aO, .ref aN, .ref aD, .long bv, .ref aY, .int 0, .int 0, .int 0, .int 0])), (aS, .inl (cS, 901, .inl s0)), (aO, .inl (cO, 36, .inr (.inl fO))), (aN, .inl (cN, 36, .inr (.inl fN))), (aD, .inl (cD, 36, .inl fD))] sz) [(m0, .inr (14, [.int 0, .ref aS, .ref aI, .int 0, .int 0, .int 0, .int 0, .int 0, .int 0, .ref aB, .ref aT, .int 0, .int 0, .ref aG, .ref aO, .ref aN, .ref aD, .long bv, .ref aY, .int 0, .int 0, .int 0, .int 0])), (aS, .inl (cS, 901, .inl s0)), (aO, .inl (cO, 36, .inr (.inl fO2))), (aN, .inl (cN, 36, .inr (.inl fN2))), (aD, .inl (cD, 36, .inl fD))]) (va_A [(m0, .inr (14, [.int 0, .ref aS, .ref aI, .int 0, .int 0, .int 0, .int 0, .int 0, .int 0, .ref aB, .ref aT, .int 0, .int 0, .ref aG, .ref aO, .ref aN, .ref aD, .long bv, .ref aY, .int 0, .int 0, .int 0, .int 0])), (aS, .inl (cS, 901, .inl s0)), (aO, .inl (cO, 36, .inr (.inl fO))), (aN, .inl (cN, 36, .inr (.inl fN))), (aD, .inl (cD, 36, .inl fD))] sz)) 0 0 (va_A [(m0, .inr (14, [.int 0, .ref aS, .ref aI, .int 0, .int 0, .int 0, .int 0, .int 0, .int 0, .ref aB, .ref aT, .int 0, .int 0, .ref aG, .ref aO, .ref aN, .ref aD, .long bv, .ref aY, .int 0, .int 0, .int 0, .int 0])), (aS, .inl (cS, 901, .inl s0)), (aO, .inl (cO, 36, .inr (.inl fO))), (aN, .inl (cN, 36, .inr (.inl fN))), (aD, .inl (cD, 36, .inl fD))] sz) := by
  refine met_ofQ (cc := cX12_goesBy) (maxL := 6) (ret := none) (by decide) rfl ?_
  intro p e s m args below meth c s₁ Q B hml hv hQ
  obtain ⟨rfl, hsz, hP, hK, hD0⟩ := hv
  have hx := B.exec
  have hb := B.bytes
  have hr := B.returns
  have hts := atoms_spec (ws := wsX12_goesBy) B.pre
  have hown : s.vm.findClass RX12 = some m.cls := findClass_of_methodNamed B.named
  have hlocks := B.notSynchronized
  subst hsz
  have hD := hD0.self (sz := s.heap.size)
  generalize hAe : va_A [(m0, .inr (14, [.int 0, .ref aS, .ref aI, .int 0, .int 0, .int 0, .int 0, .int 0, .int 0, .ref aB, .ref aT, .int 0, .int 0, .ref aG, .ref aO, .ref aN, .ref aD, .long bv, .ref aY, .int 0, .int 0, .int 0, .int 0])), (aS, .inl (cS, 901, .inl s0)), (aO, .inl (cO, 36, .inr (.inl fO))), (aN, .inl (cN, 36, .inr (.inl fN))), (aD, .inl (cD, 36, .inl fD))] s.heap.size = A at hD hQ ⊢
  have hA : ∀ q : Nat, s.heap.size ≤ q → A q := fun q h => by rw [← hAe]; exact Or.inr h
  have hS : va_S A s.heap s.heap [] := va_S.rf
  have hl := lv_entry [.ref m0, .int (nI j), .int (nI r0), .int 2] (n := 6) (Nat.le_of_ble_eq_true rfl)
  rw [lg_entry_eq]
  generalize (lg_sl [.ref m0, .int (nI j), .int (nI r0), .int 2] ++ List.replicate (6 - (lg_sl [.ref m0, .int (nI j), .int (nI r0), .int 2]).length) Slot.unset).toArray = ls at hl ⊢
  generalize hag : ([.ref m0, .int (nI j), .int (nI r0), .int 2] : List Value).toArray = args at hts hQ ⊢
  have hl : lv_has ls 6 [(0, .ref m0), (1, .int (nI j)), (2, .int (nI r0)), (3, .int 2)] := hl
  obtain ⟨H, hH⟩ : ∃ H : Heap, H = s.heap := ⟨_, rfl⟩
  rw [← hH] at hP
  rw [← hH]
  have hS : va_S A s.heap H [] := by rw [hH]; exact hS
  obtain ⟨locs, hlo⟩ : ∃ L : List Loc, L = [] := ⟨_, rfl⟩
  rw [← hlo] at hS
  rw [← hlo]
  clear hH hlo
  refine lv_aload_n hx hb dX12_goesBy_0 rfl (lv_at hl 0 rfl) ?_
  refine lv_iload_n hx hb dX12_goesBy_1 rfl (lv_at hl 1 rfl) ?_
  have hPc := hP.sub (ws' := [(m0, .inr (14, [.int 0, .ref aS, .ref aI, .int 0, .int 0, .int 0, .int 0, .int 0, .int 0, .ref aB, .ref aT, .int 0, .int 0, .ref aG, .ref aO, .ref aN, .ref aD, .long bv, .ref aY, .int 0, .int 0, .int 0, .int 0])), (aO, .inl (cO, 36, .inr (.inl fO)))]) [0, 2] rfl
  have hDc := hD.sub (ws' := [(m0, .inr (14, [.int 0, .ref aS, .ref aI, .int 0, .int 0, .int 0, .int 0, .int 0, .int 0, .ref aB, .ref aT, .int 0, .int 0, .ref aG, .ref aO, .ref aN, .ref aD, .long bv, .ref aY, .int 0, .int 0, .int 0, .int 0])), (aO, .inl (cO, 36, .inr (.inl fO)))]) [0, 2] (by decide) rfl
  have hKc := hK.sub (tys' := [(cO, .long)]) [1] rfl
  have hFc := va_free (wc := [(m0, .inr (14, [.int 0, .ref aS, .ref aI, .int 0, .int 0, .int 0, .int 0, .int 0, .int 0, .ref aB, .ref aT, .int 0, .int 0, .ref aG, .ref aO, .ref aN, .ref aD, .long bv, .ref aY, .int 0, .int 0, .int 0, .int 0])), (aO, .inl (cO, 36, .inr (.inl fO)))]) hD hS hA [0, 2] rfl
  refine va_callv (va_runV (As := [.int (nI j)]) (rest := []) ⟨hx, hb, hml, hown, hts⟩ (c_begins l dC dI m0 aS aI aB aT aG aO aN aD aY bv cO (fO) (j) H.size (by omega)) (cwV 1 hts gX12_goesBy_X12_begins rfl rfl rfl (by decide +kernel) ⟨Nat.le_of_ble_eq_true rfl, Nat.le_of_ble_eq_true rfl⟩) ⟨fun a U g mk q => by obtain ⟨q0, q1, qP, qK, qD⟩ := q; exact ⟨q0, q1, qP, va_K.moved (u := U) (U := U.calling g mk a) (Vm.Alike.refl U.vm) qK, qD⟩, va_recv hK hP (ci := 14) (q0 := 0) rfl rfl, fun U hU hW => ⟨rfl, by rw [hU], by rw [hU]; exact hPc, va_K.moved hW.alike hKc, hDc.weaken (fun _ _ _ _ => trivial)⟩⟩ rfl rfl hl.1 rfl (lv_room (Nat.le_of_ble_eq_true rfl)) dX12_goesBy_2 ⟨Nat.le_of_ble_eq_true rfl, Nat.le_of_ble_eq_true rfl⟩) hS (fun q _ h => hFc q h) hFc (fun u tC H1 locs htC hvm hw_2 hB hz1 hk1 hS => ?_)
  obtain ⟨fO2_3, rfl⟩ : ∃ z, z = u := ⟨_, rfl⟩
  try dsimp only at hw_2 hB
  obtain ⟨hP1, hK1, hD1⟩ := hB
  rw [htC] at hP1
  have hK1 := va_K.moved hvm.symm hK1
  obtain ⟨hP, hD⟩ := va_join (wr := [(aS, .inl (cS, 901, .inl s0)), (aN, .inl (cN, 36, .inr (.inl fN))), (aD, .inl (cD, 36, .inl fD))]) (w1 := [(m0, .inr (14, [.int 0, .ref aS, .ref aI, .int 0, .int 0, .int 0, .int 0, .int 0, .int 0, .ref aB, .ref aT, .int 0, .int 0, .ref aG, .ref aO, .ref aN, .ref aD, .long bv, .ref aY, .int 0, .int 0, .int 0, .int 0])), (aO, .inl (cO, 36, .inr (.inl fO2_3)))]) hP hD [0, 2] [1, 3, 4] rfl rfl (by decide) (by decide) hk1 hFc hP1 hD1
  have hK := (hK.sub (tys' := [(cS, .int), (cN, .long), (cD, .int)]) [0, 2, 3] rfl).app hK1
  generalize H1 = H at hP hS ⊢
  have hP : va_P (dC, dI) vwCl [(aS, .inl (cS, 901, .inl s0)), (aN, .inl (cN, 36, .inr (.inl fN))), (aD, .inl (cD, 36, .inl fD)), (m0, .inr (14, [.int 0, .ref aS, .ref aI, .int 0, .int 0, .int 0, .int 0, .int 0, .int 0, .ref aB, .ref aT, .int 0, .int 0, .ref aG, .ref aO, .ref aN, .ref aD, .long bv, .ref aY, .int 0, .int 0, .int 0, .int 0])), (aO, .inl (cO, 36, .inr (.inl fO2_3)))] H := hP
  have hD : va_D A [(aS, .inl (cS, 901, .inl s0)), (aN, .inl (cN, 36, .inr (.inl fN))), (aD, .inl (cD, 36, .inl fD)), (m0, .inr (14, [.int 0, .ref aS, .ref aI, .int 0, .int 0, .int 0, .int 0, .int 0, .int 0, .ref aB, .ref aT, .int 0, .int 0, .ref aG, .ref aO, .ref aN, .ref aD, .long bv, .ref aY, .int 0, .int 0, .int 0, .int 0])), (aO, .inl (cO, 36, .inr (.inl fO2_3)))] := hD
  have hK : va_K (dC, dI) vwCl [(cS, .int), (cN, .long), (cD, .int), (cO, .long)] s := hK
  refine lv_iload_n hx hb dX12_goesBy_5 rfl (lv_at hl 3 rfl) ?_
  refine lv_istore (lv' := [(4, .int 2), (0, .ref m0), (1, .int (nI j)), (2, .int (nI r0)), (3, .int 2)]) hx hb dX12_goesBy_6 hl (by decide) rfl (fun ls hl => ?_)
  refine lv_iload hx hb dX12_goesBy_8 (lv_at hl 0 rfl) ?_
  refine lv_if_le (tgt := 60) hx hb dX12_goesBy_10 (by decide) (fun c_4 => absurd c_4 (by decide)) (fun _ => ?_)
  refine lv_iinc (v := 1) (lv' := [(4, .int 1), (0, .ref m0), (1, .int (nI j)), (2, .int (nI r0)), (3, .int 2)]) hx hb dX12_goesBy_13 hl (k := 0) rfl (by decide) (by decide) rfl (fun ls hl => ?_)
  refine lv_iload hx hb dX12_goesBy_16 (lv_at hl 0 rfl) ?_
  refine lv_iconst (v := 2) hx hb dX12_goesBy_18 (by decide) ?_
  refine lv_icmp_ne (tgt := 29) hx hb dX12_goesBy_19 (by decide) (fun _ => ?_) (fun c_5 => absurd c_5 (by decide))
  refine lv_iload hx hb dX12_goesBy_29 (lv_at hl 0 rfl) ?_
  refine lv_iconst (v := 1) hx hb dX12_goesBy_31 (by decide) ?_
  refine lv_icmp_ne (tgt := 45) hx hb dX12_goesBy_32 (by decide) (fun c_6 => absurd c_6 (by decide)) (fun _ => ?_)
  refine lv_iload_n hx hb dX12_goesBy_35 rfl (lv_at hl 3 rfl) ?_
  refine lv_bipush (v := 8) hx hb dX12_goesBy_36 (by decide) ?_
  refine lv_idiv hx hb dX12_goesBy_38 (by decide) ?_
  refine qi_as (y := nI (r0 / 8)) (pk_div (a := r0) (d := 8) (by omega) (by omega) (by omega)) ?_
  refine lv_bipush (v := 8) hx hb dX12_goesBy_39 (by decide) ?_
  refine lv_irem hx hb dX12_goesBy_41 (by decide) ?_
  refine qi_as (y := nI ((r0 / 8) % 8)) (pk_rem (a := r0 / 8) (d := 8) (by omega) (by omega) (by omega)) ?_
  refine lv_goto (tgt := 49) hx hb dX12_goesBy_42 (by decide) ?_
  refine lv_istore (lv' := [(5, .int (nI ((r0 / 8) % 8))), (4, .int 1), (0, .ref m0), (1, .int (nI j)), (2, .int (nI r0)), (3, .int 2)]) hx hb dX12_goesBy_49 hl (by decide) rfl (fun ls hl => ?_)
  refine lv_aload_n hx hb dX12_goesBy_51 rfl (lv_at hl 2 rfl) ?_
  refine lv_iload hx hb dX12_goesBy_52 (lv_at hl 0 rfl) ?_
  have hPc := hP.sub (ws' := [(m0, .inr (14, [.int 0, .ref aS, .ref aI, .int 0, .int 0, .int 0, .int 0, .int 0, .int 0, .ref aB, .ref aT, .int 0, .int 0, .ref aG, .ref aO, .ref aN, .ref aD, .long bv, .ref aY, .int 0, .int 0, .int 0, .int 0])), (aS, .inl (cS, 901, .inl s0)), (aO, .inl (cO, 36, .inr (.inl fO2_3))), (aN, .inl (cN, 36, .inr (.inl fN))), (aD, .inl (cD, 36, .inl fD))]) [3, 0, 4, 1, 2] rfl
  have hDc := hD.sub (ws' := [(m0, .inr (14, [.int 0, .ref aS, .ref aI, .int 0, .int 0, .int 0, .int 0, .int 0, .int 0, .ref aB, .ref aT, .int 0, .int 0, .ref aG, .ref aO, .ref aN, .ref aD, .long bv, .ref aY, .int 0, .int 0, .int 0, .int 0])), (aS, .inl (cS, 901, .inl s0)), (aO, .inl (cO, 36, .inr (.inl fO2_3))), (aN, .inl (cN, 36, .inr (.inl fN))), (aD, .inl (cD, 36, .inl fD))]) [3, 0, 4, 1, 2] (by decide) rfl
  have hKc := hK.sub (tys' := [(cS, .int), (cO, .long), (cN, .long), (cD, .int)]) [0, 3, 1, 2] rfl
  have hFc := va_free (wc := [(m0, .inr (14, [.int 0, .ref aS, .ref aI, .int 0, .int 0, .int 0, .int 0, .int 0, .int 0, .ref aB, .ref aT, .int 0, .int 0, .ref aG, .ref aO, .ref aN, .ref aD, .long bv, .ref aY, .int 0, .int 0, .int 0, .int 0])), (aS, .inl (cS, 901, .inl s0)), (aO, .inl (cO, 36, .inr (.inl fO2_3))), (aN, .inl (cN, 36, .inr (.inl fN))), (aD, .inl (cD, 36, .inl fD))]) hD hS hA [3, 0, 4, 1, 2] rfl
  refine va_callv (va_runV (As := [.int (nI ((r0 / 8) % 8))]) (rest := []) ⟨hx, hb, hml, hown, hts⟩ (c_goesOn l dC dI m0 aS aI aB aT aG aO aN aD aY bv cS cO cN cD (fO2_3) (fN) fD (j) 0 ((r0 / 8) % 8) H.size (by omega) (by omega) (by omega) hw_2 zD) (cwV 1 hts gX12_goesBy_X12_goesOn rfl rfl rfl (by decide +kernel) ⟨Nat.le_of_ble_eq_true rfl, Nat.le_of_ble_eq_true rfl⟩) ⟨fun a U g mk q => by obtain ⟨q0, q1, qP, qK, qD⟩ := q; exact ⟨q0, q1, qP, va_K.moved (u := U) (U := U.calling g mk a) (Vm.Alike.refl U.vm) qK, qD⟩, va_recv hK hP (ci := 14) (q0 := 3) rfl rfl, fun U hU hW => ⟨rfl, by rw [hU], by rw [hU]; exact hPc, va_K.moved hW.alike hKc, hDc.weaken (fun _ _ _ _ => trivial)⟩⟩ rfl rfl hl.1 rfl (lv_room (Nat.le_of_ble_eq_true rfl)) dX12_goesBy_54 ⟨Nat.le_of_ble_eq_true rfl, Nat.le_of_ble_eq_true rfl⟩) hS (fun q _ h => hFc q h) hFc (fun u tC H1 locs htC hvm hw_8 hB hz1 hk1 hS => ?_)
  obtain ⟨fO2_9, fN2_10⟩ := u
  try dsimp only at hw_8 hB
  obtain ⟨hP1, hK1, hD1⟩ := hB
  rw [htC] at hP1
  have hK1 := va_K.moved hvm.symm hK1
  obtain ⟨hP, hD⟩ := va_join (wr := []) (w1 := [(m0, .inr (14, [.int 0, .ref aS, .ref aI, .int 0, .int 0, .int 0, .int 0, .int 0, .int 0, .ref aB, .ref aT, .int 0, .int 0, .ref aG, .ref aO, .ref aN, .ref aD, .long bv, .ref aY, .int 0, .int 0, .int 0, .int 0])), (aS, .inl (cS, 901, .inl s0)), (aO, .inl (cO, 36, .inr (.inl fO2_9))), (aN, .inl (cN, 36, .inr (.inl fN2_10))), (aD, .inl (cD, 36, .inl fD))]) hP hD [3, 0, 4, 1, 2] [] rfl rfl (by decide) (by decide) hk1 hFc hP1 hD1
  have hK := (hK.sub (tys' := []) [] rfl).app hK1
  generalize H1 = H at hP hS ⊢
  have hP : va_P (dC, dI) vwCl [(m0, .inr (14, [.int 0, .ref aS, .ref aI, .int 0, .int 0, .int 0, .int 0, .int 0, .int 0, .ref aB, .ref aT, .int 0, .int 0, .ref aG, .ref aO, .ref aN, .ref aD, .long bv, .ref aY, .int 0, .int 0, .int 0, .int 0])), (aS, .inl (cS, 901, .inl s0)), (aO, .inl (cO, 36, .inr (.inl fO2_9))), (aN, .inl (cN, 36, .inr (.inl fN2_10))), (aD, .inl (cD, 36, .inl fD))] H := hP
  have hD : va_D A [(m0, .inr (14, [.int 0, .ref aS, .ref aI, .int 0, .int 0, .int 0, .int 0, .int 0, .int 0, .ref aB, .ref aT, .int 0, .int 0, .ref aG, .ref aO, .ref aN, .ref aD, .long bv, .ref aY, .int 0, .int 0, .int 0, .int 0])), (aS, .inl (cS, 901, .inl s0)), (aO, .inl (cO, 36, .inr (.inl fO2_9))), (aN, .inl (cN, 36, .inr (.inl fN2_10))), (aD, .inl (cD, 36, .inl fD))] := hD
  have hK : va_K (dC, dI) vwCl [(cS, .int), (cO, .long), (cN, .long), (cD, .int)] s := hK
  have hn_11 : nb j ((r0 / 8) % 8) < 36 := nb_lt (by omega) (by omega)
  refine lv_goto (tgt := 8) hx hb dX12_goesBy_57 (by decide) ?_
  refine lv_iload hx hb dX12_goesBy_8 (lv_at hl 1 rfl) ?_
  refine lv_if_le (tgt := 60) hx hb dX12_goesBy_10 (by decide) (fun c_12 => absurd c_12 (by decide)) (fun _ => ?_)
  refine lv_iinc (v := 0) (lv' := [(4, .int 0), (5, .int (nI ((r0 / 8) % 8))), (0, .ref m0), (1, .int (nI j)), (2, .int (nI r0)), (3, .int 2)]) hx hb dX12_goesBy_13 hl (k := 1) rfl (by decide) (by decide) rfl (fun ls hl => ?_)
  refine lv_iload hx hb dX12_goesBy_16 (lv_at hl 0 rfl) ?_
  refine lv_iconst (v := 2) hx hb dX12_goesBy_18 (by decide) ?_
  refine lv_icmp_ne (tgt := 29) hx hb dX12_goesBy_19 (by decide) (fun _ => ?_) (fun c_13 => absurd c_13 (by decide))
  refine lv_iload hx hb dX12_goesBy_29 (lv_at hl 0 rfl) ?_
  refine lv_iconst (v := 1) hx hb dX12_goesBy_31 (by decide) ?_
  refine lv_icmp_ne (tgt := 45) hx hb dX12_goesBy_32 (by decide) (fun _ => ?_) (fun c_14 => absurd c_14 (by decide))
  refine lv_iload_n hx hb dX12_goesBy_45 rfl (lv_at hl 4 rfl) ?_
  refine lv_bipush (v := 8) hx hb dX12_goesBy_46 (by decide) ?_
  refine lv_irem hx hb dX12_goesBy_48 (by decide) ?_
  refine qi_as (y := nI (r0 % 8)) (pk_rem (a := r0) (d := 8) (by omega) (by omega) (by omega)) ?_
  refine lv_istore (lv' := [(5, .int (nI (r0 % 8))), (4, .int 0), (0, .ref m0), (1, .int (nI j)), (2, .int (nI r0)), (3, .int 2)]) hx hb dX12_goesBy_49 hl (by decide) rfl (fun ls hl => ?_)
  refine lv_aload_n hx hb dX12_goesBy_51 rfl (lv_at hl 2 rfl) ?_
  refine lv_iload hx hb dX12_goesBy_52 (lv_at hl 0 rfl) ?_
  have hPc := hP.sub (ws' := [(m0, .inr (14, [.int 0, .ref aS, .ref aI, .int 0, .int 0, .int 0, .int 0, .int 0, .int 0, .ref aB, .ref aT, .int 0, .int 0, .ref aG, .ref aO, .ref aN, .ref aD, .long bv, .ref aY, .int 0, .int 0, .int 0, .int 0])), (aS, .inl (cS, 901, .inl s0)), (aO, .inl (cO, 36, .inr (.inl fO2_9))), (aN, .inl (cN, 36, .inr (.inl fN2_10))), (aD, .inl (cD, 36, .inl fD))]) [0, 1, 2, 3, 4] rfl
  have hDc := hD.sub (ws' := [(m0, .inr (14, [.int 0, .ref aS, .ref aI, .int 0, .int 0, .int 0, .int 0, .int 0, .int 0, .ref aB, .ref aT, .int 0, .int 0, .ref aG, .ref aO, .ref aN, .ref aD, .long bv, .ref aY, .int 0, .int 0, .int 0, .int 0])), (aS, .inl (cS, 901, .inl s0)), (aO, .inl (cO, 36, .inr (.inl fO2_9))), (aN, .inl (cN, 36, .inr (.inl fN2_10))), (aD, .inl (cD, 36, .inl fD))]) [0, 1, 2, 3, 4] (by decide) rfl
  have hKc := hK.sub (tys' := [(cS, .int), (cO, .long), (cN, .long), (cD, .int)]) [0, 1, 2, 3] rfl
  have hFc := va_free (wc := [(m0, .inr (14, [.int 0, .ref aS, .ref aI, .int 0, .int 0, .int 0, .int 0, .int 0, .int 0, .ref aB, .ref aT, .int 0, .int 0, .ref aG, .ref aO, .ref aN, .ref aD, .long bv, .ref aY, .int 0, .int 0, .int 0, .int 0])), (aS, .inl (cS, 901, .inl s0)), (aO, .inl (cO, 36, .inr (.inl fO2_9))), (aN, .inl (cN, 36, .inr (.inl fN2_10))), (aD, .inl (cD, 36, .inl fD))]) hD hS hA [0, 1, 2, 3, 4] rfl
  refine va_callv (va_runV (As := [.int (nI (r0 % 8))]) (rest := []) ⟨hx, hb, hml, hown, hts⟩ (c_goesOn l dC dI m0 aS aI aB aT aG aO aN aD aY bv cS cO cN cD (fO2_9) (fN2_10) fD (nb j ((r0 / 8) % 8)) 1 (r0 % 8) H.size (by omega) (by omega) (by omega) hw_8 zD) (cwV 1 hts gX12_goesBy_X12_goesOn rfl rfl rfl (by decide +kernel) ⟨Nat.le_of_ble_eq_true rfl, Nat.le_of_ble_eq_true rfl⟩) ⟨fun a U g mk q => by obtain ⟨q0, q1, qP, qK, qD⟩ := q; exact ⟨q0, q1, qP, va_K.moved (u := U) (U := U.calling g mk a) (Vm.Alike.refl U.vm) qK, qD⟩, va_recv hK hP (ci := 14) (q0 := 0) rfl rfl, fun U hU hW => ⟨rfl, by rw [hU], by rw [hU]; exact hPc, va_K.moved hW.alike hKc, hDc.weaken (fun _ _ _ _ => trivial)⟩⟩ rfl rfl hl.1 rfl (lv_room (Nat.le_of_ble_eq_true rfl)) dX12_goesBy_54 ⟨Nat.le_of_ble_eq_true rfl, Nat.le_of_ble_eq_true rfl⟩) hS (fun q _ h => hFc q h) hFc (fun u tC H1 locs htC hvm hw_16 hB hz1 hk1 hS => ?_)
  obtain ⟨fO2_17, fN2_18⟩ := u
  try dsimp only at hw_16 hB
  obtain ⟨hP1, hK1, hD1⟩ := hB
  rw [htC] at hP1
  have hK1 := va_K.moved hvm.symm hK1
  obtain ⟨hP, hD⟩ := va_join (wr := []) (w1 := [(m0, .inr (14, [.int 0, .ref aS, .ref aI, .int 0, .int 0, .int 0, .int 0, .int 0, .int 0, .ref aB, .ref aT, .int 0, .int 0, .ref aG, .ref aO, .ref aN, .ref aD, .long bv, .ref aY, .int 0, .int 0, .int 0, .int 0])), (aS, .inl (cS, 901, .inl s0)), (aO, .inl (cO, 36, .inr (.inl fO2_17))), (aN, .inl (cN, 36, .inr (.inl fN2_18))), (aD, .inl (cD, 36, .inl fD))]) hP hD [0, 1, 2, 3, 4] [] rfl rfl (by decide) (by decide) hk1 hFc hP1 hD1
  have hK := (hK.sub (tys' := []) [] rfl).app hK1
  generalize H1 = H at hP hS ⊢
  have hP : va_P (dC, dI) vwCl [(m0, .inr (14, [.int 0, .ref aS, .ref aI, .int 0, .int 0, .int 0, .int 0, .int 0, .int 0, .ref aB, .ref aT, .int 0, .int 0, .ref aG, .ref aO, .ref aN, .ref aD, .long bv, .ref aY, .int 0, .int 0, .int 0, .int 0])), (aS, .inl (cS, 901, .inl s0)), (aO, .inl (cO, 36, .inr (.inl fO2_17))), (aN, .inl (cN, 36, .inr (.inl fN2_18))), (aD, .inl (cD, 36, .inl fD))] H := hP
  have hD : va_D A [(m0, .inr (14, [.int 0, .ref aS, .ref aI, .int 0, .int 0, .int 0, .int 0, .int 0, .int 0, .ref aB, .ref aT, .int 0, .int 0, .ref aG, .ref aO, .ref aN, .ref aD, .long bv, .ref aY, .int 0, .int 0, .int 0, .int 0])), (aS, .inl (cS, 901, .inl s0)), (aO, .inl (cO, 36, .inr (.inl fO2_17))), (aN, .inl (cN, 36, .inr (.inl fN2_18))), (aD, .inl (cD, 36, .inl fD))] := hD
  have hK : va_K (dC, dI) vwCl [(cS, .int), (cO, .long), (cN, .long), (cD, .int)] s := hK
  have hn_19 : nb (nb j ((r0 / 8) % 8)) (r0 % 8) < 36 := nb_lt (by omega) (by omega)
  refine lv_goto (tgt := 8) hx hb dX12_goesBy_57 (by decide) ?_
  refine lv_iload hx hb dX12_goesBy_8 (lv_at hl 1 rfl) ?_
  refine lv_if_le (tgt := 60) hx hb dX12_goesBy_10 (by decide) (fun _ => ?_) (fun c_20 => absurd c_20 (by decide))
  rw [hQ]
  have hP9 := hP.sub (ws' := [(m0, .inr (14, [.int 0, .ref aS, .ref aI, .int 0, .int 0, .int 0, .int 0, .int 0, .int 0, .ref aB, .ref aT, .int 0, .int 0, .ref aG, .ref aO, .ref aN, .ref aD, .long bv, .ref aY, .int 0, .int 0, .int 0, .int 0])), (aS, .inl (cS, 901, .inl s0)), (aO, .inl (cO, 36, .inr (.inl fO2_17))), (aN, .inl (cN, 36, .inr (.inl fN2_18))), (aD, .inl (cD, 36, .inl fD))]) [0, 1, 2, 3, 4] rfl
  have hD9 := hD.sub (ws' := [(m0, .inr (14, [.int 0, .ref aS, .ref aI, .int 0, .int 0, .int 0, .int 0, .int 0, .int 0, .ref aB, .ref aT, .int 0, .int 0, .ref aG, .ref aO, .ref aN, .ref aD, .long bv, .ref aY, .int 0, .int 0, .int 0, .int 0])), (aS, .inl (cS, 901, .inl s0)), (aO, .inl (cO, 36, .inr (.inl fO2_17))), (aN, .inl (cN, 36, .inr (.inl fN2_18))), (aD, .inl (cD, 36, .inl fD))]) [0, 1, 2, 3, 4] (by decide) rfl
  have hK9 := hK.sub (tys' := [(cS, .int), (cO, .long), (cN, .long), (cD, .int)]) [0, 1, 2, 3] rfl
  exact W.vret hx hb hr (fun tQ htQ hWQ => ⟨⟨(fO2_17, fN2_18), rfl, hw_16, by rw [htQ]; exact hP9, va_K.moved hWQ.alike hK9, hD9⟩, hS.F htQ⟩) hS.2.2 dX12_goesBy_60

set_option maxHeartbeats 4000000 in
set_option maxRecDepth 100000 in
theorem c_goesBy3 (l : Launch) (dC : Nat → ClassId) (dI : Nat → Nat → Nat) (m0 aS aI aB aT aG aO aN aD aY : Nat) (bv : Int64) (cS cO cN cD : ClassId) (fO fN : Nat → Int64) (fD : Nat → Int32) (j r0 : Nat) (sz : Nat) (zj : j < 36) (zr : r0 < 512) (zD : ∀ x, x < 36 → fD x = 0) : Met l yX12_goesBy wsX12_goesBy ({ frames := 4, cells := 0, slots := 0, locals := 88 } : Room) (va_Pc [.ref m0, .int (nI j), .int (nI r0), .int 3] (fun U => U.heap.size = sz ∧ va_P (dC, dI) vwCl [(m0, .inr (14, [.int 0, .ref aS, .ref aI, .int 0, .int 0, .int 0, .int 0, .int 0, .int 0, .ref aB, .ref aT, .int 0, .int 0, .ref aG, .ref aO, .ref aN, .ref aD, .long bv, .ref aY, .int 0, .int 0, .int 0, .int 0])), (aS, .inl (cS, 901, .inl s0)), (aO, .inl (cO, 36, .inr (.inl fO))), (aN, .inl (cN, 36, .inr (.inl fN))), (aD, .inl (cD, 36, .inl fD))] U.heap ∧ va_K (dC, dI) vwCl [(cS, .int), (cO, .long), (cN, .long), (cD, .int)] U ∧ va_D (fun _ => True) [(m0, .inr (14, [.int 0, .ref aS, .ref aI, .int 0, .int 0, .int 0, .int 0, .int 0, .int 0, .ref aB, .ref aT, .int 0, .int 0, .ref aG, .ref aO, .ref aN, .ref aD, .long bv, .ref aY, .int 0, .int 0, .int 0, .int 0])), (aS, .inl (cS, 901, .inl s0)), (aO, .inl (cO, 36, .inr (.inl fO))), (aN, .inl (cN, 36, .inr (.inl fN))), (aD, .inl (cD, 36, .inl fD))])) (va_Qv (fun (u : (Nat → Int64) × (Nat → Int64)) => match u with | (fO2, fN2) => ∀ x, x < 36 → fO2 x = ind (pth 3 j r0) 3 x) (fun (u : (Nat → Int64) × (Nat → Int64)) (t : State) => match u with | (fO2, fN2) => va_P (dC, dI) vwCl [(m0, .inr (14, [.int 0, .ref aS, .ref aI, .int 0, .int 0, .int 0, .int 0, .int 0, .int 0, .ref aB, .ref aT, .int 0, .int 0, .ref aG, .ref aO, .ref aN, .ref aD, .long bv, .ref aY, .int 0, .int 0, .int 0, .int 0])), (aS, .inl (cS, 901, .inl s0)), (aO, .inl (cO, 36, .inr (.inl fO2))), (aN, .inl (cN, 36, .inr (.inl fN2))), (aD, .inl (cD, 36, .inl fD))] t.heap ∧ va_K (dC, dI) vwCl [(cS, .int), (cO, .long), (cN, .long), (cD, .int)] t ∧ va_D (va_A [(m0, .inr (14, [.int 0, .ref aS, .ref aI, .int 0, .int 0, .int 0, .int 0, .int 0, .int 0, .ref aB, .ref aT, .int 0, .int 0, .ref aG, .ref aO, .ref aN, .ref aD, .long bv, .ref aY, .int 0, .int 0, .int 0, .int 0])), (aS, .inl (cS, 901, .inl s0)), (aO, .inl (cO, 36, .inr (.inl fO))), (aN, .inl (cN, 36, .inr (.inl fN))), (aD, .inl (cD, 36, .inl fD))] sz) [(m0, .inr (14, [.int 0, .ref aS, .ref aI, .int 0, .int 0, .int 0, .int 0, .int 0, .int 0, .ref aB, .ref aT, .int 0, .int 0, .ref aG, .ref aO, .ref aN, .ref aD, .long bv, .ref aY, .int 0, .int 0, .int 0, .int 0])), (aS, .inl (cS, 901, .inl s0)), (aO, .inl (cO, 36, .inr (.inl fO2))), (aN, .inl (cN, 36, .inr (.inl fN2))), (aD, .inl (cD, 36, .inl fD))]) (va_A [(m0, .inr (14, [.int 0, .ref aS, .ref aI, .int 0, .int 0, .int 0, .int 0, .int 0, .int 0, .ref aB, .ref aT, .int 0, .int 0, .ref aG, .ref aO, .ref aN, .ref aD, .long bv, .ref aY, .int 0, .int 0, .int 0, .int 0])), (aS, .inl (cS, 901, .inl s0)), (aO, .inl (cO, 36, .inr (.inl fO))), (aN, .inl (cN, 36, .inr (.inl fN))), (aD, .inl (cD, 36, .inl fD))] sz)) 0 0 (va_A [(m0, .inr (14, [.int 0, .ref aS, .ref aI, .int 0, .int 0, .int 0, .int 0, .int 0, .int 0, .ref aB, .ref aT, .int 0, .int 0, .ref aG, .ref aO, .ref aN, .ref aD, .long bv, .ref aY, .int 0, .int 0, .int 0, .int 0])), (aS, .inl (cS, 901, .inl s0)), (aO, .inl (cO, 36, .inr (.inl fO))), (aN, .inl (cN, 36, .inr (.inl fN))), (aD, .inl (cD, 36, .inl fD))] sz) := by
  refine met_ofQ (cc := cX12_goesBy) (maxL := 6) (ret := none) (by decide) rfl ?_
  intro p e s m args below meth c s₁ Q B hml hv hQ
  obtain ⟨rfl, hsz, hP, hK, hD0⟩ := hv
  have hx := B.exec
  have hb := B.bytes
  have hr := B.returns
  have hts := atoms_spec (ws := wsX12_goesBy) B.pre
  have hown : s.vm.findClass RX12 = some m.cls := findClass_of_methodNamed B.named
  have hlocks := B.notSynchronized
  subst hsz
  have hD := hD0.self (sz := s.heap.size)
  generalize hAe : va_A [(m0, .inr (14, [.int 0, .ref aS, .ref aI, .int 0, .int 0, .int 0, .int 0, .int 0, .int 0, .ref aB, .ref aT, .int 0, .int 0, .ref aG, .ref aO, .ref aN, .ref aD, .long bv, .ref aY, .int 0, .int 0, .int 0, .int 0])), (aS, .inl (cS, 901, .inl s0)), (aO, .inl (cO, 36, .inr (.inl fO))), (aN, .inl (cN, 36, .inr (.inl fN))), (aD, .inl (cD, 36, .inl fD))] s.heap.size = A at hD hQ ⊢
  have hA : ∀ q : Nat, s.heap.size ≤ q → A q := fun q h => by rw [← hAe]; exact Or.inr h
  have hS : va_S A s.heap s.heap [] := va_S.rf
  have hl := lv_entry [.ref m0, .int (nI j), .int (nI r0), .int 3] (n := 6) (Nat.le_of_ble_eq_true rfl)
  rw [lg_entry_eq]
  generalize (lg_sl [.ref m0, .int (nI j), .int (nI r0), .int 3] ++ List.replicate (6 - (lg_sl [.ref m0, .int (nI j), .int (nI r0), .int 3]).length) Slot.unset).toArray = ls at hl ⊢
  generalize hag : ([.ref m0, .int (nI j), .int (nI r0), .int 3] : List Value).toArray = args at hts hQ ⊢
  have hl : lv_has ls 6 [(0, .ref m0), (1, .int (nI j)), (2, .int (nI r0)), (3, .int 3)] := hl
  obtain ⟨H, hH⟩ : ∃ H : Heap, H = s.heap := ⟨_, rfl⟩
  rw [← hH] at hP
  rw [← hH]
  have hS : va_S A s.heap H [] := by rw [hH]; exact hS
  obtain ⟨locs, hlo⟩ : ∃ L : List Loc, L = [] := ⟨_, rfl⟩
  rw [← hlo] at hS
  rw [← hlo]
  clear hH hlo
  refine lv_aload_n hx hb dX12_goesBy_0 rfl (lv_at hl 0 rfl) ?_
  refine lv_iload_n hx hb dX12_goesBy_1 rfl (lv_at hl 1 rfl) ?_
  have hPc := hP.sub (ws' := [(m0, .inr (14, [.int 0, .ref aS, .ref aI, .int 0, .int 0, .int 0, .int 0, .int 0, .int 0, .ref aB, .ref aT, .int 0, .int 0, .ref aG, .ref aO, .ref aN, .ref aD, .long bv, .ref aY, .int 0, .int 0, .int 0, .int 0])), (aO, .inl (cO, 36, .inr (.inl fO)))]) [0, 2] rfl
  have hDc := hD.sub (ws' := [(m0, .inr (14, [.int 0, .ref aS, .ref aI, .int 0, .int 0, .int 0, .int 0, .int 0, .int 0, .ref aB, .ref aT, .int 0, .int 0, .ref aG, .ref aO, .ref aN, .ref aD, .long bv, .ref aY, .int 0, .int 0, .int 0, .int 0])), (aO, .inl (cO, 36, .inr (.inl fO)))]) [0, 2] (by decide) rfl
  have hKc := hK.sub (tys' := [(cO, .long)]) [1] rfl
  have hFc := va_free (wc := [(m0, .inr (14, [.int 0, .ref aS, .ref aI, .int 0, .int 0, .int 0, .int 0, .int 0, .int 0, .ref aB, .ref aT, .int 0, .int 0, .ref aG, .ref aO, .ref aN, .ref aD, .long bv, .ref aY, .int 0, .int 0, .int 0, .int 0])), (aO, .inl (cO, 36, .inr (.inl fO)))]) hD hS hA [0, 2] rfl
  refine va_callv (va_runV (As := [.int (nI j)]) (rest := []) ⟨hx, hb, hml, hown, hts⟩ (c_begins l dC dI m0 aS aI aB aT aG aO aN aD aY bv cO (fO) (j) H.size (by omega)) (cwV 1 hts gX12_goesBy_X12_begins rfl rfl rfl (by decide +kernel) ⟨Nat.le_of_ble_eq_true rfl, Nat.le_of_ble_eq_true rfl⟩) ⟨fun a U g mk q => by obtain ⟨q0, q1, qP, qK, qD⟩ := q; exact ⟨q0, q1, qP, va_K.moved (u := U) (U := U.calling g mk a) (Vm.Alike.refl U.vm) qK, qD⟩, va_recv hK hP (ci := 14) (q0 := 0) rfl rfl, fun U hU hW => ⟨rfl, by rw [hU], by rw [hU]; exact hPc, va_K.moved hW.alike hKc, hDc.weaken (fun _ _ _ _ => trivial)⟩⟩ rfl rfl hl.1 rfl (lv_room (Nat.le_of_ble_eq_true rfl)) dX12_goesBy_2 ⟨Nat.le_of_ble_eq_true rfl, Nat.le_of_ble_eq_true rfl⟩) hS (fun q _ h => hFc q h) hFc (fun u tC H1 locs htC hvm hw_2 hB hz1 hk1 hS => ?_)
  obtain ⟨fO2_3, rfl⟩ : ∃ z, z = u := ⟨_, rfl⟩
  try dsimp only at hw_2 hB
  obtain ⟨hP1, hK1, hD1⟩ := hB
  rw [htC] at hP1
  have hK1 := va_K.moved hvm.symm hK1
  obtain ⟨hP, hD⟩ := va_join (wr := [(aS, .inl (cS, 901, .inl s0)), (aN, .inl (cN, 36, .inr (.inl fN))), (aD, .inl (cD, 36, .inl fD))]) (w1 := [(m0, .inr (14, [.int 0, .ref aS, .ref aI, .int 0, .int 0, .int 0, .int 0, .int 0, .int 0, .ref aB, .ref aT, .int 0, .int 0, .ref aG, .ref aO, .ref aN, .ref aD, .long bv, .ref aY, .int 0, .int 0, .int 0, .int 0])), (aO, .inl (cO, 36, .inr (.inl fO2_3)))]) hP hD [0, 2] [1, 3, 4] rfl rfl (by decide) (by decide) hk1 hFc hP1 hD1
  have hK := (hK.sub (tys' := [(cS, .int), (cN, .long), (cD, .int)]) [0, 2, 3] rfl).app hK1
  generalize H1 = H at hP hS ⊢
  have hP : va_P (dC, dI) vwCl [(aS, .inl (cS, 901, .inl s0)), (aN, .inl (cN, 36, .inr (.inl fN))), (aD, .inl (cD, 36, .inl fD)), (m0, .inr (14, [.int 0, .ref aS, .ref aI, .int 0, .int 0, .int 0, .int 0, .int 0, .int 0, .ref aB, .ref aT, .int 0, .int 0, .ref aG, .ref aO, .ref aN, .ref aD, .long bv, .ref aY, .int 0, .int 0, .int 0, .int 0])), (aO, .inl (cO, 36, .inr (.inl fO2_3)))] H := hP
  have hD : va_D A [(aS, .inl (cS, 901, .inl s0)), (aN, .inl (cN, 36, .inr (.inl fN))), (aD, .inl (cD, 36, .inl fD)), (m0, .inr (14, [.int 0, .ref aS, .ref aI, .int 0, .int 0, .int 0, .int 0, .int 0, .int 0, .ref aB, .ref aT, .int 0, .int 0, .ref aG, .ref aO, .ref aN, .ref aD, .long bv, .ref aY, .int 0, .int 0, .int 0, .int 0])), (aO, .inl (cO, 36, .inr (.inl fO2_3)))] := hD
  have hK : va_K (dC, dI) vwCl [(cS, .int), (cN, .long), (cD, .int), (cO, .long)] s := hK
  refine lv_iload_n hx hb dX12_goesBy_5 rfl (lv_at hl 3 rfl) ?_
  refine lv_istore (lv' := [(4, .int 3), (0, .ref m0), (1, .int (nI j)), (2, .int (nI r0)), (3, .int 3)]) hx hb dX12_goesBy_6 hl (by decide) rfl (fun ls hl => ?_)
  refine lv_iload hx hb dX12_goesBy_8 (lv_at hl 0 rfl) ?_
  refine lv_if_le (tgt := 60) hx hb dX12_goesBy_10 (by decide) (fun c_4 => absurd c_4 (by decide)) (fun _ => ?_)
  refine lv_iinc (v := 2) (lv' := [(4, .int 2), (0, .ref m0), (1, .int (nI j)), (2, .int (nI r0)), (3, .int 3)]) hx hb dX12_goesBy_13 hl (k := 0) rfl (by decide) (by decide) rfl (fun ls hl => ?_)
  refine lv_iload hx hb dX12_goesBy_16 (lv_at hl 0 rfl) ?_
  refine lv_iconst (v := 2) hx hb dX12_goesBy_18 (by decide) ?_
  refine lv_icmp_ne (tgt := 29) hx hb dX12_goesBy_19 (by decide) (fun c_5 => absurd c_5 (by decide)) (fun _ => ?_)
  refine lv_iload_n hx hb dX12_goesBy_22 rfl (lv_at hl 3 rfl) ?_
  refine lv_bipush (v := 64) hx hb dX12_goesBy_23 (by decide) ?_
  refine lv_idiv hx hb dX12_goesBy_25 (by decide) ?_
  refine qi_as (y := nI (r0 / 64)) (pk_div (a := r0) (d := 64) (by omega) (by omega) (by omega)) ?_
  refine lv_goto (tgt := 49) hx hb dX12_goesBy_26 (by decide) ?_
  refine lv_istore (lv' := [(5, .int (nI (r0 / 64))), (4, .int 2), (0, .ref m0), (1, .int (nI j)), (2, .int (nI r0)), (3, .int 3)]) hx hb dX12_goesBy_49 hl (by decide) rfl (fun ls hl => ?_)
  refine lv_aload_n hx hb dX12_goesBy_51 rfl (lv_at hl 2 rfl) ?_
  refine lv_iload hx hb dX12_goesBy_52 (lv_at hl 0 rfl) ?_
  have hPc := hP.sub (ws' := [(m0, .inr (14, [.int 0, .ref aS, .ref aI, .int 0, .int 0, .int 0, .int 0, .int 0, .int 0, .ref aB, .ref aT, .int 0, .int 0, .ref aG, .ref aO, .ref aN, .ref aD, .long bv, .ref aY, .int 0, .int 0, .int 0, .int 0])), (aS, .inl (cS, 901, .inl s0)), (aO, .inl (cO, 36, .inr (.inl fO2_3))), (aN, .inl (cN, 36, .inr (.inl fN))), (aD, .inl (cD, 36, .inl fD))]) [3, 0, 4, 1, 2] rfl
  have hDc := hD.sub (ws' := [(m0, .inr (14, [.int 0, .ref aS, .ref aI, .int 0, .int 0, .int 0, .int 0, .int 0, .int 0, .ref aB, .ref aT, .int 0, .int 0, .ref aG, .ref aO, .ref aN, .ref aD, .long bv, .ref aY, .int 0, .int 0, .int 0, .int 0])), (aS, .inl (cS, 901, .inl s0)), (aO, .inl (cO, 36, .inr (.inl fO2_3))), (aN, .inl (cN, 36, .inr (.inl fN))), (aD, .inl (cD, 36, .inl fD))]) [3, 0, 4, 1, 2] (by decide) rfl
  have hKc := hK.sub (tys' := [(cS, .int), (cO, .long), (cN, .long), (cD, .int)]) [0, 3, 1, 2] rfl
  have hFc := va_free (wc := [(m0, .inr (14, [.int 0, .ref aS, .ref aI, .int 0, .int 0, .int 0, .int 0, .int 0, .int 0, .ref aB, .ref aT, .int 0, .int 0, .ref aG, .ref aO, .ref aN, .ref aD, .long bv, .ref aY, .int 0, .int 0, .int 0, .int 0])), (aS, .inl (cS, 901, .inl s0)), (aO, .inl (cO, 36, .inr (.inl fO2_3))), (aN, .inl (cN, 36, .inr (.inl fN))), (aD, .inl (cD, 36, .inl fD))]) hD hS hA [3, 0, 4, 1, 2] rfl
  refine va_callv (va_runV (As := [.int (nI (r0 / 64))]) (rest := []) ⟨hx, hb, hml, hown, hts⟩ (c_goesOn l dC dI m0 aS aI aB aT aG aO aN aD aY bv cS cO cN cD (fO2_3) (fN) fD (j) 0 (r0 / 64) H.size (by omega) (by omega) (by omega) hw_2 zD) (cwV 1 hts gX12_goesBy_X12_goesOn rfl rfl rfl (by decide +kernel) ⟨Nat.le_of_ble_eq_true rfl, Nat.le_of_ble_eq_true rfl⟩) ⟨fun a U g mk q => by obtain ⟨q0, q1, qP, qK, qD⟩ := q; exact ⟨q0, q1, qP, va_K.moved (u := U) (U := U.calling g mk a) (Vm.Alike.refl U.vm) qK, qD⟩, va_recv hK hP (ci := 14) (q0 := 3) rfl rfl, fun U hU hW => ⟨rfl, by rw [hU], by rw [hU]; exact hPc, va_K.moved hW.alike hKc, hDc.weaken (fun _ _ _ _ => trivial)⟩⟩ rfl rfl hl.1 rfl (lv_room (Nat.le_of_ble_eq_true rfl)) dX12_goesBy_54 ⟨Nat.le_of_ble_eq_true rfl, Nat.le_of_ble_eq_true rfl⟩) hS (fun q _ h => hFc q h) hFc (fun u tC H1 locs htC hvm hw_7 hB hz1 hk1 hS => ?_)
  obtain ⟨fO2_8, fN2_9⟩ := u
  try dsimp only at hw_7 hB
  obtain ⟨hP1, hK1, hD1⟩ := hB
  rw [htC] at hP1
  have hK1 := va_K.moved hvm.symm hK1
  obtain ⟨hP, hD⟩ := va_join (wr := []) (w1 := [(m0, .inr (14, [.int 0, .ref aS, .ref aI, .int 0, .int 0, .int 0, .int 0, .int 0, .int 0, .ref aB, .ref aT, .int 0, .int 0, .ref aG, .ref aO, .ref aN, .ref aD, .long bv, .ref aY, .int 0, .int 0, .int 0, .int 0])), (aS, .inl (cS, 901, .inl s0)), (aO, .inl (cO, 36, .inr (.inl fO2_8))), (aN, .inl (cN, 36, .inr (.inl fN2_9))), (aD, .inl (cD, 36, .inl fD))]) hP hD [3, 0, 4, 1, 2] [] rfl rfl (by decide) (by decide) hk1 hFc hP1 hD1
  have hK := (hK.sub (tys' := []) [] rfl).app hK1
  generalize H1 = H at hP hS ⊢
  have hP : va_P (dC, dI) vwCl [(m0, .inr (14, [.int 0, .ref aS, .ref aI, .int 0, .int 0, .int 0, .int 0, .int 0, .int 0, .ref aB, .ref aT, .int 0, .int 0, .ref aG, .ref aO, .ref aN, .ref aD, .long bv, .ref aY, .int 0, .int 0, .int 0, .int 0])), (aS, .inl (cS, 901, .inl s0)), (aO, .inl (cO, 36, .inr (.inl fO2_8))), (aN, .inl (cN, 36, .inr (.inl fN2_9))), (aD, .inl (cD, 36, .inl fD))] H := hP
  have hD : va_D A [(m0, .inr (14, [.int 0, .ref aS, .ref aI, .int 0, .int 0, .int 0, .int 0, .int 0, .int 0, .ref aB, .ref aT, .int 0, .int 0, .ref aG, .ref aO, .ref aN, .ref aD, .long bv, .ref aY, .int 0, .int 0, .int 0, .int 0])), (aS, .inl (cS, 901, .inl s0)), (aO, .inl (cO, 36, .inr (.inl fO2_8))), (aN, .inl (cN, 36, .inr (.inl fN2_9))), (aD, .inl (cD, 36, .inl fD))] := hD
  have hK : va_K (dC, dI) vwCl [(cS, .int), (cO, .long), (cN, .long), (cD, .int)] s := hK
  have hn_10 : nb j (r0 / 64) < 36 := nb_lt (by omega) (by omega)
  refine lv_goto (tgt := 8) hx hb dX12_goesBy_57 (by decide) ?_
  refine lv_iload hx hb dX12_goesBy_8 (lv_at hl 1 rfl) ?_
  refine lv_if_le (tgt := 60) hx hb dX12_goesBy_10 (by decide) (fun c_11 => absurd c_11 (by decide)) (fun _ => ?_)
  refine lv_iinc (v := 1) (lv' := [(4, .int 1), (5, .int (nI (r0 / 64))), (0, .ref m0), (1, .int (nI j)), (2, .int (nI r0)), (3, .int 3)]) hx hb dX12_goesBy_13 hl (k := 1) rfl (by decide) (by decide) rfl (fun ls hl => ?_)
  refine lv_iload hx hb dX12_goesBy_16 (lv_at hl 0 rfl) ?_
  refine lv_iconst (v := 2) hx hb dX12_goesBy_18 (by decide) ?_
  refine lv_icmp_ne (tgt := 29) hx hb dX12_goesBy_19 (by decide) (fun _ => ?_) (fun c_12 => absurd c_12 (by decide))
  refine lv_iload hx hb dX12_goesBy_29 (lv_at hl 0 rfl) ?_
  refine lv_iconst (v := 1) hx hb dX12_goesBy_31 (by decide) ?_
  refine lv_icmp_ne (tgt := 45) hx hb dX12_goesBy_32 (by decide) (fun c_13 => absurd c_13 (by decide)) (fun _ => ?_)
  refine lv_iload_n hx hb dX12_goesBy_35 rfl (lv_at hl 4 rfl) ?_
  refine lv_bipush (v := 8) hx hb dX12_goesBy_36 (by decide) ?_
  refine lv_idiv hx hb dX12_goesBy_38 (by decide) ?_
  refine qi_as (y := nI (r0 / 8)) (pk_div (a := r0) (d := 8) (by omega) (by omega) (by omega)) ?_
  refine lv_bipush (v := 8) hx hb dX12_goesBy_39 (by decide) ?_
  refine lv_irem hx hb dX12_goesBy_41 (by decide) ?_
  refine qi_as (y := nI ((r0 / 8) % 8)) (pk_rem (a := r0 / 8) (d := 8) (by omega) (by omega) (by omega)) ?_
  refine lv_goto (tgt := 49) hx hb dX12_goesBy_42 (by decide) ?_
  refine lv_istore (lv' := [(5, .int (nI ((r0 / 8) % 8))), (4, .int 1), (0, .ref m0), (1, .int (nI j)), (2, .int (nI r0)), (3, .int 3)]) hx hb dX12_goesBy_49 hl (by decide) rfl (fun ls hl => ?_)
  refine lv_aload_n hx hb dX12_goesBy_51 rfl (lv_at hl 2 rfl) ?_
  refine lv_iload hx hb dX12_goesBy_52 (lv_at hl 0 rfl) ?_
  have hPc := hP.sub (ws' := [(m0, .inr (14, [.int 0, .ref aS, .ref aI, .int 0, .int 0, .int 0, .int 0, .int 0, .int 0, .ref aB, .ref aT, .int 0, .int 0, .ref aG, .ref aO, .ref aN, .ref aD, .long bv, .ref aY, .int 0, .int 0, .int 0, .int 0])), (aS, .inl (cS, 901, .inl s0)), (aO, .inl (cO, 36, .inr (.inl fO2_8))), (aN, .inl (cN, 36, .inr (.inl fN2_9))), (aD, .inl (cD, 36, .inl fD))]) [0, 1, 2, 3, 4] rfl
  have hDc := hD.sub (ws' := [(m0, .inr (14, [.int 0, .ref aS, .ref aI, .int 0, .int 0, .int 0, .int 0, .int 0, .int 0, .ref aB, .ref aT, .int 0, .int 0, .ref aG, .ref aO, .ref aN, .ref aD, .long bv, .ref aY, .int 0, .int 0, .int 0, .int 0])), (aS, .inl (cS, 901, .inl s0)), (aO, .inl (cO, 36, .inr (.inl fO2_8))), (aN, .inl (cN, 36, .inr (.inl fN2_9))), (aD, .inl (cD, 36, .inl fD))]) [0, 1, 2, 3, 4] (by decide) rfl
  have hKc := hK.sub (tys' := [(cS, .int), (cO, .long), (cN, .long), (cD, .int)]) [0, 1, 2, 3] rfl
  have hFc := va_free (wc := [(m0, .inr (14, [.int 0, .ref aS, .ref aI, .int 0, .int 0, .int 0, .int 0, .int 0, .int 0, .ref aB, .ref aT, .int 0, .int 0, .ref aG, .ref aO, .ref aN, .ref aD, .long bv, .ref aY, .int 0, .int 0, .int 0, .int 0])), (aS, .inl (cS, 901, .inl s0)), (aO, .inl (cO, 36, .inr (.inl fO2_8))), (aN, .inl (cN, 36, .inr (.inl fN2_9))), (aD, .inl (cD, 36, .inl fD))]) hD hS hA [0, 1, 2, 3, 4] rfl
  refine va_callv (va_runV (As := [.int (nI ((r0 / 8) % 8))]) (rest := []) ⟨hx, hb, hml, hown, hts⟩ (c_goesOn l dC dI m0 aS aI aB aT aG aO aN aD aY bv cS cO cN cD (fO2_8) (fN2_9) fD (nb j (r0 / 64)) 1 ((r0 / 8) % 8) H.size (by omega) (by omega) (by omega) hw_7 zD) (cwV 1 hts gX12_goesBy_X12_goesOn rfl rfl rfl (by decide +kernel) ⟨Nat.le_of_ble_eq_true rfl, Nat.le_of_ble_eq_true rfl⟩) ⟨fun a U g mk q => by obtain ⟨q0, q1, qP, qK, qD⟩ := q; exact ⟨q0, q1, qP, va_K.moved (u := U) (U := U.calling g mk a) (Vm.Alike.refl U.vm) qK, qD⟩, va_recv hK hP (ci := 14) (q0 := 0) rfl rfl, fun U hU hW => ⟨rfl, by rw [hU], by rw [hU]; exact hPc, va_K.moved hW.alike hKc, hDc.weaken (fun _ _ _ _ => trivial)⟩⟩ rfl rfl hl.1 rfl (lv_room (Nat.le_of_ble_eq_true rfl)) dX12_goesBy_54 ⟨Nat.le_of_ble_eq_true rfl, Nat.le_of_ble_eq_true rfl⟩) hS (fun q _ h => hFc q h) hFc (fun u tC H1 locs htC hvm hw_15 hB hz1 hk1 hS => ?_)
  obtain ⟨fO2_16, fN2_17⟩ := u
  try dsimp only at hw_15 hB
  obtain ⟨hP1, hK1, hD1⟩ := hB
  rw [htC] at hP1
  have hK1 := va_K.moved hvm.symm hK1
  obtain ⟨hP, hD⟩ := va_join (wr := []) (w1 := [(m0, .inr (14, [.int 0, .ref aS, .ref aI, .int 0, .int 0, .int 0, .int 0, .int 0, .int 0, .ref aB, .ref aT, .int 0, .int 0, .ref aG, .ref aO, .ref aN, .ref aD, .long bv, .ref aY, .int 0, .int 0, .int 0, .int 0])), (aS, .inl (cS, 901, .inl s0)), (aO, .inl (cO, 36, .inr (.inl fO2_16))), (aN, .inl (cN, 36, .inr (.inl fN2_17))), (aD, .inl (cD, 36, .inl fD))]) hP hD [0, 1, 2, 3, 4] [] rfl rfl (by decide) (by decide) hk1 hFc hP1 hD1
  have hK := (hK.sub (tys' := []) [] rfl).app hK1
  generalize H1 = H at hP hS ⊢
  have hP : va_P (dC, dI) vwCl [(m0, .inr (14, [.int 0, .ref aS, .ref aI, .int 0, .int 0, .int 0, .int 0, .int 0, .int 0, .ref aB, .ref aT, .int 0, .int 0, .ref aG, .ref aO, .ref aN, .ref aD, .long bv, .ref aY, .int 0, .int 0, .int 0, .int 0])), (aS, .inl (cS, 901, .inl s0)), (aO, .inl (cO, 36, .inr (.inl fO2_16))), (aN, .inl (cN, 36, .inr (.inl fN2_17))), (aD, .inl (cD, 36, .inl fD))] H := hP
  have hD : va_D A [(m0, .inr (14, [.int 0, .ref aS, .ref aI, .int 0, .int 0, .int 0, .int 0, .int 0, .int 0, .ref aB, .ref aT, .int 0, .int 0, .ref aG, .ref aO, .ref aN, .ref aD, .long bv, .ref aY, .int 0, .int 0, .int 0, .int 0])), (aS, .inl (cS, 901, .inl s0)), (aO, .inl (cO, 36, .inr (.inl fO2_16))), (aN, .inl (cN, 36, .inr (.inl fN2_17))), (aD, .inl (cD, 36, .inl fD))] := hD
  have hK : va_K (dC, dI) vwCl [(cS, .int), (cO, .long), (cN, .long), (cD, .int)] s := hK
  have hn_18 : nb (nb j (r0 / 64)) ((r0 / 8) % 8) < 36 := nb_lt (by omega) (by omega)
  refine lv_goto (tgt := 8) hx hb dX12_goesBy_57 (by decide) ?_
  refine lv_iload hx hb dX12_goesBy_8 (lv_at hl 1 rfl) ?_
  refine lv_if_le (tgt := 60) hx hb dX12_goesBy_10 (by decide) (fun c_19 => absurd c_19 (by decide)) (fun _ => ?_)
  refine lv_iinc (v := 0) (lv' := [(4, .int 0), (5, .int (nI ((r0 / 8) % 8))), (0, .ref m0), (1, .int (nI j)), (2, .int (nI r0)), (3, .int 3)]) hx hb dX12_goesBy_13 hl (k := 1) rfl (by decide) (by decide) rfl (fun ls hl => ?_)
  refine lv_iload hx hb dX12_goesBy_16 (lv_at hl 0 rfl) ?_
  refine lv_iconst (v := 2) hx hb dX12_goesBy_18 (by decide) ?_
  refine lv_icmp_ne (tgt := 29) hx hb dX12_goesBy_19 (by decide) (fun _ => ?_) (fun c_20 => absurd c_20 (by decide))
  refine lv_iload hx hb dX12_goesBy_29 (lv_at hl 0 rfl) ?_
  refine lv_iconst (v := 1) hx hb dX12_goesBy_31 (by decide) ?_
  refine lv_icmp_ne (tgt := 45) hx hb dX12_goesBy_32 (by decide) (fun _ => ?_) (fun c_21 => absurd c_21 (by decide))
  refine lv_iload_n hx hb dX12_goesBy_45 rfl (lv_at hl 4 rfl) ?_
  refine lv_bipush (v := 8) hx hb dX12_goesBy_46 (by decide) ?_
  refine lv_irem hx hb dX12_goesBy_48 (by decide) ?_
  refine qi_as (y := nI (r0 % 8)) (pk_rem (a := r0) (d := 8) (by omega) (by omega) (by omega)) ?_
  refine lv_istore (lv' := [(5, .int (nI (r0 % 8))), (4, .int 0), (0, .ref m0), (1, .int (nI j)), (2, .int (nI r0)), (3, .int 3)]) hx hb dX12_goesBy_49 hl (by decide) rfl (fun ls hl => ?_)
  refine lv_aload_n hx hb dX12_goesBy_51 rfl (lv_at hl 2 rfl) ?_
  refine lv_iload hx hb dX12_goesBy_52 (lv_at hl 0 rfl) ?_
  have hPc := hP.sub (ws' := [(m0, .inr (14, [.int 0, .ref aS, .ref aI, .int 0, .int 0, .int 0, .int 0, .int 0, .int 0, .ref aB, .ref aT, .int 0, .int 0, .ref aG, .ref aO, .ref aN, .ref aD, .long bv, .ref aY, .int 0, .int 0, .int 0, .int 0])), (aS, .inl (cS, 901, .inl s0)), (aO, .inl (cO, 36, .inr (.inl fO2_16))), (aN, .inl (cN, 36, .inr (.inl fN2_17))), (aD, .inl (cD, 36, .inl fD))]) [0, 1, 2, 3, 4] rfl
  have hDc := hD.sub (ws' := [(m0, .inr (14, [.int 0, .ref aS, .ref aI, .int 0, .int 0, .int 0, .int 0, .int 0, .int 0, .ref aB, .ref aT, .int 0, .int 0, .ref aG, .ref aO, .ref aN, .ref aD, .long bv, .ref aY, .int 0, .int 0, .int 0, .int 0])), (aS, .inl (cS, 901, .inl s0)), (aO, .inl (cO, 36, .inr (.inl fO2_16))), (aN, .inl (cN, 36, .inr (.inl fN2_17))), (aD, .inl (cD, 36, .inl fD))]) [0, 1, 2, 3, 4] (by decide) rfl
  have hKc := hK.sub (tys' := [(cS, .int), (cO, .long), (cN, .long), (cD, .int)]) [0, 1, 2, 3] rfl
  have hFc := va_free (wc := [(m0, .inr (14, [.int 0, .ref aS, .ref aI, .int 0, .int 0, .int 0, .int 0, .int 0, .int 0, .ref aB, .ref aT, .int 0, .int 0, .ref aG, .ref aO, .ref aN, .ref aD, .long bv, .ref aY, .int 0, .int 0, .int 0, .int 0])), (aS, .inl (cS, 901, .inl s0)), (aO, .inl (cO, 36, .inr (.inl fO2_16))), (aN, .inl (cN, 36, .inr (.inl fN2_17))), (aD, .inl (cD, 36, .inl fD))]) hD hS hA [0, 1, 2, 3, 4] rfl
  refine va_callv (va_runV (As := [.int (nI (r0 % 8))]) (rest := []) ⟨hx, hb, hml, hown, hts⟩ (c_goesOn l dC dI m0 aS aI aB aT aG aO aN aD aY bv cS cO cN cD (fO2_16) (fN2_17) fD (nb (nb j (r0 / 64)) ((r0 / 8) % 8)) 2 (r0 % 8) H.size (by omega) (by omega) (by omega) hw_15 zD) (cwV 1 hts gX12_goesBy_X12_goesOn rfl rfl rfl (by decide +kernel) ⟨Nat.le_of_ble_eq_true rfl, Nat.le_of_ble_eq_true rfl⟩) ⟨fun a U g mk q => by obtain ⟨q0, q1, qP, qK, qD⟩ := q; exact ⟨q0, q1, qP, va_K.moved (u := U) (U := U.calling g mk a) (Vm.Alike.refl U.vm) qK, qD⟩, va_recv hK hP (ci := 14) (q0 := 0) rfl rfl, fun U hU hW => ⟨rfl, by rw [hU], by rw [hU]; exact hPc, va_K.moved hW.alike hKc, hDc.weaken (fun _ _ _ _ => trivial)⟩⟩ rfl rfl hl.1 rfl (lv_room (Nat.le_of_ble_eq_true rfl)) dX12_goesBy_54 ⟨Nat.le_of_ble_eq_true rfl, Nat.le_of_ble_eq_true rfl⟩) hS (fun q _ h => hFc q h) hFc (fun u tC H1 locs htC hvm hw_23 hB hz1 hk1 hS => ?_)
  obtain ⟨fO2_24, fN2_25⟩ := u
  try dsimp only at hw_23 hB
  obtain ⟨hP1, hK1, hD1⟩ := hB
  rw [htC] at hP1
  have hK1 := va_K.moved hvm.symm hK1
  obtain ⟨hP, hD⟩ := va_join (wr := []) (w1 := [(m0, .inr (14, [.int 0, .ref aS, .ref aI, .int 0, .int 0, .int 0, .int 0, .int 0, .int 0, .ref aB, .ref aT, .int 0, .int 0, .ref aG, .ref aO, .ref aN, .ref aD, .long bv, .ref aY, .int 0, .int 0, .int 0, .int 0])), (aS, .inl (cS, 901, .inl s0)), (aO, .inl (cO, 36, .inr (.inl fO2_24))), (aN, .inl (cN, 36, .inr (.inl fN2_25))), (aD, .inl (cD, 36, .inl fD))]) hP hD [0, 1, 2, 3, 4] [] rfl rfl (by decide) (by decide) hk1 hFc hP1 hD1
  have hK := (hK.sub (tys' := []) [] rfl).app hK1
  generalize H1 = H at hP hS ⊢
  have hP : va_P (dC, dI) vwCl [(m0, .inr (14, [.int 0, .ref aS, .ref aI, .int 0, .int 0, .int 0, .int 0, .int 0, .int 0, .ref aB, .ref aT, .int 0, .int 0, .ref aG, .ref aO, .ref aN, .ref aD, .long bv, .ref aY, .int 0, .int 0, .int 0, .int 0])), (aS, .inl (cS, 901, .inl s0)), (aO, .inl (cO, 36, .inr (.inl fO2_24))), (aN, .inl (cN, 36, .inr (.inl fN2_25))), (aD, .inl (cD, 36, .inl fD))] H := hP
  have hD : va_D A [(m0, .inr (14, [.int 0, .ref aS, .ref aI, .int 0, .int 0, .int 0, .int 0, .int 0, .int 0, .ref aB, .ref aT, .int 0, .int 0, .ref aG, .ref aO, .ref aN, .ref aD, .long bv, .ref aY, .int 0, .int 0, .int 0, .int 0])), (aS, .inl (cS, 901, .inl s0)), (aO, .inl (cO, 36, .inr (.inl fO2_24))), (aN, .inl (cN, 36, .inr (.inl fN2_25))), (aD, .inl (cD, 36, .inl fD))] := hD
  have hK : va_K (dC, dI) vwCl [(cS, .int), (cO, .long), (cN, .long), (cD, .int)] s := hK
  have hn_26 : nb (nb (nb j (r0 / 64)) ((r0 / 8) % 8)) (r0 % 8) < 36 := nb_lt (by omega) (by omega)
  refine lv_goto (tgt := 8) hx hb dX12_goesBy_57 (by decide) ?_
  refine lv_iload hx hb dX12_goesBy_8 (lv_at hl 1 rfl) ?_
  refine lv_if_le (tgt := 60) hx hb dX12_goesBy_10 (by decide) (fun _ => ?_) (fun c_27 => absurd c_27 (by decide))
  rw [hQ]
  have hP9 := hP.sub (ws' := [(m0, .inr (14, [.int 0, .ref aS, .ref aI, .int 0, .int 0, .int 0, .int 0, .int 0, .int 0, .ref aB, .ref aT, .int 0, .int 0, .ref aG, .ref aO, .ref aN, .ref aD, .long bv, .ref aY, .int 0, .int 0, .int 0, .int 0])), (aS, .inl (cS, 901, .inl s0)), (aO, .inl (cO, 36, .inr (.inl fO2_24))), (aN, .inl (cN, 36, .inr (.inl fN2_25))), (aD, .inl (cD, 36, .inl fD))]) [0, 1, 2, 3, 4] rfl
  have hD9 := hD.sub (ws' := [(m0, .inr (14, [.int 0, .ref aS, .ref aI, .int 0, .int 0, .int 0, .int 0, .int 0, .int 0, .ref aB, .ref aT, .int 0, .int 0, .ref aG, .ref aO, .ref aN, .ref aD, .long bv, .ref aY, .int 0, .int 0, .int 0, .int 0])), (aS, .inl (cS, 901, .inl s0)), (aO, .inl (cO, 36, .inr (.inl fO2_24))), (aN, .inl (cN, 36, .inr (.inl fN2_25))), (aD, .inl (cD, 36, .inl fD))]) [0, 1, 2, 3, 4] (by decide) rfl
  have hK9 := hK.sub (tys' := [(cS, .int), (cO, .long), (cN, .long), (cD, .int)]) [0, 1, 2, 3] rfl
  exact W.vret hx hb hr (fun tQ htQ hWQ => ⟨⟨(fO2_24, fN2_25), rfl, hw_23, by rw [htQ]; exact hP9, va_K.moved hWQ.alike hK9, hD9⟩, hS.F htQ⟩) hS.2.2 dX12_goesBy_60
