noncomputable def dk18b00pub_cX11_feed_0 : List (Nat × Instr × Nat) := [(0, .iload_n 1, 1), (1, .ifCond .lt 9, 3), (10, .bipush (-2), 2), (12, .ireturn, 1), (4, .iload_n 1, 1), (5, .bipush 127, 2), (7, .if_icmp .le 6, 3), (13, .aload_n 0, 1), (14, .getfield 14, 3), (17, .getfield 53, 3), (20, .bipush 100, 2), (22, .if_icmp .lt 6, 3), (28, .aload_n 0, 1), (29, .getfield 14, 3), (32, .getfield 57, 3), (35, .aload_n 0, 1), (36, .getfield 14, 3), (39, .getfield 53, 3), (42, .iload_n 1, 1), (43, .iastore, 1), (44, .aload_n 0, 1), (45, .getfield 14, 3), (48, .dup, 1), (49, .getfield 53, 3), (52, .iconst 1, 1), (53, .iadd, 1), (54, .putfield 53, 3), (57, .aload_n 0, 1), (58, .getfield 14, 3), (61, .getfield 53, 3), (64, .ireturn, 1), (25, .bipush (-4), 2), (27, .ireturn, 1)]
set_option maxRecDepth 100000 in
theorem dk18b00pub_cX11_feed_0_a : dkA cX11_feed dk18b00pub_cX11_feed_0 = true := by decide +kernel
theorem dX11_feed_0 : decode cX11_feed 0 = .ok (.iload_n 1, 1) := dkAt dk18b00pub_cX11_feed_0_a 0 rfl
theorem dX11_feed_1 : decode cX11_feed 1 = .ok (.ifCond .lt 9, 3) := dkAt dk18b00pub_cX11_feed_0_a 1 rfl
theorem dX11_feed_10 : decode cX11_feed 10 = .ok (.bipush (-2), 2) := dkAt dk18b00pub_cX11_feed_0_a 2 rfl
theorem dX11_feed_12 : decode cX11_feed 12 = .ok (.ireturn, 1) := dkAt dk18b00pub_cX11_feed_0_a 3 rfl
theorem dX11_feed_4 : decode cX11_feed 4 = .ok (.iload_n 1, 1) := dkAt dk18b00pub_cX11_feed_0_a 4 rfl
theorem dX11_feed_5 : decode cX11_feed 5 = .ok (.bipush 127, 2) := dkAt dk18b00pub_cX11_feed_0_a 5 rfl
theorem dX11_feed_7 : decode cX11_feed 7 = .ok (.if_icmp .le 6, 3) := dkAt dk18b00pub_cX11_feed_0_a 6 rfl
theorem dX11_feed_13 : decode cX11_feed 13 = .ok (.aload_n 0, 1) := dkAt dk18b00pub_cX11_feed_0_a 7 rfl
theorem dX11_feed_14 : decode cX11_feed 14 = .ok (.getfield 14, 3) := dkAt dk18b00pub_cX11_feed_0_a 8 rfl
theorem dX11_feed_17 : decode cX11_feed 17 = .ok (.getfield 53, 3) := dkAt dk18b00pub_cX11_feed_0_a 9 rfl
theorem dX11_feed_20 : decode cX11_feed 20 = .ok (.bipush 100, 2) := dkAt dk18b00pub_cX11_feed_0_a 10 rfl
theorem dX11_feed_22 : decode cX11_feed 22 = .ok (.if_icmp .lt 6, 3) := dkAt dk18b00pub_cX11_feed_0_a 11 rfl
theorem dX11_feed_28 : decode cX11_feed 28 = .ok (.aload_n 0, 1) := dkAt dk18b00pub_cX11_feed_0_a 12 rfl
theorem dX11_feed_29 : decode cX11_feed 29 = .ok (.getfield 14, 3) := dkAt dk18b00pub_cX11_feed_0_a 13 rfl
theorem dX11_feed_32 : decode cX11_feed 32 = .ok (.getfield 57, 3) := dkAt dk18b00pub_cX11_feed_0_a 14 rfl
theorem dX11_feed_35 : decode cX11_feed 35 = .ok (.aload_n 0, 1) := dkAt dk18b00pub_cX11_feed_0_a 15 rfl
theorem dX11_feed_36 : decode cX11_feed 36 = .ok (.getfield 14, 3) := dkAt dk18b00pub_cX11_feed_0_a 16 rfl
theorem dX11_feed_39 : decode cX11_feed 39 = .ok (.getfield 53, 3) := dkAt dk18b00pub_cX11_feed_0_a 17 rfl
theorem dX11_feed_42 : decode cX11_feed 42 = .ok (.iload_n 1, 1) := dkAt dk18b00pub_cX11_feed_0_a 18 rfl
theorem dX11_feed_43 : decode cX11_feed 43 = .ok (.iastore, 1) := dkAt dk18b00pub_cX11_feed_0_a 19 rfl
theorem dX11_feed_44 : decode cX11_feed 44 = .ok (.aload_n 0, 1) := dkAt dk18b00pub_cX11_feed_0_a 20 rfl
theorem dX11_feed_45 : decode cX11_feed 45 = .ok (.getfield 14, 3) := dkAt dk18b00pub_cX11_feed_0_a 21 rfl
theorem dX11_feed_48 : decode cX11_feed 48 = .ok (.dup, 1) := dkAt dk18b00pub_cX11_feed_0_a 22 rfl
theorem dX11_feed_49 : decode cX11_feed 49 = .ok (.getfield 53, 3) := dkAt dk18b00pub_cX11_feed_0_a 23 rfl
theorem dX11_feed_52 : decode cX11_feed 52 = .ok (.iconst 1, 1) := dkAt dk18b00pub_cX11_feed_0_a 24 rfl
theorem dX11_feed_53 : decode cX11_feed 53 = .ok (.iadd, 1) := dkAt dk18b00pub_cX11_feed_0_a 25 rfl
theorem dX11_feed_54 : decode cX11_feed 54 = .ok (.putfield 53, 3) := dkAt dk18b00pub_cX11_feed_0_a 26 rfl
theorem dX11_feed_57 : decode cX11_feed 57 = .ok (.aload_n 0, 1) := dkAt dk18b00pub_cX11_feed_0_a 27 rfl
theorem dX11_feed_58 : decode cX11_feed 58 = .ok (.getfield 14, 3) := dkAt dk18b00pub_cX11_feed_0_a 28 rfl
theorem dX11_feed_61 : decode cX11_feed 61 = .ok (.getfield 53, 3) := dkAt dk18b00pub_cX11_feed_0_a 29 rfl
theorem dX11_feed_64 : decode cX11_feed 64 = .ok (.ireturn, 1) := dkAt dk18b00pub_cX11_feed_0_a 30 rfl
theorem dX11_feed_25 : decode cX11_feed 25 = .ok (.bipush (-4), 2) := dkAt dk18b00pub_cX11_feed_0_a 31 rfl
theorem dX11_feed_27 : decode cX11_feed 27 = .ok (.ireturn, 1) := dkAt dk18b00pub_cX11_feed_0_a 32 rfl
theorem kS0 {k m v x : Int32} (h : k = 0) : x + m = acS k m v x ∧ btS k = [1] := by
  subst h
  exact ⟨acS_0 (by decide) (by decide), btS_0 (by decide) (by decide)⟩
theorem kG0 {k m v x : Int32} (h : k = 0) : (x + m) - v = acG k m v x ∧ btG k = [2, 1] := by
  have q := kS0 (k := k) (m := m) (v := v) (x := x) h
  rw [q.1]
  subst h
  exact ⟨acG_0 (by decide) (by decide), by rw [btG_0 (by decide) (by decide), q.2]⟩
theorem kL0 {k m v x : Int32} (h : k = 0) : ((x + m) - v) * 2 = acL k m v x ∧ btL k = [3, 2, 1] := by
  have q := kG0 (k := k) (m := m) (v := v) (x := x) h
  rw [q.1]
  subst h
  exact ⟨acL_0 (by decide) (by decide), by rw [btL_0 (by decide) (by decide), q.2]⟩
theorem kS1 {k m v x : Int32} (h : k = 1) : x * 3 + m = acS k m v x ∧ btS k = [11, 1] := by
  subst h
  exact ⟨acS_1 (by decide), btS_1 (by decide)⟩
theorem kG1 {k m v x : Int32} (h : k = 1) : (x * 3 + m) - v = acG k m v x ∧ btG k = [2, 11, 1] := by
  have q := kS1 (k := k) (m := m) (v := v) (x := x) h
  rw [q.1]
  subst h
  exact ⟨acG_0 (by decide) (by decide), by rw [btG_0 (by decide) (by decide), q.2]⟩
theorem kL1 {k m v x : Int32} (h : k = 1) : ((x * 3 + m) - v) * 2 = acL k m v x ∧ btL k = [3, 2, 11, 1] := by
  have q := kG1 (k := k) (m := m) (v := v) (x := x) h
  rw [q.1]
  subst h
  exact ⟨acL_0 (by decide) (by decide), by rw [btL_0 (by decide) (by decide), q.2]⟩
theorem kS2 {k m v x : Int32} (h : k = 2) : x + m = acS k m v x ∧ btS k = [1] := by
  subst h
  exact ⟨acS_0 (by decide) (by decide), btS_0 (by decide) (by decide)⟩
theorem kG2 {k m v x : Int32} (h : k = 2) : -((x + m) - v) = acG k m v x ∧ btG k = [21, 2, 1] := by
  have q := kS2 (k := k) (m := m) (v := v) (x := x) h
  rw [q.1]
  subst h
  exact ⟨acG_2 (by decide), by rw [btG_2 (by decide), q.2]⟩
theorem kL2 {k m v x : Int32} (h : k = 2) : (-((x + m) - v)) * 2 = acL k m v x ∧ btL k = [3, 21, 2, 1] := by
  have q := kG2 (k := k) (m := m) (v := v) (x := x) h
  rw [q.1]
  subst h
  exact ⟨acL_0 (by decide) (by decide), by rw [btL_0 (by decide) (by decide), q.2]⟩
theorem kS3 {k m v x : Int32} (h : k = 3) : x + m = acS k m v x ∧ btS k = [1] := by
  subst h
  exact ⟨acS_0 (by decide) (by decide), btS_0 (by decide) (by decide)⟩
theorem kG3 {k m v x : Int32} (h : k = 3) : (x + m) - v = acG k m v x ∧ btG k = [2, 1] := by
  have q := kS3 (k := k) (m := m) (v := v) (x := x) h
  rw [q.1]
  subst h
  exact ⟨acG_0 (by decide) (by decide), by rw [btG_0 (by decide) (by decide), q.2]⟩
theorem kL3 {k m v x : Int32} (h : k = 3) : (((x + m) - v) * 2) ^^^ 7 = acL k m v x ∧ btL k = [31, 3, 2, 1] := by
  have q := kG3 (k := k) (m := m) (v := v) (x := x) h
  rw [q.1]
  subst h
  exact ⟨acL_3 (by decide), by rw [btL_3 (by decide), q.2]⟩
theorem kS4 {k m v x : Int32} (h : k = 4) : x * 3 + m = acS k m v x ∧ btS k = [11, 1] := by
  subst h
  exact ⟨acS_1 (by decide), btS_1 (by decide)⟩
theorem kG4 {k m v x : Int32} (h : k = 4) : (x * 3 + m) - v = acG k m v x ∧ btG k = [2, 11, 1] := by
  have q := kS4 (k := k) (m := m) (v := v) (x := x) h
  rw [q.1]
  subst h
  exact ⟨acG_0 (by decide) (by decide), by rw [btG_0 (by decide) (by decide), q.2]⟩
theorem kL4 {k m v x : Int32} (h : k = 4) : ((((x - 1) * 3 + m) - v) * 2) + (2 * 3 + m) = acL k m v x ∧ btL k = [41, 3, 2, 11, 1, 11, 1] := by
  have q := kG4 (k := k) (m := m) (v := v) (x := x - 1) h
  have q2 := kS4 (k := k) (m := m) (v := v) (x := 2) h
  rw [q.1, q2.1]
  subst h
  exact ⟨acL_4 (by decide) (by decide), by rw [btL_4 (by decide) (by decide), q.2, q2.2]; rfl⟩
theorem kS5 {k m v x : Int32} (h : k = 5) : (x + m) ^^^ m = acS k m v x ∧ btS k = [51, 1] := by
  subst h
  exact ⟨acS_5 (by decide) (by decide), btS_5 (by decide) (by decide)⟩
theorem kG5 {k m v x : Int32} (h : k = 5) : -(((x + m) ^^^ m) - v) = acG k m v x ∧ btG k = [21, 2, 51, 1] := by
  have q := kS5 (k := k) (m := m) (v := v) (x := x) h
  rw [q.1]
  subst h
  exact ⟨acG_2 (by decide), by rw [btG_2 (by decide), q.2]⟩
theorem kL5 {k m v x : Int32} (h : k = 5) : (-(((x + m) ^^^ m) - v)) * 2 = acL k m v x ∧ btL k = [3, 21, 2, 51, 1] := by
  have q := kG5 (k := k) (m := m) (v := v) (x := x) h
  rw [q.1]
  subst h
  exact ⟨acL_0 (by decide) (by decide), by rw [btL_0 (by decide) (by decide), q.2]⟩
theorem kS6 {k m v x : Int32} (h : k = 6) : x + m = acS k m v x ∧ btS k = [1] := by
  subst h
  exact ⟨acS_0 (by decide) (by decide), btS_0 (by decide) (by decide)⟩
theorem kG6 {k m v x : Int32} (h : k = 6) : ((x + m) - v) + v = acG k m v x ∧ btG k = [61, 2, 1] := by
  have q := kS6 (k := k) (m := m) (v := v) (x := x) h
  rw [q.1]
  subst h
  exact ⟨acG_6 (by decide) (by decide), by rw [btG_6 (by decide) (by decide), q.2]⟩
theorem kL6 {k m v x : Int32} (h : k = 6) : ((((x + m) - v) + v) * 2) ^^^ 7 = acL k m v x ∧ btL k = [31, 3, 61, 2, 1] := by
  have q := kG6 (k := k) (m := m) (v := v) (x := x) h
  rw [q.1]
  subst h
  exact ⟨acL_3 (by decide), by rw [btL_3 (by decide), q.2]⟩

theorem kc_xFeed_0 : ∀ w ∈ wsX110, w ∈ wsX11_feed := fun w h => List.mem_cons_of_mem _ (gin_wsX110 w h)
theorem kc_xFeed_1 : (.fieldLink RX11 14 "MistHeaps" "scene" "LMistHeaps$Scene;" : Cond) ∈ wsX11_feed := kc_of 328 rfl rfl rfl
theorem kc_xFeed_2 : ∀ w ∈ wsX80, w ∈ wsX11_feed := fun w h => List.mem_cons_of_mem _ (gin_wsX80 w h)
theorem kc_xFeed_3 : (.fieldLink RX11 53 "MistHeaps$Scene" "tapeSize" "I" : Cond) ∈ wsX11_feed := kc_of 154 rfl rfl rfl
theorem kc_xFeed_4 : (.fieldLink RX11 57 "MistHeaps$Scene" "tape" "[I" : Cond) ∈ wsX11_feed := kc_of 153 rfl rfl rfl
set_option maxHeartbeats 4000000 in
set_option maxRecDepth 100000 in
theorem c_xFeed (l : Launch) (dC : Nat → ClassId) (dI : Nat → Nat → Nat) (h0 : Nat) (sc : Nat) (kp : Nat) (bl : Nat) (go : Nat) (ch : Nat) (bo : Nat) (aTp : Nat) (aHl : Nat) (aHs : Nat) (aWk : Nat) (aBk : Nat) (aFc : Nat) (ts : Nat) (nh : Nat) (n : Nat) (wz : Nat) (bz : Nat) (mi : Int32) (sn : Int32) (ik : Int32) (x : Int32) (ed : Int64) (cTp : ClassId) (fTp : Nat → Int32) (sz : Nat) (hts0 : ts ≤ 100) : Met l yX11_feed wsX11_feed ({ frames := 0, cells := 0, slots := 0, locals := 0 } : Room) (va_Pc [.ref h0, .int x] (fun U => U.heap.size = sz ∧ va_P (dC, dI) vwCl [(zo13rrirrrr h0 sc kp ik bl go ch bo), (zo10ririliiriririr sc aTp (nI ts) aHl (nI nh) ed mi sn aHs (nI n) aWk (nI wz) aBk (nI bz) aFc), (zaI aTp cTp 100 fTp)] U.heap ∧ va_K (dC, dI) vwCl [(cTp, .int)] U ∧ va_D (fun _ => True) [(zo13rrirrrr h0 sc kp ik bl go ch bo), (zo10ririliiriririr sc aTp (nI ts) aHl (nI nh) ed mi sn aHs (nI n) aWk (nI wz) aBk (nI bz) aFc), (zaI aTp cTp 100 fTp)])) (va_Qi (fun (r : Int32) (u : (Nat) × (Nat → Int32)) => match u with | (ts9, fTp9) => r = fdR ts x ∧ ((r < 0 ∧ ts9 = ts ∧ fTp9 = fTp) ∨ (¬ r < 0 ∧ ts < 100 ∧ ¬ x < 0 ∧ ¬ 127 < x ∧ ts9 = ts + 1 ∧ fTp9 = upd fTp ts x))) (fun (u : (Nat) × (Nat → Int32)) (t : State) => match u with | (ts9, fTp9) => va_P (dC, dI) vwCl [(zo13rrirrrr h0 sc kp ik bl go ch bo), (zo10ririliiriririr sc aTp (nI ts9) aHl (nI nh) ed mi sn aHs (nI n) aWk (nI wz) aBk (nI bz) aFc), (zaI aTp cTp 100 fTp9)] t.heap ∧ va_K (dC, dI) vwCl [(cTp, .int)] t ∧ va_D (va_A [(zo13rrirrrr h0 sc kp ik bl go ch bo), (zo10ririliiriririr sc aTp (nI ts) aHl (nI nh) ed mi sn aHs (nI n) aWk (nI wz) aBk (nI bz) aFc), (zaI aTp cTp 100 fTp)] sz) [(zo13rrirrrr h0 sc kp ik bl go ch bo), (zo10ririliiriririr sc aTp (nI ts9) aHl (nI nh) ed mi sn aHs (nI n) aWk (nI wz) aBk (nI bz) aFc), (zaI aTp cTp 100 fTp9)]) (va_A [(zo13rrirrrr h0 sc kp ik bl go ch bo), (zo10ririliiriririr sc aTp (nI ts) aHl (nI nh) ed mi sn aHs (nI n) aWk (nI wz) aBk (nI bz) aFc), (zaI aTp cTp 100 fTp)] sz)) 0 0 (va_A [(zo13rrirrrr h0 sc kp ik bl go ch bo), (zo10ririliiriririr sc aTp (nI ts) aHl (nI nh) ed mi sn aHs (nI n) aWk (nI wz) aBk (nI bz) aFc), (zaI aTp cTp 100 fTp)] sz) := by
  refine met_ofQ (cc := cX11_feed) (maxL := 2) (ret := (some .int)) (by decide) rfl ?_
  intro p e s m args below meth c s₁ Q B hml hv hQ
  obtain ⟨rfl, hsz, hP, hK, hD0⟩ := hv
  have hx := B.exec
  have hb := B.bytes
  have hr := B.returns
  have hts := atoms_spec (ws := wsX11_feed) B.pre
  have hown : s.vm.findClass RX11 = some m.cls := findClass_of_methodNamed B.named
  have hlocks := B.notSynchronized
  subst hsz
  have hD := hD0.self (sz := s.heap.size)
  generalize hAe : va_A [(zo13rrirrrr h0 sc kp ik bl go ch bo), (zo10ririliiriririr sc aTp (nI ts) aHl (nI nh) ed mi sn aHs (nI n) aWk (nI wz) aBk (nI bz) aFc), (zaI aTp cTp 100 fTp)] s.heap.size = A at hD hQ ⊢
  have hA : ∀ q : Nat, s.heap.size ≤ q → A q := fun q h => by rw [← hAe]; exact Or.inr h
  have hS : va_S A s.heap s.heap [] := va_S.rf
  have hl := lv_entry [.ref h0, .int x] (n := 2) (Nat.le_of_ble_eq_true rfl)
  rw [lg_entry_eq]
  generalize (lg_sl [.ref h0, .int x] ++ List.replicate (2 - (lg_sl [.ref h0, .int x]).length) Slot.unset).toArray = ls at hl ⊢
  generalize hag : ([.ref h0, .int x] : List Value).toArray = args at hts hQ ⊢
  have hl : lv_has ls 2 [(0, .ref h0), (1, .int x)] := hl
  obtain ⟨H, hH⟩ : ∃ H : Heap, H = s.heap := ⟨_, rfl⟩
  rw [← hH] at hP
  rw [← hH]
  have hS : va_S A s.heap H [] := by rw [hH]; exact hS
  obtain ⟨locs, hlo⟩ : ∃ L : List Loc, L = [] := ⟨_, rfl⟩
  rw [← hlo] at hS
  rw [← hlo]
  clear hH hlo
  refine lv_iload_n hx hb dX11_feed_0 rfl (lv_at hl 1 rfl) ?_
  refine lv_if_lt (tgt := 10) hx hb dX11_feed_1 (by decide) (fun c_1 => ?_) (fun c_1 => ?_)
  · skip
    refine lv_bipush (v := (-2)) hx hb dX11_feed_10 (by decide) ?_
    rw [hQ]
    have hP9 := hP.sub (ws' := [(zo13rrirrrr h0 sc kp ik bl go ch bo), (zo10ririliiriririr sc aTp (nI ts) aHl (nI nh) ed mi sn aHs (nI n) aWk (nI wz) aBk (nI bz) aFc), (zaI aTp cTp 100 fTp)]) [0, 1, 2] rfl
    have hD9 := hD.sub (ws' := [(zo13rrirrrr h0 sc kp ik bl go ch bo), (zo10ririliiriririr sc aTp (nI ts) aHl (nI nh) ed mi sn aHs (nI n) aWk (nI wz) aBk (nI bz) aFc), (zaI aTp cTp 100 fTp)]) [0, 1, 2] (by decide) rfl
    have hK9 := hK.sub (tys' := [(cTp, .int)]) [0] rfl
    exact W.iret (v := (-2)) hx hb hr (fun tQ htQ hWQ => ⟨⟨(-2), (ts, fTp), rfl, ⟨fd_bad (by first | exact Or.inl (by assumption) | exact Or.inr (Int32.not_le.mp (by assumption))), Or.inl ⟨by decide, rfl, rfl⟩⟩, by rw [htQ]; exact hP9, va_K.moved hWQ.alike hK9, hD9⟩, hS.F htQ⟩) hS.2.2 dX11_feed_12
  · skip
    refine lv_iload_n hx hb dX11_feed_4 rfl (lv_at hl 1 rfl) ?_
    refine lv_bipush (v := 127) hx hb dX11_feed_5 (by decide) ?_
    refine lv_icmp_le (tgt := 13) hx hb dX11_feed_7 (by decide) (fun c_2 => ?_) (fun c_2 => ?_)
    · skip
      refine lv_aload_n hx hb dX11_feed_13 rfl (lv_at hl 0 rfl) ?_
      refine va_get (D := (dC, dI)) (ci := 13) (v := .ref sc) (C := RX11) (T := TX11) (N := 7) hx hb hts kc_xFeed_0 hown hK hP 0 rfl rfl 0 (by decide) (hts (.fieldLink RX11 14 "MistHeaps" "scene" "LMistHeaps$Scene;") kc_xFeed_1) (fun _ h9 => h9) rfl dX11_feed_14 ?_
      refine va_get (D := (dC, dI)) (ci := 10) (v := .int (nI ts)) (C := RX8) (T := TX8) (N := 14) hx hb hts kc_xFeed_2 hown hK hP 1 rfl rfl 1 (by decide) (hts (.fieldLink RX11 53 "MistHeaps$Scene" "tapeSize" "I") kc_xFeed_3) (fun _ h9 => h9) rfl dX11_feed_17 ?_
      refine lv_bipush (v := 100) hx hb dX11_feed_20 (by decide) ?_
      refine lv_icmp_lt (tgt := 28) hx hb dX11_feed_22 (by decide) (fun c_3 => ?_) (fun c_3 => ?_)
      · skip
        have c_3 : ts < 100 := (nI_ltI (a := ts) (b := 100) (by omega) (by omega)).mp c_3
        refine lv_aload_n hx hb dX11_feed_28 rfl (lv_at hl 0 rfl) ?_
        refine va_get (D := (dC, dI)) (ci := 13) (v := .ref sc) (C := RX11) (T := TX11) (N := 7) hx hb hts kc_xFeed_0 hown hK hP 0 rfl rfl 0 (by decide) (hts (.fieldLink RX11 14 "MistHeaps" "scene" "LMistHeaps$Scene;") kc_xFeed_1) (fun _ h9 => h9) rfl dX11_feed_29 ?_
        refine va_get (D := (dC, dI)) (ci := 10) (v := .ref aTp) (C := RX8) (T := TX8) (N := 14) hx hb hts kc_xFeed_2 hown hK hP 1 rfl rfl 0 (by decide) (hts (.fieldLink RX11 57 "MistHeaps$Scene" "tape" "[I") kc_xFeed_4) (fun _ h9 => h9) rfl dX11_feed_32 ?_
        refine lv_aload_n hx hb dX11_feed_35 rfl (lv_at hl 0 rfl) ?_
        refine va_get (D := (dC, dI)) (ci := 13) (v := .ref sc) (C := RX11) (T := TX11) (N := 7) hx hb hts kc_xFeed_0 hown hK hP 0 rfl rfl 0 (by decide) (hts (.fieldLink RX11 14 "MistHeaps" "scene" "LMistHeaps$Scene;") kc_xFeed_1) (fun _ h9 => h9) rfl dX11_feed_36 ?_
        refine va_get (D := (dC, dI)) (ci := 10) (v := .int (nI ts)) (C := RX8) (T := TX8) (N := 14) hx hb hts kc_xFeed_2 hown hK hP 1 rfl rfl 1 (by decide) (hts (.fieldLink RX11 53 "MistHeaps$Scene" "tapeSize" "I") kc_xFeed_3) (fun _ h9 => h9) rfl dX11_feed_39 ?_
        refine lv_iload_n hx hb dX11_feed_42 rfl (lv_at hl 1 rfl) ?_
        refine va_iast hx hb hK hP hD hS 2 0 rfl rfl (vp_in_nI (n := ts) (N := 100) (by omega) (by omega)) dX11_feed_43 (fun H locs hP hD hS => ?_)
        rw [nI_clamp (n := ts) (by omega)] at hP hD
        have hP : va_P (dC, dI) vwCl [(zo13rrirrrr h0 sc kp ik bl go ch bo), (zo10ririliiriririr sc aTp (nI ts) aHl (nI nh) ed mi sn aHs (nI n) aWk (nI wz) aBk (nI bz) aFc), (zaI aTp cTp 100 (upd fTp ts x))] H := hP
        have hD : va_D A [(zo13rrirrrr h0 sc kp ik bl go ch bo), (zo10ririliiriririr sc aTp (nI ts) aHl (nI nh) ed mi sn aHs (nI n) aWk (nI wz) aBk (nI bz) aFc), (zaI aTp cTp 100 (upd fTp ts x))] := hD
        refine lv_aload_n hx hb dX11_feed_44 rfl (lv_at hl 0 rfl) ?_
        refine va_get (D := (dC, dI)) (ci := 13) (v := .ref sc) (C := RX11) (T := TX11) (N := 7) hx hb hts kc_xFeed_0 hown hK hP 0 rfl rfl 0 (by decide) (hts (.fieldLink RX11 14 "MistHeaps" "scene" "LMistHeaps$Scene;") kc_xFeed_1) (fun _ h9 => h9) rfl dX11_feed_45 ?_
        refine lv_dup hx hb dX11_feed_48 rfl ?_
        refine va_get (D := (dC, dI)) (ci := 10) (v := .int (nI ts)) (C := RX8) (T := TX8) (N := 14) hx hb hts kc_xFeed_2 hown hK hP 1 rfl rfl 1 (by decide) (hts (.fieldLink RX11 53 "MistHeaps$Scene" "tapeSize" "I") kc_xFeed_3) (fun _ h9 => h9) rfl dX11_feed_49 ?_
        refine lv_iconst (v := 1) hx hb dX11_feed_52 (by decide) ?_
        refine lv_iadd hx hb dX11_feed_53 ?_
        refine qi_as (y := nI (ts + 1)) (nI_add ts 1) ?_
        refine va_put (D := (dC, dI)) (ci := 10) (v := .int (nI (ts + 1))) (ty := .int) (C := RX8) (T := TX8) (N := 14) hx hb hts kc_xFeed_2 tyX8 tyX8_ok nmX8 hown hK hP hD hS 1 rfl rfl 1 (by decide) (hts (.fieldLink RX11 53 "MistHeaps$Scene" "tapeSize" "I") kc_xFeed_3) (fun _ h9 => h9) rfl (by decide +kernel) rfl rfl (Nat.le_of_ble_eq_true rfl) dX11_feed_54 (fun H locs hP hD hS => ?_)
        have hP : va_P (dC, dI) vwCl [(zo13rrirrrr h0 sc kp ik bl go ch bo), (zo10ririliiriririr sc aTp (nI (ts + 1)) aHl (nI nh) ed mi sn aHs (nI n) aWk (nI wz) aBk (nI bz) aFc), (zaI aTp cTp 100 (upd fTp ts x))] H := hP
        have hD : va_D A [(zo13rrirrrr h0 sc kp ik bl go ch bo), (zo10ririliiriririr sc aTp (nI (ts + 1)) aHl (nI nh) ed mi sn aHs (nI n) aWk (nI wz) aBk (nI bz) aFc), (zaI aTp cTp 100 (upd fTp ts x))] := hD
        refine lv_aload_n hx hb dX11_feed_57 rfl (lv_at hl 0 rfl) ?_
        refine va_get (D := (dC, dI)) (ci := 13) (v := .ref sc) (C := RX11) (T := TX11) (N := 7) hx hb hts kc_xFeed_0 hown hK hP 0 rfl rfl 0 (by decide) (hts (.fieldLink RX11 14 "MistHeaps" "scene" "LMistHeaps$Scene;") kc_xFeed_1) (fun _ h9 => h9) rfl dX11_feed_58 ?_
        refine va_get (D := (dC, dI)) (ci := 10) (v := .int (nI (ts + 1))) (C := RX8) (T := TX8) (N := 14) hx hb hts kc_xFeed_2 hown hK hP 1 rfl rfl 1 (by decide) (hts (.fieldLink RX11 53 "MistHeaps$Scene" "tapeSize" "I") kc_xFeed_3) (fun _ h9 => h9) rfl dX11_feed_61 ?_
        rw [hQ]
        have hP9 := hP.sub (ws' := [(zo13rrirrrr h0 sc kp ik bl go ch bo), (zo10ririliiriririr sc aTp (nI (ts + 1)) aHl (nI nh) ed mi sn aHs (nI n) aWk (nI wz) aBk (nI bz) aFc), (zaI aTp cTp 100 (upd fTp ts x))]) [0, 1, 2] rfl
        have hD9 := hD.sub (ws' := [(zo13rrirrrr h0 sc kp ik bl go ch bo), (zo10ririliiriririr sc aTp (nI (ts + 1)) aHl (nI nh) ed mi sn aHs (nI n) aWk (nI wz) aBk (nI bz) aFc), (zaI aTp cTp 100 (upd fTp ts x))]) [0, 1, 2] (by decide) rfl
        have hK9 := hK.sub (tys' := [(cTp, .int)]) [0] rfl
        exact W.iret (v := nI (ts + 1)) hx hb hr (fun tQ htQ hWQ => ⟨⟨(nI (ts + 1)), ((ts + 1), (upd fTp ts x)), rfl, ⟨fd_ok (by assumption) (Int32.not_lt.mpr (by assumption)) (by omega), Or.inr ⟨nI_pos (by omega), by omega, by assumption, (Int32.not_lt.mpr (by assumption)), rfl, rfl⟩⟩, by rw [htQ]; exact hP9, va_K.moved hWQ.alike hK9, hD9⟩, hS.F htQ⟩) hS.2.2 dX11_feed_64
      · skip
        have c_3 : ¬ ts < 100 := fun q => c_3 ((nI_ltI (a := ts) (b := 100) (by omega) (by omega)).mpr q)
        refine lv_bipush (v := (-4)) hx hb dX11_feed_25 (by decide) ?_
        rw [hQ]
        have hP9 := hP.sub (ws' := [(zo13rrirrrr h0 sc kp ik bl go ch bo), (zo10ririliiriririr sc aTp (nI ts) aHl (nI nh) ed mi sn aHs (nI n) aWk (nI wz) aBk (nI bz) aFc), (zaI aTp cTp 100 fTp)]) [0, 1, 2] rfl
        have hD9 := hD.sub (ws' := [(zo13rrirrrr h0 sc kp ik bl go ch bo), (zo10ririliiriririr sc aTp (nI ts) aHl (nI nh) ed mi sn aHs (nI n) aWk (nI wz) aBk (nI bz) aFc), (zaI aTp cTp 100 fTp)]) [0, 1, 2] (by decide) rfl
        have hK9 := hK.sub (tys' := [(cTp, .int)]) [0] rfl
        exact W.iret (v := (-4)) hx hb hr (fun tQ htQ hWQ => ⟨⟨(-4), (ts, fTp), rfl, ⟨fd_full (by assumption) (Int32.not_lt.mpr (by assumption)) (by omega), Or.inl ⟨by decide, rfl, rfl⟩⟩, by rw [htQ]; exact hP9, va_K.moved hWQ.alike hK9, hD9⟩, hS.F htQ⟩) hS.2.2 dX11_feed_27
    · skip
      refine lv_bipush (v := (-2)) hx hb dX11_feed_10 (by decide) ?_
      rw [hQ]
      have hP9 := hP.sub (ws' := [(zo13rrirrrr h0 sc kp ik bl go ch bo), (zo10ririliiriririr sc aTp (nI ts) aHl (nI nh) ed mi sn aHs (nI n) aWk (nI wz) aBk (nI bz) aFc), (zaI aTp cTp 100 fTp)]) [0, 1, 2] rfl
      have hD9 := hD.sub (ws' := [(zo13rrirrrr h0 sc kp ik bl go ch bo), (zo10ririliiriririr sc aTp (nI ts) aHl (nI nh) ed mi sn aHs (nI n) aWk (nI wz) aBk (nI bz) aFc), (zaI aTp cTp 100 fTp)]) [0, 1, 2] (by decide) rfl
      have hK9 := hK.sub (tys' := [(cTp, .int)]) [0] rfl
      exact W.iret (v := (-2)) hx hb hr (fun tQ htQ hWQ => ⟨⟨(-2), (ts, fTp), rfl, ⟨fd_bad (by first | exact Or.inl (by assumption) | exact Or.inr (Int32.not_le.mp (by assumption))), Or.inl ⟨by decide, rfl, rfl⟩⟩, by rw [htQ]; exact hP9, va_K.moved hWQ.alike hK9, hD9⟩, hS.F htQ⟩) hS.2.2 dX11_feed_12
