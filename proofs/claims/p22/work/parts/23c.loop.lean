def dk23cloop_cL_law_0 : List (Nat × Instr × Nat) := [(18, .iload_n 3, 1), (19, .aload_n 0, 1), (20, .arraylength, 1), (21, .iconst 5, 1), (22, .isub, 1), (23, .if_icmp .gt 1091, 3), (26, .aload_n 0, 1), (27, .iload_n 3, 1), (28, .iaload, 1), (29, .bipush 31, 2), (31, .iand, 1), (1108, .iinc 3 5, 3), (1111, .goto (-1093), 3), (32, .tableswitch 1076 0 29 #[136, 159, 172, 225, 258, 281, 324, 357, 380, 403, 436, 469, 502, 535, 578, 601, 624, 667, 720, 773, 816, 849, 892, 915, 928, 971, 994, 1027, 1040, 1053], 136), (1114, .iconst 1, 1), (1115, .ireturn, 1)]
set_option maxRecDepth 100000 in
theorem dk23cloop_cL_law_0_a : dkA cL_law dk23cloop_cL_law_0 = true := by decide +kernel
theorem dL_law_18 : decode cL_law 18 = .ok (.iload_n 3, 1) := dkAt dk23cloop_cL_law_0_a 0 rfl
theorem dL_law_19 : decode cL_law 19 = .ok (.aload_n 0, 1) := dkAt dk23cloop_cL_law_0_a 1 rfl
theorem dL_law_20 : decode cL_law 20 = .ok (.arraylength, 1) := dkAt dk23cloop_cL_law_0_a 2 rfl
theorem dL_law_21 : decode cL_law 21 = .ok (.iconst 5, 1) := dkAt dk23cloop_cL_law_0_a 3 rfl
theorem dL_law_22 : decode cL_law 22 = .ok (.isub, 1) := dkAt dk23cloop_cL_law_0_a 4 rfl
theorem dL_law_23 : decode cL_law 23 = .ok (.if_icmp .gt 1091, 3) := dkAt dk23cloop_cL_law_0_a 5 rfl
theorem dL_law_26 : decode cL_law 26 = .ok (.aload_n 0, 1) := dkAt dk23cloop_cL_law_0_a 6 rfl
theorem dL_law_27 : decode cL_law 27 = .ok (.iload_n 3, 1) := dkAt dk23cloop_cL_law_0_a 7 rfl
theorem dL_law_28 : decode cL_law 28 = .ok (.iaload, 1) := dkAt dk23cloop_cL_law_0_a 8 rfl
theorem dL_law_29 : decode cL_law 29 = .ok (.bipush 31, 2) := dkAt dk23cloop_cL_law_0_a 9 rfl
theorem dL_law_31 : decode cL_law 31 = .ok (.iand, 1) := dkAt dk23cloop_cL_law_0_a 10 rfl
theorem dL_law_1108 : decode cL_law 1108 = .ok (.iinc 3 5, 3) := dkAt dk23cloop_cL_law_0_a 11 rfl
theorem dL_law_1111 : decode cL_law 1111 = .ok (.goto (-1093), 3) := dkAt dk23cloop_cL_law_0_a 12 rfl
theorem dL_law_32 : decode cL_law 32 = .ok (.tableswitch 1076 0 29 #[136, 159, 172, 225, 258, 281, 324, 357, 380, 403, 436, 469, 502, 535, 578, 601, 624, 667, 720, 773, 816, 849, 892, 915, 928, 971, 994, 1027, 1040, 1053], 136) := dkAt dk23cloop_cL_law_0_a 13 rfl
theorem dL_law_1114 : decode cL_law 1114 = .ok (.iconst 1, 1) := dkAt dk23cloop_cL_law_0_a 14 rfl
theorem dL_law_1115 : decode cL_law 1115 = .ok (.ireturn, 1) := dkAt dk23cloop_cL_law_0_a 15 rfl
theorem lend_cmp {i L : Nat} (hL : L ≤ 320) (hi : L < i + 5) (hi2 : i ≤ 400) : nI L - 5 < nI i := by
  rcases Nat.lt_or_ge L 5 with q | q
  · have h : nI L - 5 < 0 := by
      have : L = 0 ∨ L = 1 ∨ L = 2 ∨ L = 3 ∨ L = 4 := by omega
      rcases this with rfl | rfl | rfl | rfl | rfl <;> decide
    exact Int32.lt_of_lt_of_le h (Int32.not_lt.mp (nI_pos (by omega)))
  · rw [show nI L - 5 = nI (L - 5) from pk_sub (a := L) (b := 5) q]
    exact nI_lt (by omega) (by omega)

set_option maxHeartbeats 8000000 in
set_option maxRecDepth 100000 in
theorem law_loop {p : Program} {l : Launch} {e : Env} {s : State} {m : MethodId} {below : List Frame} {meth : Method} {c : Code} {b L : Nat} {xs : Nat → Int32} {A : Nat → Prop} (hAe : A = fun q => s.heap.size ≤ q) (C0 : lw_At p s m meth c b L xs) (hL : L ≤ 320) (dC : Nat → ClassId) (dI : Nat → Nat → Nat) (gd : Nat → Nat) (kA : Nat) (ad : Nat → Nat) (cB bS : Nat) (sK sV : Nat → Nat) (Y : Nat → Prop) (h0 m0 : Nat) (T2 : List (ClassId × FieldType)) (hGA : GA gd kA ad cB bS sK sV A s) : ∀ (nF i : Nat), L + 5 - i < nF → i ≤ L + 5 → ∀ (cells slots : Nat), cells ≤ 1000 + 2 * i → slots ≤ 10000 + 40 * i → ∀ (ik : Int32) (vs kvs : VS) (tl : List Nat) (im : Int32) (vm kvm : VS) (tm : List Nat) (X : va_W) (T : List (ClassId × FieldType)) (M : va_W) (H : Heap) (locs : List Loc), Lst dC dI ad bS Y s A h0 m0 ik vs kvs tl im vm kvm tm X T M T2 H → (ik = im ∧ vs = vm ∧ (im = 0 ∨ kvs = kvm) ∧ tl = tm) → va_S A s.heap H locs → ∀ ls : Array Slot, lv_has ls 4 [(0, .ref b), (1, .ref h0), (2, .ref m0), (3, .int (nI i))] → W p l e room_1 s m #[Value.ref b] below meth c H locs cells slots (lw_Z below #[Value.ref b] s) (F0 m 18 ls []) := by
  obtain ⟨hx, hb, hr, hml, hown, hts0, hX, hbl, hlocks, hgv⟩ := id C0
  have hb : c.code = cL_law := hb
  have hA : ∀ q : Nat, s.heap.size ≤ q → A q := fun q h => by rw [hAe]; exact h
  have hbA : ¬ A b := by rw [hAe]; exact Nat.not_le.mpr hbl
  intro nF
  induction nF with
  | zero => intro i hm; exact absurd hm (Nat.not_lt_zero _)
  | succ nF ih =>
    intro i hm hi5 cells slots hc0 hs0 ik vs kvs tl im vm kvm tm X T M H locs hLS hcp hS ls hl
    refine lv_iload_n hx hb dL_law_18 rfl (lv_at hl 3 rfl) ?_
    refine lv_aload_n hx hb dL_law_19 rfl (lv_at hl 0 rfl) ?_
    refine va_slen hx hb hX hbl hbA hS dL_law_20 ?_
    refine qi_as (y := nI L) rfl ?_
    refine lv_iconst (v := 5) hx hb dL_law_21 (by decide) ?_
    refine lv_isub hx hb dL_law_22 ?_
    by_cases hi : i + 5 ≤ L
    · skip
      refine lv_icmp_gt (tgt := 1114) hx hb dL_law_23 (by decide) (fun c1 => absurd c1 (by rw [show nI L - 5 = nI (L - 5) from pk_sub (a := L) (b := 5) (by omega)]; exact nI_nlt (by omega) (by omega))) (fun _ => ?_)
      refine lv_aload_n hx hb dL_law_26 rfl (lv_at hl 0 rfl) ?_
      refine lv_iload_n hx hb dL_law_27 rfl (lv_at hl 3 rfl) ?_
      refine va_sld hx hb hX hbl hbA hS (vp_in_nI (n := i) (N := L) (by omega) (by omega)) dL_law_28 ?_
      refine lv_bipush (v := 31) hx hb dL_law_29 (by decide) ?_
      refine lv_iand hx hb dL_law_31 ?_
      obtain ⟨j, hj, ej⟩ := pk_andE (xs (nI i).toNatClampNeg) (m := 31) 5 (by decide)
      refine qi_as (y := nI j) ej ?_
      have hj : j < 32 := hj
      have kk : ∀ (ik : Int32) (vs kvs : VS) (tl : List Nat) (im : Int32) (vm kvm : VS) (tm : List Nat) (X : va_W) (T : List (ClassId × FieldType)) (M : va_W) (H : Heap) (locs : List Loc), Lst dC dI ad bS Y s A h0 m0 ik vs kvs tl im vm kvm tm X T M T2 H → (ik = im ∧ vs = vm ∧ (im = 0 ∨ kvs = kvm) ∧ tl = tm) → va_S A s.heap H locs → W p l e room_1 s m #[Value.ref b] below meth c H locs (cells + 8) (slots + 200) (lw_Z below #[Value.ref b] s) (F0 m 1108 ls []) := by
        intro ik vs kvs tl im vm kvm tm X T M H locs hLS hcp hS
        refine lv_iinc (v := nI (i + 5)) (lv' := [(3, .int (nI (i + 5))), (0, .ref b), (1, .ref h0), (2, .ref m0)]) hx hb dL_law_1108 hl (k := 3) rfl (nI_add i 5) (by decide) rfl (fun ls hl => ?_)
        refine lv_goto (tgt := 18) hx hb dL_law_1111 (by decide) ?_
        exact ih (i + 5) (by omega) (by omega) (cells + 8) (slots + 200) (by omega) (by omega) ik vs kvs tl im vm kvm tm X T M H locs hLS hcp hS ls (lv_sub hl [1, 2, 3, 0] rfl)
      have hj9 : j = 0 ∨ j = 1 ∨ j = 2 ∨ j = 3 ∨ j = 4 ∨ j = 5 ∨ j = 6 ∨ j = 7 ∨ j = 8 ∨ j = 9 ∨ j = 10 ∨ j = 11 ∨ j = 12 ∨ j = 13 ∨ j = 14 ∨ j = 15 ∨ j = 16 ∨ j = 17 ∨ j = 18 ∨ j = 19 ∨ j = 20 ∨ j = 21 ∨ j = 22 ∨ j = 23 ∨ j = 24 ∨ j = 25 ∨ j = 26 ∨ j = 27 ∨ j = 28 ∨ j = 29 ∨ j = 30 ∨ j = 31 := by omega
      rcases hj9 with rfl | rfl | rfl | rfl | rfl | rfl | rfl | rfl | rfl | rfl | rfl | rfl | rfl | rfl | rfl | rfl | rfl | rfl | rfl | rfl | rfl | rfl | rfl | rfl | rfl | rfl | rfl | rfl | rfl | rfl | rfl | rfl
      · refine lv_tableIn (tgt := 168) hx hb dL_law_32 (by decide) (by decide) rfl (by decide) ?_
        exact lc_0 hAe C0 dC dI gd kA ad cB bS sK sV Y h0 m0 ik vs kvs tl im vm kvm tm X T M T2 hGA i hi hL H locs hLS cells slots (by omega) (by omega) hS ls hl hcp kk
      · refine lv_tableIn (tgt := 191) hx hb dL_law_32 (by decide) (by decide) rfl (by decide) ?_
        exact lc_1 hAe C0 dC dI gd kA ad cB bS sK sV Y h0 m0 ik vs kvs tl im vm kvm tm X T M T2 hGA i hi hL H locs hLS cells slots (by omega) (by omega) hS ls hl hcp kk
      · refine lv_tableIn (tgt := 204) hx hb dL_law_32 (by decide) (by decide) rfl (by decide) ?_
        exact lc_2 hAe C0 dC dI gd kA ad cB bS sK sV Y h0 m0 ik vs kvs tl im vm kvm tm X T M T2 hGA i hi hL H locs hLS cells slots (by omega) (by omega) hS ls hl hcp kk
      · refine lv_tableIn (tgt := 257) hx hb dL_law_32 (by decide) (by decide) rfl (by decide) ?_
        exact lc_3 hAe C0 dC dI gd kA ad cB bS sK sV Y h0 m0 ik vs kvs tl im vm kvm tm X T M T2 hGA i hi hL H locs hLS cells slots (by omega) (by omega) hS ls hl hcp kk
      · refine lv_tableIn (tgt := 290) hx hb dL_law_32 (by decide) (by decide) rfl (by decide) ?_
        exact lc_4 hAe C0 dC dI gd kA ad cB bS sK sV Y h0 m0 ik vs kvs tl im vm kvm tm X T M T2 hGA i hi hL H locs hLS cells slots (by omega) (by omega) hS ls hl hcp kk
      · refine lv_tableIn (tgt := 313) hx hb dL_law_32 (by decide) (by decide) rfl (by decide) ?_
        exact lc_5 hAe C0 dC dI gd kA ad cB bS sK sV Y h0 m0 ik vs kvs tl im vm kvm tm X T M T2 hGA i hi hL H locs hLS cells slots (by omega) (by omega) hS ls hl hcp kk
      · refine lv_tableIn (tgt := 356) hx hb dL_law_32 (by decide) (by decide) rfl (by decide) ?_
        exact lc_6 hAe C0 dC dI gd kA ad cB bS sK sV Y h0 m0 ik vs kvs tl im vm kvm tm X T M T2 hGA i hi hL H locs hLS cells slots (by omega) (by omega) hS ls hl hcp kk
      · refine lv_tableIn (tgt := 389) hx hb dL_law_32 (by decide) (by decide) rfl (by decide) ?_
        exact lc_7 hAe C0 dC dI gd kA ad cB bS sK sV Y h0 m0 ik vs kvs tl im vm kvm tm X T M T2 hGA i hi hL H locs hLS cells slots (by omega) (by omega) hS ls hl hcp kk
      · refine lv_tableIn (tgt := 412) hx hb dL_law_32 (by decide) (by decide) rfl (by decide) ?_
        exact lc_8 hAe C0 dC dI gd kA ad cB bS sK sV Y h0 m0 ik vs kvs tl im vm kvm tm X T M T2 hGA i hi hL H locs hLS cells slots (by omega) (by omega) hS ls hl hcp kk
      · refine lv_tableIn (tgt := 435) hx hb dL_law_32 (by decide) (by decide) rfl (by decide) ?_
        exact lc_9 hAe C0 dC dI gd kA ad cB bS sK sV Y h0 m0 ik vs kvs tl im vm kvm tm X T M T2 hGA i hi hL H locs hLS cells slots (by omega) (by omega) hS ls hl hcp kk
      · refine lv_tableIn (tgt := 468) hx hb dL_law_32 (by decide) (by decide) rfl (by decide) ?_
        exact lc_10 hAe C0 dC dI gd kA ad cB bS sK sV Y h0 m0 ik vs kvs tl im vm kvm tm X T M T2 hGA i hi hL H locs hLS cells slots (by omega) (by omega) hS ls hl hcp kk
      · refine lv_tableIn (tgt := 501) hx hb dL_law_32 (by decide) (by decide) rfl (by decide) ?_
        exact lc_11 hAe C0 dC dI gd kA ad cB bS sK sV Y h0 m0 ik vs kvs tl im vm kvm tm X T M T2 hGA i hi hL H locs hLS cells slots (by omega) (by omega) hS ls hl hcp kk
      · refine lv_tableIn (tgt := 534) hx hb dL_law_32 (by decide) (by decide) rfl (by decide) ?_
        exact lc_12 hAe C0 dC dI gd kA ad cB bS sK sV Y h0 m0 ik vs kvs tl im vm kvm tm X T M T2 hGA i hi hL H locs hLS cells slots (by omega) (by omega) hS ls hl hcp kk
      · refine lv_tableIn (tgt := 567) hx hb dL_law_32 (by decide) (by decide) rfl (by decide) ?_
        exact lc_13 hAe C0 dC dI gd kA ad cB bS sK sV Y h0 m0 ik vs kvs tl im vm kvm tm X T M T2 hGA i hi hL H locs hLS cells slots (by omega) (by omega) hS ls hl hcp kk
      · refine lv_tableIn (tgt := 610) hx hb dL_law_32 (by decide) (by decide) rfl (by decide) ?_
        exact lc_14 hAe C0 dC dI gd kA ad cB bS sK sV Y h0 m0 ik vs kvs tl im vm kvm tm X T M T2 hGA i hi hL H locs hLS cells slots (by omega) (by omega) hS ls hl hcp kk
      · refine lv_tableIn (tgt := 633) hx hb dL_law_32 (by decide) (by decide) rfl (by decide) ?_
        exact lc_15 hAe C0 dC dI gd kA ad cB bS sK sV Y h0 m0 ik vs kvs tl im vm kvm tm X T M T2 hGA i hi hL H locs hLS cells slots (by omega) (by omega) hS ls hl hcp kk
      · refine lv_tableIn (tgt := 656) hx hb dL_law_32 (by decide) (by decide) rfl (by decide) ?_
        exact lc_16 hAe C0 dC dI gd kA ad cB bS sK sV Y h0 m0 ik vs kvs tl im vm kvm tm X T M T2 hGA i hi hL H locs hLS cells slots (by omega) (by omega) hS ls hl hcp kk
      · refine lv_tableIn (tgt := 699) hx hb dL_law_32 (by decide) (by decide) rfl (by decide) ?_
        exact lc_17 hAe C0 dC dI gd kA ad cB bS sK sV Y h0 m0 ik vs kvs tl im vm kvm tm X T M T2 hGA i hi hL H locs hLS cells slots (by omega) (by omega) hS ls hl hcp kk
      · refine lv_tableIn (tgt := 752) hx hb dL_law_32 (by decide) (by decide) rfl (by decide) ?_
        exact lc_18 hAe C0 dC dI gd kA ad cB bS sK sV Y h0 m0 ik vs kvs tl im vm kvm tm X T M T2 hGA i hi hL H locs hLS cells slots (by omega) (by omega) hS ls hl hcp kk
      · refine lv_tableIn (tgt := 805) hx hb dL_law_32 (by decide) (by decide) rfl (by decide) ?_
        exact lc_19 hAe C0 dC dI gd kA ad cB bS sK sV Y h0 m0 ik vs kvs tl im vm kvm tm X T M T2 hGA i hi hL H locs hLS cells slots (by omega) (by omega) hS ls hl hcp kk
      · refine lv_tableIn (tgt := 848) hx hb dL_law_32 (by decide) (by decide) rfl (by decide) ?_
        exact lc_20 hAe C0 dC dI gd kA ad cB bS sK sV Y h0 m0 ik vs kvs tl im vm kvm tm X T M T2 hGA i hi hL H locs hLS cells slots (by omega) (by omega) hS ls hl hcp kk
      · refine lv_tableIn (tgt := 881) hx hb dL_law_32 (by decide) (by decide) rfl (by decide) ?_
        exact lc_21 hAe C0 dC dI gd kA ad cB bS sK sV Y h0 m0 ik vs kvs tl im vm kvm tm X T M T2 hGA i hi hL H locs hLS cells slots (by omega) (by omega) hS ls hl hcp kk
      · refine lv_tableIn (tgt := 924) hx hb dL_law_32 (by decide) (by decide) rfl (by decide) ?_
        exact lc_22 hAe C0 dC dI gd kA ad cB bS sK sV Y h0 m0 ik vs kvs tl im vm kvm tm X T M T2 hGA i hi hL H locs hLS cells slots (by omega) (by omega) hS ls hl hcp kk
      · refine lv_tableIn (tgt := 947) hx hb dL_law_32 (by decide) (by decide) rfl (by decide) ?_
        exact lc_23 hAe C0 dC dI gd kA ad cB bS sK sV Y h0 m0 ik vs kvs tl im vm kvm tm X T M T2 hGA i hi hL H locs hLS cells slots (by omega) (by omega) hS ls hl hcp kk
      · refine lv_tableIn (tgt := 960) hx hb dL_law_32 (by decide) (by decide) rfl (by decide) ?_
        exact lc_24 hAe C0 dC dI gd kA ad cB bS sK sV Y h0 m0 ik vs kvs tl im vm kvm tm X T M T2 hGA i hi hL H locs hLS cells slots (by omega) (by omega) hS ls hl hcp kk
      · refine lv_tableIn (tgt := 1003) hx hb dL_law_32 (by decide) (by decide) rfl (by decide) ?_
        exact lc_25 hAe C0 dC dI gd kA ad cB bS sK sV Y h0 m0 ik vs kvs tl im vm kvm tm X T M T2 hGA i hi hL H locs hLS cells slots (by omega) (by omega) hS ls hl hcp kk
      · refine lv_tableIn (tgt := 1026) hx hb dL_law_32 (by decide) (by decide) rfl (by decide) ?_
        exact lc_26 hAe C0 dC dI gd kA ad cB bS sK sV Y h0 m0 ik vs kvs tl im vm kvm tm X T M T2 hGA i hi hL H locs hLS cells slots (by omega) (by omega) hS ls hl hcp kk
      · refine lv_tableIn (tgt := 1059) hx hb dL_law_32 (by decide) (by decide) rfl (by decide) ?_
        exact lc_27 hAe C0 dC dI gd kA ad cB bS sK sV Y h0 m0 ik vs kvs tl im vm kvm tm X T M T2 hGA i hi hL H locs hLS cells slots (by omega) (by omega) hS ls hl hcp kk
      · refine lv_tableIn (tgt := 1072) hx hb dL_law_32 (by decide) (by decide) rfl (by decide) ?_
        exact lc_28 hAe C0 dC dI gd kA ad cB bS sK sV Y h0 m0 ik vs kvs tl im vm kvm tm X T M T2 hGA i hi hL H locs hLS cells slots (by omega) (by omega) hS ls hl hcp kk
      · refine lv_tableIn (tgt := 1085) hx hb dL_law_32 (by decide) (by decide) rfl (by decide) ?_
        exact lc_29 hAe C0 dC dI gd kA ad cB bS sK sV Y h0 m0 ik vs kvs tl im vm kvm tm X T M T2 hGA i hi hL H locs hLS cells slots (by omega) (by omega) hS ls hl hcp kk
      · refine lv_tableOut (tgt := 1108) hx hb dL_law_32 (by decide) (by decide) ?_
        refine W.widen (k := cells + 8) (n := slots + 200) (by omega) (by omega) ?_
        exact (kk ik vs kvs tl im vm kvm tm X T M H locs hLS hcp hS)
      · refine lv_tableOut (tgt := 1108) hx hb dL_law_32 (by decide) (by decide) ?_
        refine W.widen (k := cells + 8) (n := slots + 200) (by omega) (by omega) ?_
        exact (kk ik vs kvs tl im vm kvm tm X T M H locs hLS hcp hS)
    · skip
      refine lv_icmp_gt (tgt := 1114) hx hb dL_law_23 (by decide) (fun _ => ?_) (fun c1 => absurd (lend_cmp hL (by omega) (by omega)) c1)
      refine lv_iconst (v := 1) hx hb dL_law_1114 (by decide) ?_
      refine va_forget (fun q hq => by have := hS.2.2 q hq; rw [hAe] at this; exact this) ?_
      refine W.widen (k := 600000) (n := 7302250) (by omega) (by omega) ?_
      exact lw_ret hx hb hr hlocks dL_law_1115
