noncomputable def dk18b01pub_cJ13_bitCount_95d88_0 : List (Nat × Instr × Nat) := [(0, .lload_n 0, 1), (1, .lload_n 0, 1), (2, .iconst 1, 1), (3, .lushr, 1), (4, .ldc2_w 314, 3), (7, .land, 1), (8, .lsub, 1), (9, .lstore_n 0, 1), (10, .lload_n 0, 1), (11, .ldc2_w 316, 3), (14, .land, 1), (15, .lload_n 0, 1), (16, .iconst 2, 1), (17, .lushr, 1), (18, .ldc2_w 316, 3), (21, .land, 1), (22, .ladd, 1), (23, .lstore_n 0, 1), (24, .lload_n 0, 1), (25, .lload_n 0, 1), (26, .iconst 4, 1), (27, .lushr, 1), (28, .ladd, 1), (29, .ldc2_w 318, 3), (32, .land, 1), (33, .lstore_n 0, 1), (34, .lload_n 0, 1), (35, .lload_n 0, 1), (36, .bipush 8, 2), (38, .lushr, 1), (39, .ladd, 1), (40, .lstore_n 0, 1), (41, .lload_n 0, 1), (42, .lload_n 0, 1), (43, .bipush 16, 2), (45, .lushr, 1), (46, .ladd, 1), (47, .lstore_n 0, 1), (48, .lload_n 0, 1), (49, .lload_n 0, 1)]
set_option maxRecDepth 100000 in
theorem dk18b01pub_cJ13_bitCount_95d88_0_a : dkA cJ13_bitCount_95d88 dk18b01pub_cJ13_bitCount_95d88_0 = true := by decide +kernel
theorem dJ13_bitCount_95d88_0 : decode cJ13_bitCount_95d88 0 = .ok (.lload_n 0, 1) := dkAt dk18b01pub_cJ13_bitCount_95d88_0_a 0 rfl
theorem dJ13_bitCount_95d88_1 : decode cJ13_bitCount_95d88 1 = .ok (.lload_n 0, 1) := dkAt dk18b01pub_cJ13_bitCount_95d88_0_a 1 rfl
theorem dJ13_bitCount_95d88_2 : decode cJ13_bitCount_95d88 2 = .ok (.iconst 1, 1) := dkAt dk18b01pub_cJ13_bitCount_95d88_0_a 2 rfl
theorem dJ13_bitCount_95d88_3 : decode cJ13_bitCount_95d88 3 = .ok (.lushr, 1) := dkAt dk18b01pub_cJ13_bitCount_95d88_0_a 3 rfl
theorem dJ13_bitCount_95d88_4 : decode cJ13_bitCount_95d88 4 = .ok (.ldc2_w 314, 3) := dkAt dk18b01pub_cJ13_bitCount_95d88_0_a 4 rfl
theorem dJ13_bitCount_95d88_7 : decode cJ13_bitCount_95d88 7 = .ok (.land, 1) := dkAt dk18b01pub_cJ13_bitCount_95d88_0_a 5 rfl
theorem dJ13_bitCount_95d88_8 : decode cJ13_bitCount_95d88 8 = .ok (.lsub, 1) := dkAt dk18b01pub_cJ13_bitCount_95d88_0_a 6 rfl
theorem dJ13_bitCount_95d88_9 : decode cJ13_bitCount_95d88 9 = .ok (.lstore_n 0, 1) := dkAt dk18b01pub_cJ13_bitCount_95d88_0_a 7 rfl
theorem dJ13_bitCount_95d88_10 : decode cJ13_bitCount_95d88 10 = .ok (.lload_n 0, 1) := dkAt dk18b01pub_cJ13_bitCount_95d88_0_a 8 rfl
theorem dJ13_bitCount_95d88_11 : decode cJ13_bitCount_95d88 11 = .ok (.ldc2_w 316, 3) := dkAt dk18b01pub_cJ13_bitCount_95d88_0_a 9 rfl
theorem dJ13_bitCount_95d88_14 : decode cJ13_bitCount_95d88 14 = .ok (.land, 1) := dkAt dk18b01pub_cJ13_bitCount_95d88_0_a 10 rfl
theorem dJ13_bitCount_95d88_15 : decode cJ13_bitCount_95d88 15 = .ok (.lload_n 0, 1) := dkAt dk18b01pub_cJ13_bitCount_95d88_0_a 11 rfl
theorem dJ13_bitCount_95d88_16 : decode cJ13_bitCount_95d88 16 = .ok (.iconst 2, 1) := dkAt dk18b01pub_cJ13_bitCount_95d88_0_a 12 rfl
theorem dJ13_bitCount_95d88_17 : decode cJ13_bitCount_95d88 17 = .ok (.lushr, 1) := dkAt dk18b01pub_cJ13_bitCount_95d88_0_a 13 rfl
theorem dJ13_bitCount_95d88_18 : decode cJ13_bitCount_95d88 18 = .ok (.ldc2_w 316, 3) := dkAt dk18b01pub_cJ13_bitCount_95d88_0_a 14 rfl
theorem dJ13_bitCount_95d88_21 : decode cJ13_bitCount_95d88 21 = .ok (.land, 1) := dkAt dk18b01pub_cJ13_bitCount_95d88_0_a 15 rfl
theorem dJ13_bitCount_95d88_22 : decode cJ13_bitCount_95d88 22 = .ok (.ladd, 1) := dkAt dk18b01pub_cJ13_bitCount_95d88_0_a 16 rfl
theorem dJ13_bitCount_95d88_23 : decode cJ13_bitCount_95d88 23 = .ok (.lstore_n 0, 1) := dkAt dk18b01pub_cJ13_bitCount_95d88_0_a 17 rfl
theorem dJ13_bitCount_95d88_24 : decode cJ13_bitCount_95d88 24 = .ok (.lload_n 0, 1) := dkAt dk18b01pub_cJ13_bitCount_95d88_0_a 18 rfl
theorem dJ13_bitCount_95d88_25 : decode cJ13_bitCount_95d88 25 = .ok (.lload_n 0, 1) := dkAt dk18b01pub_cJ13_bitCount_95d88_0_a 19 rfl
theorem dJ13_bitCount_95d88_26 : decode cJ13_bitCount_95d88 26 = .ok (.iconst 4, 1) := dkAt dk18b01pub_cJ13_bitCount_95d88_0_a 20 rfl
theorem dJ13_bitCount_95d88_27 : decode cJ13_bitCount_95d88 27 = .ok (.lushr, 1) := dkAt dk18b01pub_cJ13_bitCount_95d88_0_a 21 rfl
theorem dJ13_bitCount_95d88_28 : decode cJ13_bitCount_95d88 28 = .ok (.ladd, 1) := dkAt dk18b01pub_cJ13_bitCount_95d88_0_a 22 rfl
theorem dJ13_bitCount_95d88_29 : decode cJ13_bitCount_95d88 29 = .ok (.ldc2_w 318, 3) := dkAt dk18b01pub_cJ13_bitCount_95d88_0_a 23 rfl
theorem dJ13_bitCount_95d88_32 : decode cJ13_bitCount_95d88 32 = .ok (.land, 1) := dkAt dk18b01pub_cJ13_bitCount_95d88_0_a 24 rfl
theorem dJ13_bitCount_95d88_33 : decode cJ13_bitCount_95d88 33 = .ok (.lstore_n 0, 1) := dkAt dk18b01pub_cJ13_bitCount_95d88_0_a 25 rfl
theorem dJ13_bitCount_95d88_34 : decode cJ13_bitCount_95d88 34 = .ok (.lload_n 0, 1) := dkAt dk18b01pub_cJ13_bitCount_95d88_0_a 26 rfl
theorem dJ13_bitCount_95d88_35 : decode cJ13_bitCount_95d88 35 = .ok (.lload_n 0, 1) := dkAt dk18b01pub_cJ13_bitCount_95d88_0_a 27 rfl
theorem dJ13_bitCount_95d88_36 : decode cJ13_bitCount_95d88 36 = .ok (.bipush 8, 2) := dkAt dk18b01pub_cJ13_bitCount_95d88_0_a 28 rfl
theorem dJ13_bitCount_95d88_38 : decode cJ13_bitCount_95d88 38 = .ok (.lushr, 1) := dkAt dk18b01pub_cJ13_bitCount_95d88_0_a 29 rfl
theorem dJ13_bitCount_95d88_39 : decode cJ13_bitCount_95d88 39 = .ok (.ladd, 1) := dkAt dk18b01pub_cJ13_bitCount_95d88_0_a 30 rfl
theorem dJ13_bitCount_95d88_40 : decode cJ13_bitCount_95d88 40 = .ok (.lstore_n 0, 1) := dkAt dk18b01pub_cJ13_bitCount_95d88_0_a 31 rfl
theorem dJ13_bitCount_95d88_41 : decode cJ13_bitCount_95d88 41 = .ok (.lload_n 0, 1) := dkAt dk18b01pub_cJ13_bitCount_95d88_0_a 32 rfl
theorem dJ13_bitCount_95d88_42 : decode cJ13_bitCount_95d88 42 = .ok (.lload_n 0, 1) := dkAt dk18b01pub_cJ13_bitCount_95d88_0_a 33 rfl
theorem dJ13_bitCount_95d88_43 : decode cJ13_bitCount_95d88 43 = .ok (.bipush 16, 2) := dkAt dk18b01pub_cJ13_bitCount_95d88_0_a 34 rfl
theorem dJ13_bitCount_95d88_45 : decode cJ13_bitCount_95d88 45 = .ok (.lushr, 1) := dkAt dk18b01pub_cJ13_bitCount_95d88_0_a 35 rfl
theorem dJ13_bitCount_95d88_46 : decode cJ13_bitCount_95d88 46 = .ok (.ladd, 1) := dkAt dk18b01pub_cJ13_bitCount_95d88_0_a 36 rfl
theorem dJ13_bitCount_95d88_47 : decode cJ13_bitCount_95d88 47 = .ok (.lstore_n 0, 1) := dkAt dk18b01pub_cJ13_bitCount_95d88_0_a 37 rfl
theorem dJ13_bitCount_95d88_48 : decode cJ13_bitCount_95d88 48 = .ok (.lload_n 0, 1) := dkAt dk18b01pub_cJ13_bitCount_95d88_0_a 38 rfl
theorem dJ13_bitCount_95d88_49 : decode cJ13_bitCount_95d88 49 = .ok (.lload_n 0, 1) := dkAt dk18b01pub_cJ13_bitCount_95d88_0_a 39 rfl
noncomputable def dk18b01pub_cJ13_bitCount_95d88_40 : List (Nat × Instr × Nat) := [(50, .bipush 32, 2), (52, .lushr, 1), (53, .ladd, 1), (54, .lstore_n 0, 1), (55, .lload_n 0, 1), (56, .l2i, 1), (57, .bipush 127, 2), (59, .iand, 1), (60, .ireturn, 1)]
set_option maxRecDepth 100000 in
theorem dk18b01pub_cJ13_bitCount_95d88_40_a : dkA cJ13_bitCount_95d88 dk18b01pub_cJ13_bitCount_95d88_40 = true := by decide +kernel
theorem dJ13_bitCount_95d88_50 : decode cJ13_bitCount_95d88 50 = .ok (.bipush 32, 2) := dkAt dk18b01pub_cJ13_bitCount_95d88_40_a 0 rfl
theorem dJ13_bitCount_95d88_52 : decode cJ13_bitCount_95d88 52 = .ok (.lushr, 1) := dkAt dk18b01pub_cJ13_bitCount_95d88_40_a 1 rfl
theorem dJ13_bitCount_95d88_53 : decode cJ13_bitCount_95d88 53 = .ok (.ladd, 1) := dkAt dk18b01pub_cJ13_bitCount_95d88_40_a 2 rfl
theorem dJ13_bitCount_95d88_54 : decode cJ13_bitCount_95d88 54 = .ok (.lstore_n 0, 1) := dkAt dk18b01pub_cJ13_bitCount_95d88_40_a 3 rfl
theorem dJ13_bitCount_95d88_55 : decode cJ13_bitCount_95d88 55 = .ok (.lload_n 0, 1) := dkAt dk18b01pub_cJ13_bitCount_95d88_40_a 4 rfl
theorem dJ13_bitCount_95d88_56 : decode cJ13_bitCount_95d88 56 = .ok (.l2i, 1) := dkAt dk18b01pub_cJ13_bitCount_95d88_40_a 5 rfl
theorem dJ13_bitCount_95d88_57 : decode cJ13_bitCount_95d88 57 = .ok (.bipush 127, 2) := dkAt dk18b01pub_cJ13_bitCount_95d88_40_a 6 rfl
theorem dJ13_bitCount_95d88_59 : decode cJ13_bitCount_95d88 59 = .ok (.iand, 1) := dkAt dk18b01pub_cJ13_bitCount_95d88_40_a 7 rfl
theorem dJ13_bitCount_95d88_60 : decode cJ13_bitCount_95d88 60 = .ok (.ireturn, 1) := dkAt dk18b01pub_cJ13_bitCount_95d88_40_a 8 rfl
theorem kc_bits_0 : (.constantLong RJ13 314 (6148914691236517205) : Cond) ∈ wsJ13_bitCount_95d88 := kc_of 531 rfl rfl rfl
theorem kc_bits_1 : (.constantLong RJ13 316 (3689348814741910323) : Cond) ∈ wsJ13_bitCount_95d88 := kc_of 532 rfl rfl rfl
theorem kc_bits_2 : (.constantLong RJ13 318 (1085102592571150095) : Cond) ∈ wsJ13_bitCount_95d88 := kc_of 533 rfl rfl rfl
set_option maxHeartbeats 4000000 in
set_option maxRecDepth 100000 in
theorem c_bits (l : Launch) (dC : Nat → ClassId) (dI : Nat → Nat → Nat) (eg : Nat) (heg : eg < 2 ^ 36) : Met l yJ13_bitCount_95d88 wsJ13_bitCount_95d88 ({ frames := 0, cells := 0, slots := 0, locals := 0 } : Room) (va_Pc [.long (lN eg)] (fun U => True)) (vp_Si (fun r => r = nI (bsum 36 eg))) 0 0 (fun _ => False) := by
  refine met_ofQ (cc := cJ13_bitCount_95d88) (maxL := 2) (ret := (some .int)) (by decide) rfl ?_
  intro p e s m args below meth c s₁ Q B hml hv hQ
  obtain ⟨rfl, -⟩ := hv
  have hx := B.exec
  have hb := B.bytes
  have hr := B.returns
  have hts := atoms_spec (ws := wsJ13_bitCount_95d88) B.pre
  have hown : s.vm.findClass RJ13 = some m.cls := findClass_of_methodNamed B.named
  have hlocks := B.notSynchronized
  obtain ⟨A, hAe⟩ : ∃ A : Nat → Prop, A = fun _ => False := ⟨_, rfl⟩
  rw [← hAe] at hQ
  have hS : va_S A s.heap s.heap [] := va_S.rf
  have hl := lv_entry [.long (lN eg)] (n := 2) (Nat.le_of_ble_eq_true rfl)
  rw [lg_entry_eq]
  generalize (lg_sl [.long (lN eg)] ++ List.replicate (2 - (lg_sl [.long (lN eg)]).length) Slot.unset).toArray = ls at hl ⊢
  generalize hag : ([.long (lN eg)] : List Value).toArray = args at hts hQ ⊢
  have hl : lv_has ls 2 [(0, .long (lN eg))] := hl
  refine lv_lload_n hx hb dJ13_bitCount_95d88_0 rfl (lv_at hl 0 rfl) ?_
  refine lv_lload_n hx hb dJ13_bitCount_95d88_1 rfl (lv_at hl 0 rfl) ?_
  refine lv_iconst (v := 1) hx hb dJ13_bitCount_95d88_2 (by decide) ?_
  refine lv_lushr (v := lN ((eg) / 2)) hx hb dJ13_bitCount_95d88_3 (wb_shr (n := eg) (k := 1) (by have h1 := sw1_le eg; have h2 := sw2_le (sw1 eg); have h3 := sw3_le (sw2 (sw1 eg)); omega) (by decide)) ?_
  refine lv_ldc2 (v := 6148914691236517205) hx hb hown (hts (.constantLong RJ13 314 (6148914691236517205)) kc_bits_0) dJ13_bitCount_95d88_4 ?_
  refine lv_land hx hb dJ13_bitCount_95d88_7 ?_
  refine ql_as (y := lN ((eg / 2) &&& 6148914691236517205)) (wb_and (by omega) (by decide)) ?_
  refine lv_lsub hx hb dJ13_bitCount_95d88_8 ?_
  refine ql_as (y := lN (sw1 eg)) (lN_sub (Nat.le_trans Nat.and_le_left (by omega))) ?_
  refine lv_lstore_n (lv' := [(0, .long (lN (sw1 eg)))]) hx hb dJ13_bitCount_95d88_9 rfl hl (by decide) rfl (fun ls hl => ?_)
  refine lv_lload_n hx hb dJ13_bitCount_95d88_10 rfl (lv_at hl 0 rfl) ?_
  refine lv_ldc2 (v := 3689348814741910323) hx hb hown (hts (.constantLong RJ13 316 (3689348814741910323)) kc_bits_1) dJ13_bitCount_95d88_11 ?_
  refine lv_land hx hb dJ13_bitCount_95d88_14 ?_
  refine ql_as (y := lN (sw1 eg &&& 3689348814741910323)) (wb_and (by have h1 := sw1_le eg; have h2 := sw2_le (sw1 eg); have h3 := sw3_le (sw2 (sw1 eg)); omega) (by decide)) ?_
  refine lv_lload_n hx hb dJ13_bitCount_95d88_15 rfl (lv_at hl 0 rfl) ?_
  refine lv_iconst (v := 2) hx hb dJ13_bitCount_95d88_16 (by decide) ?_
  refine lv_lushr (v := lN ((sw1 eg) / 4)) hx hb dJ13_bitCount_95d88_17 (wb_shr (n := sw1 eg) (k := 2) (by have h1 := sw1_le eg; have h2 := sw2_le (sw1 eg); have h3 := sw3_le (sw2 (sw1 eg)); omega) (by decide)) ?_
  refine lv_ldc2 (v := 3689348814741910323) hx hb hown (hts (.constantLong RJ13 316 (3689348814741910323)) kc_bits_1) dJ13_bitCount_95d88_18 ?_
  refine lv_land hx hb dJ13_bitCount_95d88_21 ?_
  refine ql_as (y := lN ((sw1 eg) / 4 &&& 3689348814741910323)) (wb_and (by have h1 := sw1_le eg; have h2 := sw2_le (sw1 eg); have h3 := sw3_le (sw2 (sw1 eg)); omega) (by decide)) ?_
  refine lv_ladd hx hb dJ13_bitCount_95d88_22 ?_
  refine ql_as (y := lN (sw2 (sw1 eg))) (lN_add _ _) ?_
  refine lv_lstore_n (lv' := [(0, .long (lN (sw2 (sw1 eg))))]) hx hb dJ13_bitCount_95d88_23 rfl hl (by decide) rfl (fun ls hl => ?_)
  refine lv_lload_n hx hb dJ13_bitCount_95d88_24 rfl (lv_at hl 0 rfl) ?_
  refine lv_lload_n hx hb dJ13_bitCount_95d88_25 rfl (lv_at hl 0 rfl) ?_
  refine lv_iconst (v := 4) hx hb dJ13_bitCount_95d88_26 (by decide) ?_
  refine lv_lushr (v := lN ((sw2 (sw1 eg)) / 16)) hx hb dJ13_bitCount_95d88_27 (wb_shr (n := sw2 (sw1 eg)) (k := 4) (by have h1 := sw1_le eg; have h2 := sw2_le (sw1 eg); have h3 := sw3_le (sw2 (sw1 eg)); omega) (by decide)) ?_
  refine lv_ladd hx hb dJ13_bitCount_95d88_28 ?_
  refine ql_as (y := lN (sw2 (sw1 eg) + (sw2 (sw1 eg)) / 16)) (lN_add _ _) ?_
  refine lv_ldc2 (v := 1085102592571150095) hx hb hown (hts (.constantLong RJ13 318 (1085102592571150095)) kc_bits_2) dJ13_bitCount_95d88_29 ?_
  refine lv_land hx hb dJ13_bitCount_95d88_32 ?_
  refine ql_as (y := lN (sw3 (sw2 (sw1 eg)))) (wb_and (by have h1 := sw1_le eg; have h2 := sw2_le (sw1 eg); have h3 := sw3_le (sw2 (sw1 eg)); omega) (by decide)) ?_
  refine lv_lstore_n (lv' := [(0, .long (lN (sw3 (sw2 (sw1 eg)))))]) hx hb dJ13_bitCount_95d88_33 rfl hl (by decide) rfl (fun ls hl => ?_)
  refine lv_lload_n hx hb dJ13_bitCount_95d88_34 rfl (lv_at hl 0 rfl) ?_
  refine lv_lload_n hx hb dJ13_bitCount_95d88_35 rfl (lv_at hl 0 rfl) ?_
  refine lv_bipush (v := 8) hx hb dJ13_bitCount_95d88_36 (by decide) ?_
  refine lv_lushr (v := lN ((sw3 (sw2 (sw1 eg))) / 256)) hx hb dJ13_bitCount_95d88_38 (wb_shr (n := sw3 (sw2 (sw1 eg))) (k := 8) (by have h1 := sw1_le eg; have h2 := sw2_le (sw1 eg); have h3 := sw3_le (sw2 (sw1 eg)); omega) (by decide)) ?_
  refine lv_ladd hx hb dJ13_bitCount_95d88_39 ?_
  refine ql_as (y := lN (sw3 (sw2 (sw1 eg)) + sw3 (sw2 (sw1 eg)) / 256)) (lN_add _ _) ?_
  refine lv_lstore_n (lv' := [(0, .long (lN (sw3 (sw2 (sw1 eg)) + sw3 (sw2 (sw1 eg)) / 256)))]) hx hb dJ13_bitCount_95d88_40 rfl hl (by decide) rfl (fun ls hl => ?_)
  refine lv_lload_n hx hb dJ13_bitCount_95d88_41 rfl (lv_at hl 0 rfl) ?_
  refine lv_lload_n hx hb dJ13_bitCount_95d88_42 rfl (lv_at hl 0 rfl) ?_
  refine lv_bipush (v := 16) hx hb dJ13_bitCount_95d88_43 (by decide) ?_
  refine lv_lushr (v := lN ((sw3 (sw2 (sw1 eg)) + sw3 (sw2 (sw1 eg)) / 256) / 65536)) hx hb dJ13_bitCount_95d88_45 (wb_shr (n := sw3 (sw2 (sw1 eg)) + sw3 (sw2 (sw1 eg)) / 256) (k := 16) (by have h1 := sw1_le eg; have h2 := sw2_le (sw1 eg); have h3 := sw3_le (sw2 (sw1 eg)); omega) (by decide)) ?_
  refine lv_ladd hx hb dJ13_bitCount_95d88_46 ?_
  refine ql_as (y := lN ((sw3 (sw2 (sw1 eg)) + sw3 (sw2 (sw1 eg)) / 256) + (sw3 (sw2 (sw1 eg)) + sw3 (sw2 (sw1 eg)) / 256) / 65536)) (lN_add _ _) ?_
  refine lv_lstore_n (lv' := [(0, .long (lN ((sw3 (sw2 (sw1 eg)) + sw3 (sw2 (sw1 eg)) / 256) + (sw3 (sw2 (sw1 eg)) + sw3 (sw2 (sw1 eg)) / 256) / 65536)))]) hx hb dJ13_bitCount_95d88_47 rfl hl (by decide) rfl (fun ls hl => ?_)
  refine lv_lload_n hx hb dJ13_bitCount_95d88_48 rfl (lv_at hl 0 rfl) ?_
  refine lv_lload_n hx hb dJ13_bitCount_95d88_49 rfl (lv_at hl 0 rfl) ?_
  refine lv_bipush (v := 32) hx hb dJ13_bitCount_95d88_50 (by decide) ?_
  refine lv_lushr (v := lN (((sw3 (sw2 (sw1 eg)) + sw3 (sw2 (sw1 eg)) / 256) + (sw3 (sw2 (sw1 eg)) + sw3 (sw2 (sw1 eg)) / 256) / 65536) / 4294967296)) hx hb dJ13_bitCount_95d88_52 (wb_shr (n := (sw3 (sw2 (sw1 eg)) + sw3 (sw2 (sw1 eg)) / 256) + (sw3 (sw2 (sw1 eg)) + sw3 (sw2 (sw1 eg)) / 256) / 65536) (k := 32) (by have h1 := sw1_le eg; have h2 := sw2_le (sw1 eg); have h3 := sw3_le (sw2 (sw1 eg)); omega) (by decide)) ?_
  refine lv_ladd hx hb dJ13_bitCount_95d88_53 ?_
  refine ql_as (y := lN (((sw3 (sw2 (sw1 eg)) + sw3 (sw2 (sw1 eg)) / 256) + (sw3 (sw2 (sw1 eg)) + sw3 (sw2 (sw1 eg)) / 256) / 65536) + ((sw3 (sw2 (sw1 eg)) + sw3 (sw2 (sw1 eg)) / 256) + (sw3 (sw2 (sw1 eg)) + sw3 (sw2 (sw1 eg)) / 256) / 65536) / 4294967296)) (lN_add _ _) ?_
  refine lv_lstore_n (lv' := [(0, .long (lN (((sw3 (sw2 (sw1 eg)) + sw3 (sw2 (sw1 eg)) / 256) + (sw3 (sw2 (sw1 eg)) + sw3 (sw2 (sw1 eg)) / 256) / 65536) + ((sw3 (sw2 (sw1 eg)) + sw3 (sw2 (sw1 eg)) / 256) + (sw3 (sw2 (sw1 eg)) + sw3 (sw2 (sw1 eg)) / 256) / 65536) / 4294967296)))]) hx hb dJ13_bitCount_95d88_54 rfl hl (by decide) rfl (fun ls hl => ?_)
  refine lv_lload_n hx hb dJ13_bitCount_95d88_55 rfl (lv_at hl 0 rfl) ?_
  refine lv_l2i (v := nI (((sw3 (sw2 (sw1 eg)) + sw3 (sw2 (sw1 eg)) / 256) + (sw3 (sw2 (sw1 eg)) + sw3 (sw2 (sw1 eg)) / 256) / 65536) + ((sw3 (sw2 (sw1 eg)) + sw3 (sw2 (sw1 eg)) / 256) + (sw3 (sw2 (sw1 eg)) + sw3 (sw2 (sw1 eg)) / 256) / 65536) / 4294967296)) hx hb dJ13_bitCount_95d88_56 (lN_i _) ?_
  refine lv_bipush (v := 127) hx hb dJ13_bitCount_95d88_57 (by decide) ?_
  refine lv_iand hx hb dJ13_bitCount_95d88_59 ?_
  refine qi_as (y := nI ((((sw3 (sw2 (sw1 eg)) + sw3 (sw2 (sw1 eg)) / 256) + (sw3 (sw2 (sw1 eg)) + sw3 (sw2 (sw1 eg)) / 256) / 65536) + ((sw3 (sw2 (sw1 eg)) + sw3 (sw2 (sw1 eg)) / 256) + (sw3 (sw2 (sw1 eg)) + sw3 (sw2 (sw1 eg)) / 256) / 65536) / 4294967296) % 128)) (and127 _) ?_
  rw [hQ]
  exact W.iret (v := nI ((((sw3 (sw2 (sw1 eg)) + sw3 (sw2 (sw1 eg)) / 256) + (sw3 (sw2 (sw1 eg)) + sw3 (sw2 (sw1 eg)) / 256) / 65536) + ((sw3 (sw2 (sw1 eg)) + sw3 (sw2 (sw1 eg)) / 256) + (sw3 (sw2 (sw1 eg)) + sw3 (sw2 (sw1 eg)) / 256) / 65536) / 4294967296) % 128)) hx hb hr (fun tQ htQ hWQ => ⟨nI ((((sw3 (sw2 (sw1 eg)) + sw3 (sw2 (sw1 eg)) / 256) + (sw3 (sw2 (sw1 eg)) + sw3 (sw2 (sw1 eg)) / 256) / 65536) + ((sw3 (sw2 (sw1 eg)) + sw3 (sw2 (sw1 eg)) / 256) + (sw3 (sw2 (sw1 eg)) + sw3 (sw2 (sw1 eg)) / 256) / 65536) / 4294967296) % 128), rfl, congrArg nI (sw_all heg), by rw [htQ]⟩) (fun q hq => absurd hq List.not_mem_nil) dJ13_bitCount_95d88_60
