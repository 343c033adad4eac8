def dk22bcase_cL_law_0 : List (Nat × Instr × Nat) := [(290, .aload_n 1, 1), (291, .aload_n 0, 1), (292, .iload_n 3, 1), (293, .iconst 1, 1), (294, .iadd, 1), (295, .iaload, 1), (296, .invokevirtual 35, 3), (299, .pop, 1), (300, .aload_n 2, 1), (301, .aload_n 0, 1), (302, .iload_n 3, 1), (303, .iconst 1, 1), (304, .iadd, 1), (305, .iaload, 1), (306, .invokevirtual 38, 3), (309, .pop, 1), (310, .goto 798, 3), (313, .aload_n 1, 1), (314, .aload_n 0, 1), (315, .iload_n 3, 1), (316, .iconst 1, 1), (317, .iadd, 1), (318, .iaload, 1), (319, .aload_n 0, 1), (320, .iload_n 3, 1), (321, .iconst 2, 1), (322, .iadd, 1), (323, .iaload, 1), (324, .aload_n 0, 1), (325, .iload_n 3, 1), (326, .iconst 3, 1), (327, .iadd, 1), (328, .iaload, 1), (329, .invokevirtual 39, 3), (332, .pop, 1), (333, .aload_n 2, 1), (334, .aload_n 0, 1), (335, .iload_n 3, 1), (336, .iconst 1, 1), (337, .iadd, 1)]
set_option maxRecDepth 100000 in
theorem dk22bcase_cL_law_0_a : dkA cL_law dk22bcase_cL_law_0 = true := by decide +kernel
theorem dL_law_290 : decode cL_law 290 = .ok (.aload_n 1, 1) := dkAt dk22bcase_cL_law_0_a 0 rfl
theorem dL_law_291 : decode cL_law 291 = .ok (.aload_n 0, 1) := dkAt dk22bcase_cL_law_0_a 1 rfl
theorem dL_law_292 : decode cL_law 292 = .ok (.iload_n 3, 1) := dkAt dk22bcase_cL_law_0_a 2 rfl
theorem dL_law_293 : decode cL_law 293 = .ok (.iconst 1, 1) := dkAt dk22bcase_cL_law_0_a 3 rfl
theorem dL_law_294 : decode cL_law 294 = .ok (.iadd, 1) := dkAt dk22bcase_cL_law_0_a 4 rfl
theorem dL_law_295 : decode cL_law 295 = .ok (.iaload, 1) := dkAt dk22bcase_cL_law_0_a 5 rfl
theorem dL_law_296 : decode cL_law 296 = .ok (.invokevirtual 35, 3) := dkAt dk22bcase_cL_law_0_a 6 rfl
theorem dL_law_299 : decode cL_law 299 = .ok (.pop, 1) := dkAt dk22bcase_cL_law_0_a 7 rfl
theorem dL_law_300 : decode cL_law 300 = .ok (.aload_n 2, 1) := dkAt dk22bcase_cL_law_0_a 8 rfl
theorem dL_law_301 : decode cL_law 301 = .ok (.aload_n 0, 1) := dkAt dk22bcase_cL_law_0_a 9 rfl
theorem dL_law_302 : decode cL_law 302 = .ok (.iload_n 3, 1) := dkAt dk22bcase_cL_law_0_a 10 rfl
theorem dL_law_303 : decode cL_law 303 = .ok (.iconst 1, 1) := dkAt dk22bcase_cL_law_0_a 11 rfl
theorem dL_law_304 : decode cL_law 304 = .ok (.iadd, 1) := dkAt dk22bcase_cL_law_0_a 12 rfl
theorem dL_law_305 : decode cL_law 305 = .ok (.iaload, 1) := dkAt dk22bcase_cL_law_0_a 13 rfl
theorem dL_law_306 : decode cL_law 306 = .ok (.invokevirtual 38, 3) := dkAt dk22bcase_cL_law_0_a 14 rfl
theorem dL_law_309 : decode cL_law 309 = .ok (.pop, 1) := dkAt dk22bcase_cL_law_0_a 15 rfl
theorem dL_law_310 : decode cL_law 310 = .ok (.goto 798, 3) := dkAt dk22bcase_cL_law_0_a 16 rfl
theorem dL_law_313 : decode cL_law 313 = .ok (.aload_n 1, 1) := dkAt dk22bcase_cL_law_0_a 17 rfl
theorem dL_law_314 : decode cL_law 314 = .ok (.aload_n 0, 1) := dkAt dk22bcase_cL_law_0_a 18 rfl
theorem dL_law_315 : decode cL_law 315 = .ok (.iload_n 3, 1) := dkAt dk22bcase_cL_law_0_a 19 rfl
theorem dL_law_316 : decode cL_law 316 = .ok (.iconst 1, 1) := dkAt dk22bcase_cL_law_0_a 20 rfl
theorem dL_law_317 : decode cL_law 317 = .ok (.iadd, 1) := dkAt dk22bcase_cL_law_0_a 21 rfl
theorem dL_law_318 : decode cL_law 318 = .ok (.iaload, 1) := dkAt dk22bcase_cL_law_0_a 22 rfl
theorem dL_law_319 : decode cL_law 319 = .ok (.aload_n 0, 1) := dkAt dk22bcase_cL_law_0_a 23 rfl
theorem dL_law_320 : decode cL_law 320 = .ok (.iload_n 3, 1) := dkAt dk22bcase_cL_law_0_a 24 rfl
theorem dL_law_321 : decode cL_law 321 = .ok (.iconst 2, 1) := dkAt dk22bcase_cL_law_0_a 25 rfl
theorem dL_law_322 : decode cL_law 322 = .ok (.iadd, 1) := dkAt dk22bcase_cL_law_0_a 26 rfl
theorem dL_law_323 : decode cL_law 323 = .ok (.iaload, 1) := dkAt dk22bcase_cL_law_0_a 27 rfl
theorem dL_law_324 : decode cL_law 324 = .ok (.aload_n 0, 1) := dkAt dk22bcase_cL_law_0_a 28 rfl
theorem dL_law_325 : decode cL_law 325 = .ok (.iload_n 3, 1) := dkAt dk22bcase_cL_law_0_a 29 rfl
theorem dL_law_326 : decode cL_law 326 = .ok (.iconst 3, 1) := dkAt dk22bcase_cL_law_0_a 30 rfl
theorem dL_law_327 : decode cL_law 327 = .ok (.iadd, 1) := dkAt dk22bcase_cL_law_0_a 31 rfl
theorem dL_law_328 : decode cL_law 328 = .ok (.iaload, 1) := dkAt dk22bcase_cL_law_0_a 32 rfl
theorem dL_law_329 : decode cL_law 329 = .ok (.invokevirtual 39, 3) := dkAt dk22bcase_cL_law_0_a 33 rfl
theorem dL_law_332 : decode cL_law 332 = .ok (.pop, 1) := dkAt dk22bcase_cL_law_0_a 34 rfl
theorem dL_law_333 : decode cL_law 333 = .ok (.aload_n 2, 1) := dkAt dk22bcase_cL_law_0_a 35 rfl
theorem dL_law_334 : decode cL_law 334 = .ok (.aload_n 0, 1) := dkAt dk22bcase_cL_law_0_a 36 rfl
theorem dL_law_335 : decode cL_law 335 = .ok (.iload_n 3, 1) := dkAt dk22bcase_cL_law_0_a 37 rfl
theorem dL_law_336 : decode cL_law 336 = .ok (.iconst 1, 1) := dkAt dk22bcase_cL_law_0_a 38 rfl
theorem dL_law_337 : decode cL_law 337 = .ok (.iadd, 1) := dkAt dk22bcase_cL_law_0_a 39 rfl
def dk22bcase_cL_law_40 : List (Nat × Instr × Nat) := [(338, .iaload, 1), (339, .aload_n 0, 1), (340, .iload_n 3, 1), (341, .iconst 2, 1), (342, .iadd, 1), (343, .iaload, 1), (344, .aload_n 0, 1), (345, .iload_n 3, 1), (346, .iconst 3, 1), (347, .iadd, 1), (348, .iaload, 1), (349, .invokevirtual 43, 3), (352, .pop, 1), (353, .goto 755, 3), (356, .aload_n 1, 1), (357, .aload_n 0, 1), (358, .iload_n 3, 1), (359, .iconst 1, 1), (360, .iadd, 1), (361, .iaload, 1), (362, .aload_n 0, 1), (363, .iload_n 3, 1), (364, .iconst 2, 1), (365, .iadd, 1), (366, .iaload, 1), (367, .invokevirtual 44, 3), (370, .pop, 1), (371, .aload_n 2, 1), (372, .aload_n 0, 1), (373, .iload_n 3, 1), (374, .iconst 1, 1), (375, .iadd, 1), (376, .iaload, 1), (377, .aload_n 0, 1), (378, .iload_n 3, 1), (379, .iconst 2, 1), (380, .iadd, 1), (381, .iaload, 1), (382, .invokevirtual 47, 3), (385, .pop, 1)]
set_option maxRecDepth 100000 in
theorem dk22bcase_cL_law_40_a : dkA cL_law dk22bcase_cL_law_40 = true := by decide +kernel
theorem dL_law_338 : decode cL_law 338 = .ok (.iaload, 1) := dkAt dk22bcase_cL_law_40_a 0 rfl
theorem dL_law_339 : decode cL_law 339 = .ok (.aload_n 0, 1) := dkAt dk22bcase_cL_law_40_a 1 rfl
theorem dL_law_340 : decode cL_law 340 = .ok (.iload_n 3, 1) := dkAt dk22bcase_cL_law_40_a 2 rfl
theorem dL_law_341 : decode cL_law 341 = .ok (.iconst 2, 1) := dkAt dk22bcase_cL_law_40_a 3 rfl
theorem dL_law_342 : decode cL_law 342 = .ok (.iadd, 1) := dkAt dk22bcase_cL_law_40_a 4 rfl
theorem dL_law_343 : decode cL_law 343 = .ok (.iaload, 1) := dkAt dk22bcase_cL_law_40_a 5 rfl
theorem dL_law_344 : decode cL_law 344 = .ok (.aload_n 0, 1) := dkAt dk22bcase_cL_law_40_a 6 rfl
theorem dL_law_345 : decode cL_law 345 = .ok (.iload_n 3, 1) := dkAt dk22bcase_cL_law_40_a 7 rfl
theorem dL_law_346 : decode cL_law 346 = .ok (.iconst 3, 1) := dkAt dk22bcase_cL_law_40_a 8 rfl
theorem dL_law_347 : decode cL_law 347 = .ok (.iadd, 1) := dkAt dk22bcase_cL_law_40_a 9 rfl
theorem dL_law_348 : decode cL_law 348 = .ok (.iaload, 1) := dkAt dk22bcase_cL_law_40_a 10 rfl
theorem dL_law_349 : decode cL_law 349 = .ok (.invokevirtual 43, 3) := dkAt dk22bcase_cL_law_40_a 11 rfl
theorem dL_law_352 : decode cL_law 352 = .ok (.pop, 1) := dkAt dk22bcase_cL_law_40_a 12 rfl
theorem dL_law_353 : decode cL_law 353 = .ok (.goto 755, 3) := dkAt dk22bcase_cL_law_40_a 13 rfl
theorem dL_law_356 : decode cL_law 356 = .ok (.aload_n 1, 1) := dkAt dk22bcase_cL_law_40_a 14 rfl
theorem dL_law_357 : decode cL_law 357 = .ok (.aload_n 0, 1) := dkAt dk22bcase_cL_law_40_a 15 rfl
theorem dL_law_358 : decode cL_law 358 = .ok (.iload_n 3, 1) := dkAt dk22bcase_cL_law_40_a 16 rfl
theorem dL_law_359 : decode cL_law 359 = .ok (.iconst 1, 1) := dkAt dk22bcase_cL_law_40_a 17 rfl
theorem dL_law_360 : decode cL_law 360 = .ok (.iadd, 1) := dkAt dk22bcase_cL_law_40_a 18 rfl
theorem dL_law_361 : decode cL_law 361 = .ok (.iaload, 1) := dkAt dk22bcase_cL_law_40_a 19 rfl
theorem dL_law_362 : decode cL_law 362 = .ok (.aload_n 0, 1) := dkAt dk22bcase_cL_law_40_a 20 rfl
theorem dL_law_363 : decode cL_law 363 = .ok (.iload_n 3, 1) := dkAt dk22bcase_cL_law_40_a 21 rfl
theorem dL_law_364 : decode cL_law 364 = .ok (.iconst 2, 1) := dkAt dk22bcase_cL_law_40_a 22 rfl
theorem dL_law_365 : decode cL_law 365 = .ok (.iadd, 1) := dkAt dk22bcase_cL_law_40_a 23 rfl
theorem dL_law_366 : decode cL_law 366 = .ok (.iaload, 1) := dkAt dk22bcase_cL_law_40_a 24 rfl
theorem dL_law_367 : decode cL_law 367 = .ok (.invokevirtual 44, 3) := dkAt dk22bcase_cL_law_40_a 25 rfl
theorem dL_law_370 : decode cL_law 370 = .ok (.pop, 1) := dkAt dk22bcase_cL_law_40_a 26 rfl
theorem dL_law_371 : decode cL_law 371 = .ok (.aload_n 2, 1) := dkAt dk22bcase_cL_law_40_a 27 rfl
theorem dL_law_372 : decode cL_law 372 = .ok (.aload_n 0, 1) := dkAt dk22bcase_cL_law_40_a 28 rfl
theorem dL_law_373 : decode cL_law 373 = .ok (.iload_n 3, 1) := dkAt dk22bcase_cL_law_40_a 29 rfl
theorem dL_law_374 : decode cL_law 374 = .ok (.iconst 1, 1) := dkAt dk22bcase_cL_law_40_a 30 rfl
theorem dL_law_375 : decode cL_law 375 = .ok (.iadd, 1) := dkAt dk22bcase_cL_law_40_a 31 rfl
theorem dL_law_376 : decode cL_law 376 = .ok (.iaload, 1) := dkAt dk22bcase_cL_law_40_a 32 rfl
theorem dL_law_377 : decode cL_law 377 = .ok (.aload_n 0, 1) := dkAt dk22bcase_cL_law_40_a 33 rfl
theorem dL_law_378 : decode cL_law 378 = .ok (.iload_n 3, 1) := dkAt dk22bcase_cL_law_40_a 34 rfl
theorem dL_law_379 : decode cL_law 379 = .ok (.iconst 2, 1) := dkAt dk22bcase_cL_law_40_a 35 rfl
theorem dL_law_380 : decode cL_law 380 = .ok (.iadd, 1) := dkAt dk22bcase_cL_law_40_a 36 rfl
theorem dL_law_381 : decode cL_law 381 = .ok (.iaload, 1) := dkAt dk22bcase_cL_law_40_a 37 rfl
theorem dL_law_382 : decode cL_law 382 = .ok (.invokevirtual 47, 3) := dkAt dk22bcase_cL_law_40_a 38 rfl
theorem dL_law_385 : decode cL_law 385 = .ok (.pop, 1) := dkAt dk22bcase_cL_law_40_a 39 rfl
def dk22bcase_cL_law_80 : List (Nat × Instr × Nat) := [(386, .goto 722, 3)]
set_option maxRecDepth 100000 in
theorem dk22bcase_cL_law_80_a : dkA cL_law dk22bcase_cL_law_80 = true := by decide +kernel
theorem dL_law_386 : decode cL_law 386 = .ok (.goto 722, 3) := dkAt dk22bcase_cL_law_80_a 0 rfl
set_option maxHeartbeats 4000000 in
set_option maxRecDepth 100000 in
theorem lc_4 {p : Program} {l : Launch} {e : Env} {s : State} {m : MethodId} {below : List Frame} {meth : Method} {c : Code} {b L : Nat} {xs : Nat → Int32} {A : Nat → Prop} (hAe : A = fun q => s.heap.size ≤ q) (C0 : lw_At p s m meth c b L xs) (dC : Nat → ClassId) (dI : Nat → Nat → Nat) (gd : Nat → Nat) (kA : Nat) (ad : Nat → Nat) (cB bS : Nat) (sK sV : Nat → Nat) (Y : Nat → Prop) (h0 m0 : Nat) (ik : Int32) (vs kvs : VS) (tl : List Nat) (im : Int32) (vm kvm : VS) (tm : List Nat) (X : va_W) (T : List (ClassId × FieldType)) (M : va_W) (T2 : List (ClassId × FieldType)) (hGA : GA gd kA ad cB bS sK sV A s) (i : Nat) (hi : i + 5 ≤ L) (hL : L ≤ 320) (H : Heap) (locs : List Loc) (hLS : Lst dC dI ad bS Y s A h0 m0 ik vs kvs tl im vm kvm tm X T M T2 H) (cells slots : Nat) (hc0 : cells ≤ 590000) (hs0 : slots ≤ 7000000) (hS : va_S A s.heap H locs) (ls : Array Slot) (hl : lv_has ls 4 [(0, .ref b), (1, .ref h0), (2, .ref m0), (3, .int (nI i))]) (hcp : ik = im ∧ vs = vm ∧ (im = 0 ∨ kvs = kvm) ∧ tl = tm) (kk : ∀ (ik : Int32) (vs kvs : VS) (tl : List Nat) (im : Int32) (vm kvm : VS) (tm : List Nat) (X : va_W) (T : List (ClassId × FieldType)) (M : va_W) (H : Heap) (locs : List Loc), Lst dC dI ad bS Y s A h0 m0 ik vs kvs tl im vm kvm tm X T M T2 H → (ik = im ∧ vs = vm ∧ (im = 0 ∨ kvs = kvm) ∧ tl = tm) → va_S A s.heap H locs → W p l e room_1 s m #[Value.ref b] below meth c H locs (cells + 8) (slots + 200) (lw_Z below #[Value.ref b] s) (F0 m 1108 ls [])) : W p l e room_1 s m #[Value.ref b] below meth c H locs cells slots (lw_Z below #[Value.ref b] s) (F0 m 290 ls []) := by
  obtain ⟨hx, hb, hr, hml, hown, hts0, hX, hbl, hlocks, hgv⟩ := id C0
  have hown : s.vm.findClass RL = some m.cls := hown
  have hb : c.code = cL_law := hb
  have hts : ∀ w ∈ lw_tbl, w.before #[Value.ref b] s = true := fun w h => hts0 w (wsL_law_in w h)
  have hA : ∀ q : Nat, s.heap.size ≤ q → A q := fun q h => by rw [hAe]; exact h
  have hbA : ¬ A b := by rw [hAe]; exact Nat.not_le.mpr hbl
  refine lv_aload_n hx hb dL_law_290 rfl (lv_at hl 1 rfl) ?_
  refine lv_aload_n hx hb dL_law_291 rfl (lv_at hl 0 rfl) ?_
  refine lv_iload_n hx hb dL_law_292 rfl (lv_at hl 3 rfl) ?_
  refine lv_iconst (v := 1) hx hb dL_law_293 (by decide) ?_
  refine lv_iadd hx hb dL_law_294 ?_
  refine qi_as (y := nI (i + 1)) (nI_add i 1) ?_
  refine va_sld hx hb hX hbl hbA hS (vp_in_nI (n := i + 1) (N := L) (by omega) (by omega)) dL_law_295 ?_
  refine qi_as (y := xs (i + 1)) (by rw [nI_clamp (by omega)]) ?_
  refine lx_i (va_runV (As := [.int (xs (i + 1))]) (rest := []) ⟨hx, hb, hml, hown, hts⟩ (w_told l dC dI gd kA ad cB bS sK sV Y ik vs kvs tl T h0 X (xs (i + 1)) H.size) (cwV 1 hts gL_law_X11_told rfl rfl rfl hd_yX11_told ⟨Nat.le_of_ble_eq_true rfl, Nat.le_of_ble_eq_true rfl⟩) ⟨fun a U g mk q => by obtain ⟨q0, q1, qX, qK, qY1, qY2, qG⟩ := q; exact ⟨q0, q1, qX, va_K.moved (u := U) (U := U.calling g mk a) (Vm.Alike.refl U.vm) qK, qY1, qY2, qG.same rfl rfl⟩, hLS.1.recv hLS.2.2.1, fun U hU hW => ⟨rfl, by rw [hU], by rw [hU]; exact hLS.1, va_K.moved hW.alike hLS.2.2.1, hLS.2.2.2.2.2.2.1, fun q hq hy => absurd (hLS.2.2.2.2.2.2.2.2 q hy) (Nat.not_lt.mpr hq), hGA.call hS hU hW (bl_in hLS.2.2.2.2.1 hS hA)⟩⟩ rfl rfl hl.1 rfl (lv_room (Nat.le_of_ble_eq_true rfl)) dL_law_296 ⟨by show _ ≤ 600000; omega, by show _ ≤ 7302250; omega⟩) hLS hS hA (fun r1_ u_ H locs X T hp1 hLS hS => ?_)
  obtain ⟨e1_, rfl⟩ := hp1
  have hLS : Lst dC dI ad bS Y s A h0 m0 ik vs kvs tl im vm kvm tm X T M T2 H := hLS
  refine lv_pop hx hb dL_law_299 rfl ?_
  refine lv_aload_n hx hb dL_law_300 rfl (lv_at hl 2 rfl) ?_
  refine lv_aload_n hx hb dL_law_301 rfl (lv_at hl 0 rfl) ?_
  refine lv_iload_n hx hb dL_law_302 rfl (lv_at hl 3 rfl) ?_
  refine lv_iconst (v := 1) hx hb dL_law_303 (by decide) ?_
  refine lv_iadd hx hb dL_law_304 ?_
  refine qi_as (y := nI (i + 1)) (nI_add i 1) ?_
  refine va_sld hx hb hX hbl hbA hS (vp_in_nI (n := i + 1) (N := L) (by omega) (by omega)) dL_law_305 ?_
  refine qi_as (y := xs (i + 1)) (by rw [nI_clamp (by omega)]) ?_
  refine lm_i (va_runV (As := [.int (xs (i + 1))]) (rest := []) ⟨hx, hb, hml, hown, hts⟩ (v_told l dC dI sK sV im vm kvm tm T2 m0 M (xs (i + 1)) H.size) (cwV 1 hts gL_law_X12_told rfl rfl rfl hd_yX12_told ⟨Nat.le_of_ble_eq_true rfl, Nat.le_of_ble_eq_true rfl⟩) ⟨fun a U g mk q => by obtain ⟨q0, q1, qX, qK, qG⟩ := q; exact ⟨q0, q1, qX, va_K.moved (u := U) (U := U.calling g mk a) (Vm.Alike.refl U.vm) qK, qG.same rfl rfl⟩, hLS.2.1.recv hLS.2.2.2.1, fun U hU hW => ⟨rfl, by rw [hU], by rw [hU]; exact hLS.2.1, va_K.moved hW.alike hLS.2.2.2.1, hGA.2.2.2.2.2.2.call hS hU hW (bl_in hLS.2.2.2.2.2.1 hS hA)⟩⟩ rfl rfl hl.1 rfl (lv_room (Nat.le_of_ble_eq_true rfl)) dL_law_306 ⟨by show _ ≤ 600000; omega, by show _ ≤ 7302250; omega⟩) hLS hS hA (fun r2_ u_ H locs M hp2 hLS hS => ?_)
  obtain ⟨e2_, rfl⟩ := hp2
  have hLS : Lst dC dI ad bS Y s A h0 m0 ik vs kvs tl im vm kvm tm X T M T2 H := hLS
  refine lv_pop hx hb dL_law_309 rfl ?_
  refine lv_goto (tgt := 1108) hx hb dL_law_310 (by decide) ?_
  refine W.widen (k := cells + 8) (n := slots + 200) (by omega) (by omega) ?_
  exact kk ik vs kvs tl im vm kvm tm X T M H locs hLS ⟨hcp.1, by rw [hcp.2.1], hcp.2.2⟩ hS

set_option maxHeartbeats 4000000 in
set_option maxRecDepth 100000 in
theorem lc_5 {p : Program} {l : Launch} {e : Env} {s : State} {m : MethodId} {below : List Frame} {meth : Method} {c : Code} {b L : Nat} {xs : Nat → Int32} {A : Nat → Prop} (hAe : A = fun q => s.heap.size ≤ q) (C0 : lw_At p s m meth c b L xs) (dC : Nat → ClassId) (dI : Nat → Nat → Nat) (gd : Nat → Nat) (kA : Nat) (ad : Nat → Nat) (cB bS : Nat) (sK sV : Nat → Nat) (Y : Nat → Prop) (h0 m0 : Nat) (ik : Int32) (vs kvs : VS) (tl : List Nat) (im : Int32) (vm kvm : VS) (tm : List Nat) (X : va_W) (T : List (ClassId × FieldType)) (M : va_W) (T2 : List (ClassId × FieldType)) (hGA : GA gd kA ad cB bS sK sV A s) (i : Nat) (hi : i + 5 ≤ L) (hL : L ≤ 320) (H : Heap) (locs : List Loc) (hLS : Lst dC dI ad bS Y s A h0 m0 ik vs kvs tl im vm kvm tm X T M T2 H) (cells slots : Nat) (hc0 : cells ≤ 590000) (hs0 : slots ≤ 7000000) (hS : va_S A s.heap H locs) (ls : Array Slot) (hl : lv_has ls 4 [(0, .ref b), (1, .ref h0), (2, .ref m0), (3, .int (nI i))]) (hcp : ik = im ∧ vs = vm ∧ (im = 0 ∨ kvs = kvm) ∧ tl = tm) (kk : ∀ (ik : Int32) (vs kvs : VS) (tl : List Nat) (im : Int32) (vm kvm : VS) (tm : List Nat) (X : va_W) (T : List (ClassId × FieldType)) (M : va_W) (H : Heap) (locs : List Loc), Lst dC dI ad bS Y s A h0 m0 ik vs kvs tl im vm kvm tm X T M T2 H → (ik = im ∧ vs = vm ∧ (im = 0 ∨ kvs = kvm) ∧ tl = tm) → va_S A s.heap H locs → W p l e room_1 s m #[Value.ref b] below meth c H locs (cells + 8) (slots + 200) (lw_Z below #[Value.ref b] s) (F0 m 1108 ls [])) : W p l e room_1 s m #[Value.ref b] below meth c H locs cells slots (lw_Z below #[Value.ref b] s) (F0 m 313 ls []) := by
  obtain ⟨hx, hb, hr, hml, hown, hts0, hX, hbl, hlocks, hgv⟩ := id C0
  have hown : s.vm.findClass RL = some m.cls := hown
  have hb : c.code = cL_law := hb
  have hts : ∀ w ∈ lw_tbl, w.before #[Value.ref b] s = true := fun w h => hts0 w (wsL_law_in w h)
  have hA : ∀ q : Nat, s.heap.size ≤ q → A q := fun q h => by rw [hAe]; exact h
  have hbA : ¬ A b := by rw [hAe]; exact Nat.not_le.mpr hbl
  refine lv_aload_n hx hb dL_law_313 rfl (lv_at hl 1 rfl) ?_
  refine lv_aload_n hx hb dL_law_314 rfl (lv_at hl 0 rfl) ?_
  refine lv_iload_n hx hb dL_law_315 rfl (lv_at hl 3 rfl) ?_
  refine lv_iconst (v := 1) hx hb dL_law_316 (by decide) ?_
  refine lv_iadd hx hb dL_law_317 ?_
  refine qi_as (y := nI (i + 1)) (nI_add i 1) ?_
  refine va_sld hx hb hX hbl hbA hS (vp_in_nI (n := i + 1) (N := L) (by omega) (by omega)) dL_law_318 ?_
  refine qi_as (y := xs (i + 1)) (by rw [nI_clamp (by omega)]) ?_
  refine lv_aload_n hx hb dL_law_319 rfl (lv_at hl 0 rfl) ?_
  refine lv_iload_n hx hb dL_law_320 rfl (lv_at hl 3 rfl) ?_
  refine lv_iconst (v := 2) hx hb dL_law_321 (by decide) ?_
  refine lv_iadd hx hb dL_law_322 ?_
  refine qi_as (y := nI (i + 2)) (nI_add i 2) ?_
  refine va_sld hx hb hX hbl hbA hS (vp_in_nI (n := i + 2) (N := L) (by omega) (by omega)) dL_law_323 ?_
  refine qi_as (y := xs (i + 2)) (by rw [nI_clamp (by omega)]) ?_
  refine lv_aload_n hx hb dL_law_324 rfl (lv_at hl 0 rfl) ?_
  refine lv_iload_n hx hb dL_law_325 rfl (lv_at hl 3 rfl) ?_
  refine lv_iconst (v := 3) hx hb dL_law_326 (by decide) ?_
  refine lv_iadd hx hb dL_law_327 ?_
  refine qi_as (y := nI (i + 3)) (nI_add i 3) ?_
  refine va_sld hx hb hX hbl hbA hS (vp_in_nI (n := i + 3) (N := L) (by omega) (by omega)) dL_law_328 ?_
  refine qi_as (y := xs (i + 3)) (by rw [nI_clamp (by omega)]) ?_
  refine lx_i (va_runV (As := [.int (xs (i + 1)), .int (xs (i + 2)), .int (xs (i + 3))]) (rest := []) ⟨hx, hb, hml, hown, hts⟩ (w_heap l dC dI gd kA ad cB bS sK sV Y ik vs kvs tl T h0 X (xs (i + 1)) (xs (i + 2)) (xs (i + 3)) H.size) (cwV 3 hts gL_law_X11_heap rfl rfl rfl hd_yX11_heap ⟨Nat.le_of_ble_eq_true rfl, Nat.le_of_ble_eq_true rfl⟩) ⟨fun a U g mk q => by obtain ⟨q0, q1, qX, qK, qY1, qY2, qG⟩ := q; exact ⟨q0, q1, qX, va_K.moved (u := U) (U := U.calling g mk a) (Vm.Alike.refl U.vm) qK, qY1, qY2, qG.same rfl rfl⟩, hLS.1.recv hLS.2.2.1, fun U hU hW => ⟨rfl, by rw [hU], by rw [hU]; exact hLS.1, va_K.moved hW.alike hLS.2.2.1, hLS.2.2.2.2.2.2.1, fun q hq hy => absurd (hLS.2.2.2.2.2.2.2.2 q hy) (Nat.not_lt.mpr hq), hGA.call hS hU hW (bl_in hLS.2.2.2.2.1 hS hA)⟩⟩ rfl rfl hl.1 rfl (lv_room (Nat.le_of_ble_eq_true rfl)) dL_law_329 ⟨by show _ ≤ 600000; omega, by show _ ≤ 7302250; omega⟩) hLS hS hA (fun r1_ u_ H locs X T hp1 hLS hS => ?_)
  obtain ⟨e1_, rfl⟩ := hp1
  have hLS : Lst dC dI ad bS Y s A h0 m0 ik (hpF vs (xs (i + 1)) (xs (i + 2)) (xs (i + 3))) kvs tl im vm kvm tm X T M T2 H := hLS
  refine lv_pop hx hb dL_law_332 rfl ?_
  refine lv_aload_n hx hb dL_law_333 rfl (lv_at hl 2 rfl) ?_
  refine lv_aload_n hx hb dL_law_334 rfl (lv_at hl 0 rfl) ?_
  refine lv_iload_n hx hb dL_law_335 rfl (lv_at hl 3 rfl) ?_
  refine lv_iconst (v := 1) hx hb dL_law_336 (by decide) ?_
  refine lv_iadd hx hb dL_law_337 ?_
  refine qi_as (y := nI (i + 1)) (nI_add i 1) ?_
  refine va_sld hx hb hX hbl hbA hS (vp_in_nI (n := i + 1) (N := L) (by omega) (by omega)) dL_law_338 ?_
  refine qi_as (y := xs (i + 1)) (by rw [nI_clamp (by omega)]) ?_
  refine lv_aload_n hx hb dL_law_339 rfl (lv_at hl 0 rfl) ?_
  refine lv_iload_n hx hb dL_law_340 rfl (lv_at hl 3 rfl) ?_
  refine lv_iconst (v := 2) hx hb dL_law_341 (by decide) ?_
  refine lv_iadd hx hb dL_law_342 ?_
  refine qi_as (y := nI (i + 2)) (nI_add i 2) ?_
  refine va_sld hx hb hX hbl hbA hS (vp_in_nI (n := i + 2) (N := L) (by omega) (by omega)) dL_law_343 ?_
  refine qi_as (y := xs (i + 2)) (by rw [nI_clamp (by omega)]) ?_
  refine lv_aload_n hx hb dL_law_344 rfl (lv_at hl 0 rfl) ?_
  refine lv_iload_n hx hb dL_law_345 rfl (lv_at hl 3 rfl) ?_
  refine lv_iconst (v := 3) hx hb dL_law_346 (by decide) ?_
  refine lv_iadd hx hb dL_law_347 ?_
  refine qi_as (y := nI (i + 3)) (nI_add i 3) ?_
  refine va_sld hx hb hX hbl hbA hS (vp_in_nI (n := i + 3) (N := L) (by omega) (by omega)) dL_law_348 ?_
  refine qi_as (y := xs (i + 3)) (by rw [nI_clamp (by omega)]) ?_
  refine lm_i (va_runV (As := [.int (xs (i + 1)), .int (xs (i + 2)), .int (xs (i + 3))]) (rest := []) ⟨hx, hb, hml, hown, hts⟩ (v_heap l dC dI sK sV im vm kvm tm T2 m0 M (xs (i + 1)) (xs (i + 2)) (xs (i + 3)) H.size) (cwV 3 hts gL_law_X12_heap rfl rfl rfl hd_yX12_heap ⟨Nat.le_of_ble_eq_true rfl, Nat.le_of_ble_eq_true rfl⟩) ⟨fun a U g mk q => by obtain ⟨q0, q1, qX, qK, qG⟩ := q; exact ⟨q0, q1, qX, va_K.moved (u := U) (U := U.calling g mk a) (Vm.Alike.refl U.vm) qK, qG.same rfl rfl⟩, hLS.2.1.recv hLS.2.2.2.1, fun U hU hW => ⟨rfl, by rw [hU], by rw [hU]; exact hLS.2.1, va_K.moved hW.alike hLS.2.2.2.1, hGA.2.2.2.2.2.2.call hS hU hW (bl_in hLS.2.2.2.2.2.1 hS hA)⟩⟩ rfl rfl hl.1 rfl (lv_room (Nat.le_of_ble_eq_true rfl)) dL_law_349 ⟨by show _ ≤ 600000; omega, by show _ ≤ 7302250; omega⟩) hLS hS hA (fun r2_ u_ H locs M hp2 hLS hS => ?_)
  obtain ⟨e2_, rfl⟩ := hp2
  have hLS : Lst dC dI ad bS Y s A h0 m0 ik (hpF vs (xs (i + 1)) (xs (i + 2)) (xs (i + 3))) kvs tl im (hpF vm (xs (i + 1)) (xs (i + 2)) (xs (i + 3))) kvm tm X T M T2 H := hLS
  refine lv_pop hx hb dL_law_352 rfl ?_
  refine lv_goto (tgt := 1108) hx hb dL_law_353 (by decide) ?_
  refine W.widen (k := cells + 8) (n := slots + 200) (by omega) (by omega) ?_
  exact kk ik (hpF vs (xs (i + 1)) (xs (i + 2)) (xs (i + 3))) kvs tl im (hpF vm (xs (i + 1)) (xs (i + 2)) (xs (i + 3))) kvm tm X T M H locs hLS ⟨hcp.1, by rw [hcp.2.1], hcp.2.2⟩ hS

set_option maxHeartbeats 4000000 in
set_option maxRecDepth 100000 in
theorem lc_6 {p : Program} {l : Launch} {e : Env} {s : State} {m : MethodId} {below : List Frame} {meth : Method} {c : Code} {b L : Nat} {xs : Nat → Int32} {A : Nat → Prop} (hAe : A = fun q => s.heap.size ≤ q) (C0 : lw_At p s m meth c b L xs) (dC : Nat → ClassId) (dI : Nat → Nat → Nat) (gd : Nat → Nat) (kA : Nat) (ad : Nat → Nat) (cB bS : Nat) (sK sV : Nat → Nat) (Y : Nat → Prop) (h0 m0 : Nat) (ik : Int32) (vs kvs : VS) (tl : List Nat) (im : Int32) (vm kvm : VS) (tm : List Nat) (X : va_W) (T : List (ClassId × FieldType)) (M : va_W) (T2 : List (ClassId × FieldType)) (hGA : GA gd kA ad cB bS sK sV A s) (i : Nat) (hi : i + 5 ≤ L) (hL : L ≤ 320) (H : Heap) (locs : List Loc) (hLS : Lst dC dI ad bS Y s A h0 m0 ik vs kvs tl im vm kvm tm X T M T2 H) (cells slots : Nat) (hc0 : cells ≤ 590000) (hs0 : slots ≤ 7000000) (hS : va_S A s.heap H locs) (ls : Array Slot) (hl : lv_has ls 4 [(0, .ref b), (1, .ref h0), (2, .ref m0), (3, .int (nI i))]) (hcp : ik = im ∧ vs = vm ∧ (im = 0 ∨ kvs = kvm) ∧ tl = tm) (kk : ∀ (ik : Int32) (vs kvs : VS) (tl : List Nat) (im : Int32) (vm kvm : VS) (tm : List Nat) (X : va_W) (T : List (ClassId × FieldType)) (M : va_W) (H : Heap) (locs : List Loc), Lst dC dI ad bS Y s A h0 m0 ik vs kvs tl im vm kvm tm X T M T2 H → (ik = im ∧ vs = vm ∧ (im = 0 ∨ kvs = kvm) ∧ tl = tm) → va_S A s.heap H locs → W p l e room_1 s m #[Value.ref b] below meth c H locs (cells + 8) (slots + 200) (lw_Z below #[Value.ref b] s) (F0 m 1108 ls [])) : W p l e room_1 s m #[Value.ref b] below meth c H locs cells slots (lw_Z below #[Value.ref b] s) (F0 m 356 ls []) := by
  obtain ⟨hx, hb, hr, hml, hown, hts0, hX, hbl, hlocks, hgv⟩ := id C0
  have hown : s.vm.findClass RL = some m.cls := hown
  have hb : c.code = cL_law := hb
  have hts : ∀ w ∈ lw_tbl, w.before #[Value.ref b] s = true := fun w h => hts0 w (wsL_law_in w h)
  have hA : ∀ q : Nat, s.heap.size ≤ q → A q := fun q h => by rw [hAe]; exact h
  have hbA : ¬ A b := by rw [hAe]; exact Nat.not_le.mpr hbl
  refine lv_aload_n hx hb dL_law_356 rfl (lv_at hl 1 rfl) ?_
  refine lv_aload_n hx hb dL_law_357 rfl (lv_at hl 0 rfl) ?_
  refine lv_iload_n hx hb dL_law_358 rfl (lv_at hl 3 rfl) ?_
  refine lv_iconst (v := 1) hx hb dL_law_359 (by decide) ?_
  refine lv_iadd hx hb dL_law_360 ?_
  refine qi_as (y := nI (i + 1)) (nI_add i 1) ?_
  refine va_sld hx hb hX hbl hbA hS (vp_in_nI (n := i + 1) (N := L) (by omega) (by omega)) dL_law_361 ?_
  refine qi_as (y := xs (i + 1)) (by rw [nI_clamp (by omega)]) ?_
  refine lv_aload_n hx hb dL_law_362 rfl (lv_at hl 0 rfl) ?_
  refine lv_iload_n hx hb dL_law_363 rfl (lv_at hl 3 rfl) ?_
  refine lv_iconst (v := 2) hx hb dL_law_364 (by decide) ?_
  refine lv_iadd hx hb dL_law_365 ?_
  refine qi_as (y := nI (i + 2)) (nI_add i 2) ?_
  refine va_sld hx hb hX hbl hbA hS (vp_in_nI (n := i + 2) (N := L) (by omega) (by omega)) dL_law_366 ?_
  refine qi_as (y := xs (i + 2)) (by rw [nI_clamp (by omega)]) ?_
  refine lx_i (va_runV (As := [.int (xs (i + 1)), .int (xs (i + 2))]) (rest := []) ⟨hx, hb, hml, hown, hts⟩ (w_of l dC dI gd kA ad cB bS sK sV Y ik vs kvs tl T h0 X (xs (i + 1)) (xs (i + 2)) H.size) (cwV 2 hts gL_law_X11_of rfl rfl rfl hd_yX11_of ⟨Nat.le_of_ble_eq_true rfl, Nat.le_of_ble_eq_true rfl⟩) ⟨fun a U g mk q => by obtain ⟨q0, q1, qX, qK, qY1, qY2, qG⟩ := q; exact ⟨q0, q1, qX, va_K.moved (u := U) (U := U.calling g mk a) (Vm.Alike.refl U.vm) qK, qY1, qY2, qG.same rfl rfl⟩, hLS.1.recv hLS.2.2.1, fun U hU hW => ⟨rfl, by rw [hU], by rw [hU]; exact hLS.1, va_K.moved hW.alike hLS.2.2.1, hLS.2.2.2.2.2.2.1, fun q hq hy => absurd (hLS.2.2.2.2.2.2.2.2 q hy) (Nat.not_lt.mpr hq), hGA.call hS hU hW (bl_in hLS.2.2.2.2.1 hS hA)⟩⟩ rfl rfl hl.1 rfl (lv_room (Nat.le_of_ble_eq_true rfl)) dL_law_367 ⟨by show _ ≤ 600000; omega, by show _ ≤ 7302250; omega⟩) hLS hS hA (fun r1_ u_ H locs X T hp1 hLS hS => ?_)
  obtain ⟨e1_, rfl⟩ := hp1
  have hLS : Lst dC dI ad bS Y s A h0 m0 ik vs kvs tl im vm kvm tm X T M T2 H := hLS
  refine lv_pop hx hb dL_law_370 rfl ?_
  refine lv_aload_n hx hb dL_law_371 rfl (lv_at hl 2 rfl) ?_
  refine lv_aload_n hx hb dL_law_372 rfl (lv_at hl 0 rfl) ?_
  refine lv_iload_n hx hb dL_law_373 rfl (lv_at hl 3 rfl) ?_
  refine lv_iconst (v := 1) hx hb dL_law_374 (by decide) ?_
  refine lv_iadd hx hb dL_law_375 ?_
  refine qi_as (y := nI (i + 1)) (nI_add i 1) ?_
  refine va_sld hx hb hX hbl hbA hS (vp_in_nI (n := i + 1) (N := L) (by omega) (by omega)) dL_law_376 ?_
  refine qi_as (y := xs (i + 1)) (by rw [nI_clamp (by omega)]) ?_
  refine lv_aload_n hx hb dL_law_377 rfl (lv_at hl 0 rfl) ?_
  refine lv_iload_n hx hb dL_law_378 rfl (lv_at hl 3 rfl) ?_
  refine lv_iconst (v := 2) hx hb dL_law_379 (by decide) ?_
  refine lv_iadd hx hb dL_law_380 ?_
  refine qi_as (y := nI (i + 2)) (nI_add i 2) ?_
  refine va_sld hx hb hX hbl hbA hS (vp_in_nI (n := i + 2) (N := L) (by omega) (by omega)) dL_law_381 ?_
  refine qi_as (y := xs (i + 2)) (by rw [nI_clamp (by omega)]) ?_
  refine lm_i (va_runV (As := [.int (xs (i + 1)), .int (xs (i + 2))]) (rest := []) ⟨hx, hb, hml, hown, hts⟩ (v_of l dC dI sK sV im vm kvm tm T2 m0 M (xs (i + 1)) (xs (i + 2)) H.size) (cwV 2 hts gL_law_X12_of rfl rfl rfl hd_yX12_of ⟨Nat.le_of_ble_eq_true rfl, Nat.le_of_ble_eq_true rfl⟩) ⟨fun a U g mk q => by obtain ⟨q0, q1, qX, qK, qG⟩ := q; exact ⟨q0, q1, qX, va_K.moved (u := U) (U := U.calling g mk a) (Vm.Alike.refl U.vm) qK, qG.same rfl rfl⟩, hLS.2.1.recv hLS.2.2.2.1, fun U hU hW => ⟨rfl, by rw [hU], by rw [hU]; exact hLS.2.1, va_K.moved hW.alike hLS.2.2.2.1, hGA.2.2.2.2.2.2.call hS hU hW (bl_in hLS.2.2.2.2.2.1 hS hA)⟩⟩ rfl rfl hl.1 rfl (lv_room (Nat.le_of_ble_eq_true rfl)) dL_law_382 ⟨by show _ ≤ 600000; omega, by show _ ≤ 7302250; omega⟩) hLS hS hA (fun r2_ u_ H locs M hp2 hLS hS => ?_)
  obtain ⟨e2_, rfl⟩ := hp2
  have hLS : Lst dC dI ad bS Y s A h0 m0 ik vs kvs tl im vm kvm tm X T M T2 H := hLS
  refine lv_pop hx hb dL_law_385 rfl ?_
  refine lv_goto (tgt := 1108) hx hb dL_law_386 (by decide) ?_
  refine W.widen (k := cells + 8) (n := slots + 200) (by omega) (by omega) ?_
  exact kk ik vs kvs tl im vm kvm tm X T M H locs hLS ⟨hcp.1, by rw [hcp.2.1], hcp.2.2⟩ hS
