def dk22acase_cL_law_0 : List (Nat × Instr × Nat) := [(168, .aload_n 1, 1), (169, .aload_n 0, 1), (170, .iload_n 3, 1), (171, .iconst 1, 1), (172, .iadd, 1), (173, .iaload, 1), (174, .invokevirtual 13, 3), (177, .pop, 1), (178, .aload_n 2, 1), (179, .aload_n 0, 1), (180, .iload_n 3, 1), (181, .iconst 1, 1), (182, .iadd, 1), (183, .iaload, 1), (184, .invokevirtual 17, 3), (187, .pop, 1), (188, .goto 920, 3), (191, .aload_n 1, 1), (192, .invokevirtual 18, 3), (195, .pop, 1), (196, .aload_n 2, 1), (197, .invokevirtual 22, 3), (200, .pop, 1), (201, .goto 907, 3), (204, .aload_n 1, 1), (205, .aload_n 0, 1), (206, .iload_n 3, 1), (207, .iconst 1, 1), (208, .iadd, 1), (209, .iaload, 1), (210, .i2l, 1), (211, .bipush 32, 2), (213, .lshl, 1), (214, .aload_n 0, 1), (215, .iload_n 3, 1), (216, .iconst 2, 1), (217, .iadd, 1), (218, .iaload, 1), (219, .i2l, 1), (220, .ldc2_w 23, 3)]
set_option maxRecDepth 100000 in
theorem dk22acase_cL_law_0_a : dkA cL_law dk22acase_cL_law_0 = true := by decide +kernel
theorem dL_law_168 : decode cL_law 168 = .ok (.aload_n 1, 1) := dkAt dk22acase_cL_law_0_a 0 rfl
theorem dL_law_169 : decode cL_law 169 = .ok (.aload_n 0, 1) := dkAt dk22acase_cL_law_0_a 1 rfl
theorem dL_law_170 : decode cL_law 170 = .ok (.iload_n 3, 1) := dkAt dk22acase_cL_law_0_a 2 rfl
theorem dL_law_171 : decode cL_law 171 = .ok (.iconst 1, 1) := dkAt dk22acase_cL_law_0_a 3 rfl
theorem dL_law_172 : decode cL_law 172 = .ok (.iadd, 1) := dkAt dk22acase_cL_law_0_a 4 rfl
theorem dL_law_173 : decode cL_law 173 = .ok (.iaload, 1) := dkAt dk22acase_cL_law_0_a 5 rfl
theorem dL_law_174 : decode cL_law 174 = .ok (.invokevirtual 13, 3) := dkAt dk22acase_cL_law_0_a 6 rfl
theorem dL_law_177 : decode cL_law 177 = .ok (.pop, 1) := dkAt dk22acase_cL_law_0_a 7 rfl
theorem dL_law_178 : decode cL_law 178 = .ok (.aload_n 2, 1) := dkAt dk22acase_cL_law_0_a 8 rfl
theorem dL_law_179 : decode cL_law 179 = .ok (.aload_n 0, 1) := dkAt dk22acase_cL_law_0_a 9 rfl
theorem dL_law_180 : decode cL_law 180 = .ok (.iload_n 3, 1) := dkAt dk22acase_cL_law_0_a 10 rfl
theorem dL_law_181 : decode cL_law 181 = .ok (.iconst 1, 1) := dkAt dk22acase_cL_law_0_a 11 rfl
theorem dL_law_182 : decode cL_law 182 = .ok (.iadd, 1) := dkAt dk22acase_cL_law_0_a 12 rfl
theorem dL_law_183 : decode cL_law 183 = .ok (.iaload, 1) := dkAt dk22acase_cL_law_0_a 13 rfl
theorem dL_law_184 : decode cL_law 184 = .ok (.invokevirtual 17, 3) := dkAt dk22acase_cL_law_0_a 14 rfl
theorem dL_law_187 : decode cL_law 187 = .ok (.pop, 1) := dkAt dk22acase_cL_law_0_a 15 rfl
theorem dL_law_188 : decode cL_law 188 = .ok (.goto 920, 3) := dkAt dk22acase_cL_law_0_a 16 rfl
theorem dL_law_191 : decode cL_law 191 = .ok (.aload_n 1, 1) := dkAt dk22acase_cL_law_0_a 17 rfl
theorem dL_law_192 : decode cL_law 192 = .ok (.invokevirtual 18, 3) := dkAt dk22acase_cL_law_0_a 18 rfl
theorem dL_law_195 : decode cL_law 195 = .ok (.pop, 1) := dkAt dk22acase_cL_law_0_a 19 rfl
theorem dL_law_196 : decode cL_law 196 = .ok (.aload_n 2, 1) := dkAt dk22acase_cL_law_0_a 20 rfl
theorem dL_law_197 : decode cL_law 197 = .ok (.invokevirtual 22, 3) := dkAt dk22acase_cL_law_0_a 21 rfl
theorem dL_law_200 : decode cL_law 200 = .ok (.pop, 1) := dkAt dk22acase_cL_law_0_a 22 rfl
theorem dL_law_201 : decode cL_law 201 = .ok (.goto 907, 3) := dkAt dk22acase_cL_law_0_a 23 rfl
theorem dL_law_204 : decode cL_law 204 = .ok (.aload_n 1, 1) := dkAt dk22acase_cL_law_0_a 24 rfl
theorem dL_law_205 : decode cL_law 205 = .ok (.aload_n 0, 1) := dkAt dk22acase_cL_law_0_a 25 rfl
theorem dL_law_206 : decode cL_law 206 = .ok (.iload_n 3, 1) := dkAt dk22acase_cL_law_0_a 26 rfl
theorem dL_law_207 : decode cL_law 207 = .ok (.iconst 1, 1) := dkAt dk22acase_cL_law_0_a 27 rfl
theorem dL_law_208 : decode cL_law 208 = .ok (.iadd, 1) := dkAt dk22acase_cL_law_0_a 28 rfl
theorem dL_law_209 : decode cL_law 209 = .ok (.iaload, 1) := dkAt dk22acase_cL_law_0_a 29 rfl
theorem dL_law_210 : decode cL_law 210 = .ok (.i2l, 1) := dkAt dk22acase_cL_law_0_a 30 rfl
theorem dL_law_211 : decode cL_law 211 = .ok (.bipush 32, 2) := dkAt dk22acase_cL_law_0_a 31 rfl
theorem dL_law_213 : decode cL_law 213 = .ok (.lshl, 1) := dkAt dk22acase_cL_law_0_a 32 rfl
theorem dL_law_214 : decode cL_law 214 = .ok (.aload_n 0, 1) := dkAt dk22acase_cL_law_0_a 33 rfl
theorem dL_law_215 : decode cL_law 215 = .ok (.iload_n 3, 1) := dkAt dk22acase_cL_law_0_a 34 rfl
theorem dL_law_216 : decode cL_law 216 = .ok (.iconst 2, 1) := dkAt dk22acase_cL_law_0_a 35 rfl
theorem dL_law_217 : decode cL_law 217 = .ok (.iadd, 1) := dkAt dk22acase_cL_law_0_a 36 rfl
theorem dL_law_218 : decode cL_law 218 = .ok (.iaload, 1) := dkAt dk22acase_cL_law_0_a 37 rfl
theorem dL_law_219 : decode cL_law 219 = .ok (.i2l, 1) := dkAt dk22acase_cL_law_0_a 38 rfl
theorem dL_law_220 : decode cL_law 220 = .ok (.ldc2_w 23, 3) := dkAt dk22acase_cL_law_0_a 39 rfl
def dk22acase_cL_law_40 : List (Nat × Instr × Nat) := [(223, .land, 1), (224, .lor, 1), (225, .invokevirtual 25, 3), (228, .pop, 1), (229, .aload_n 2, 1), (230, .aload_n 0, 1), (231, .iload_n 3, 1), (232, .iconst 1, 1), (233, .iadd, 1), (234, .iaload, 1), (235, .i2l, 1), (236, .bipush 32, 2), (238, .lshl, 1), (239, .aload_n 0, 1), (240, .iload_n 3, 1), (241, .iconst 2, 1), (242, .iadd, 1), (243, .iaload, 1), (244, .i2l, 1), (245, .ldc2_w 23, 3), (248, .land, 1), (249, .lor, 1), (250, .invokevirtual 29, 3), (253, .pop, 1), (254, .goto 854, 3), (257, .aload_n 1, 1), (258, .aload_n 0, 1), (259, .iload_n 3, 1), (260, .iconst 1, 1), (261, .iadd, 1), (262, .iaload, 1), (263, .aload_n 0, 1), (264, .iload_n 3, 1), (265, .iconst 2, 1), (266, .iadd, 1), (267, .iaload, 1), (268, .invokevirtual 30, 3), (271, .pop, 1), (272, .aload_n 2, 1), (273, .aload_n 0, 1)]
set_option maxRecDepth 100000 in
theorem dk22acase_cL_law_40_a : dkA cL_law dk22acase_cL_law_40 = true := by decide +kernel
theorem dL_law_223 : decode cL_law 223 = .ok (.land, 1) := dkAt dk22acase_cL_law_40_a 0 rfl
theorem dL_law_224 : decode cL_law 224 = .ok (.lor, 1) := dkAt dk22acase_cL_law_40_a 1 rfl
theorem dL_law_225 : decode cL_law 225 = .ok (.invokevirtual 25, 3) := dkAt dk22acase_cL_law_40_a 2 rfl
theorem dL_law_228 : decode cL_law 228 = .ok (.pop, 1) := dkAt dk22acase_cL_law_40_a 3 rfl
theorem dL_law_229 : decode cL_law 229 = .ok (.aload_n 2, 1) := dkAt dk22acase_cL_law_40_a 4 rfl
theorem dL_law_230 : decode cL_law 230 = .ok (.aload_n 0, 1) := dkAt dk22acase_cL_law_40_a 5 rfl
theorem dL_law_231 : decode cL_law 231 = .ok (.iload_n 3, 1) := dkAt dk22acase_cL_law_40_a 6 rfl
theorem dL_law_232 : decode cL_law 232 = .ok (.iconst 1, 1) := dkAt dk22acase_cL_law_40_a 7 rfl
theorem dL_law_233 : decode cL_law 233 = .ok (.iadd, 1) := dkAt dk22acase_cL_law_40_a 8 rfl
theorem dL_law_234 : decode cL_law 234 = .ok (.iaload, 1) := dkAt dk22acase_cL_law_40_a 9 rfl
theorem dL_law_235 : decode cL_law 235 = .ok (.i2l, 1) := dkAt dk22acase_cL_law_40_a 10 rfl
theorem dL_law_236 : decode cL_law 236 = .ok (.bipush 32, 2) := dkAt dk22acase_cL_law_40_a 11 rfl
theorem dL_law_238 : decode cL_law 238 = .ok (.lshl, 1) := dkAt dk22acase_cL_law_40_a 12 rfl
theorem dL_law_239 : decode cL_law 239 = .ok (.aload_n 0, 1) := dkAt dk22acase_cL_law_40_a 13 rfl
theorem dL_law_240 : decode cL_law 240 = .ok (.iload_n 3, 1) := dkAt dk22acase_cL_law_40_a 14 rfl
theorem dL_law_241 : decode cL_law 241 = .ok (.iconst 2, 1) := dkAt dk22acase_cL_law_40_a 15 rfl
theorem dL_law_242 : decode cL_law 242 = .ok (.iadd, 1) := dkAt dk22acase_cL_law_40_a 16 rfl
theorem dL_law_243 : decode cL_law 243 = .ok (.iaload, 1) := dkAt dk22acase_cL_law_40_a 17 rfl
theorem dL_law_244 : decode cL_law 244 = .ok (.i2l, 1) := dkAt dk22acase_cL_law_40_a 18 rfl
theorem dL_law_245 : decode cL_law 245 = .ok (.ldc2_w 23, 3) := dkAt dk22acase_cL_law_40_a 19 rfl
theorem dL_law_248 : decode cL_law 248 = .ok (.land, 1) := dkAt dk22acase_cL_law_40_a 20 rfl
theorem dL_law_249 : decode cL_law 249 = .ok (.lor, 1) := dkAt dk22acase_cL_law_40_a 21 rfl
theorem dL_law_250 : decode cL_law 250 = .ok (.invokevirtual 29, 3) := dkAt dk22acase_cL_law_40_a 22 rfl
theorem dL_law_253 : decode cL_law 253 = .ok (.pop, 1) := dkAt dk22acase_cL_law_40_a 23 rfl
theorem dL_law_254 : decode cL_law 254 = .ok (.goto 854, 3) := dkAt dk22acase_cL_law_40_a 24 rfl
theorem dL_law_257 : decode cL_law 257 = .ok (.aload_n 1, 1) := dkAt dk22acase_cL_law_40_a 25 rfl
theorem dL_law_258 : decode cL_law 258 = .ok (.aload_n 0, 1) := dkAt dk22acase_cL_law_40_a 26 rfl
theorem dL_law_259 : decode cL_law 259 = .ok (.iload_n 3, 1) := dkAt dk22acase_cL_law_40_a 27 rfl
theorem dL_law_260 : decode cL_law 260 = .ok (.iconst 1, 1) := dkAt dk22acase_cL_law_40_a 28 rfl
theorem dL_law_261 : decode cL_law 261 = .ok (.iadd, 1) := dkAt dk22acase_cL_law_40_a 29 rfl
theorem dL_law_262 : decode cL_law 262 = .ok (.iaload, 1) := dkAt dk22acase_cL_law_40_a 30 rfl
theorem dL_law_263 : decode cL_law 263 = .ok (.aload_n 0, 1) := dkAt dk22acase_cL_law_40_a 31 rfl
theorem dL_law_264 : decode cL_law 264 = .ok (.iload_n 3, 1) := dkAt dk22acase_cL_law_40_a 32 rfl
theorem dL_law_265 : decode cL_law 265 = .ok (.iconst 2, 1) := dkAt dk22acase_cL_law_40_a 33 rfl
theorem dL_law_266 : decode cL_law 266 = .ok (.iadd, 1) := dkAt dk22acase_cL_law_40_a 34 rfl
theorem dL_law_267 : decode cL_law 267 = .ok (.iaload, 1) := dkAt dk22acase_cL_law_40_a 35 rfl
theorem dL_law_268 : decode cL_law 268 = .ok (.invokevirtual 30, 3) := dkAt dk22acase_cL_law_40_a 36 rfl
theorem dL_law_271 : decode cL_law 271 = .ok (.pop, 1) := dkAt dk22acase_cL_law_40_a 37 rfl
theorem dL_law_272 : decode cL_law 272 = .ok (.aload_n 2, 1) := dkAt dk22acase_cL_law_40_a 38 rfl
theorem dL_law_273 : decode cL_law 273 = .ok (.aload_n 0, 1) := dkAt dk22acase_cL_law_40_a 39 rfl
def dk22acase_cL_law_80 : List (Nat × Instr × Nat) := [(274, .iload_n 3, 1), (275, .iconst 1, 1), (276, .iadd, 1), (277, .iaload, 1), (278, .aload_n 0, 1), (279, .iload_n 3, 1), (280, .iconst 2, 1), (281, .iadd, 1), (282, .iaload, 1), (283, .invokevirtual 34, 3), (286, .pop, 1), (287, .goto 821, 3)]
set_option maxRecDepth 100000 in
theorem dk22acase_cL_law_80_a : dkA cL_law dk22acase_cL_law_80 = true := by decide +kernel
theorem dL_law_274 : decode cL_law 274 = .ok (.iload_n 3, 1) := dkAt dk22acase_cL_law_80_a 0 rfl
theorem dL_law_275 : decode cL_law 275 = .ok (.iconst 1, 1) := dkAt dk22acase_cL_law_80_a 1 rfl
theorem dL_law_276 : decode cL_law 276 = .ok (.iadd, 1) := dkAt dk22acase_cL_law_80_a 2 rfl
theorem dL_law_277 : decode cL_law 277 = .ok (.iaload, 1) := dkAt dk22acase_cL_law_80_a 3 rfl
theorem dL_law_278 : decode cL_law 278 = .ok (.aload_n 0, 1) := dkAt dk22acase_cL_law_80_a 4 rfl
theorem dL_law_279 : decode cL_law 279 = .ok (.iload_n 3, 1) := dkAt dk22acase_cL_law_80_a 5 rfl
theorem dL_law_280 : decode cL_law 280 = .ok (.iconst 2, 1) := dkAt dk22acase_cL_law_80_a 6 rfl
theorem dL_law_281 : decode cL_law 281 = .ok (.iadd, 1) := dkAt dk22acase_cL_law_80_a 7 rfl
theorem dL_law_282 : decode cL_law 282 = .ok (.iaload, 1) := dkAt dk22acase_cL_law_80_a 8 rfl
theorem dL_law_283 : decode cL_law 283 = .ok (.invokevirtual 34, 3) := dkAt dk22acase_cL_law_80_a 9 rfl
theorem dL_law_286 : decode cL_law 286 = .ok (.pop, 1) := dkAt dk22acase_cL_law_80_a 10 rfl
theorem dL_law_287 : decode cL_law 287 = .ok (.goto 821, 3) := dkAt dk22acase_cL_law_80_a 11 rfl
theorem kL_0 : (.constantLong RL 23 (4294967295) : Cond) ∈ lw_tbl := kl_of 1541 rfl rfl
theorem kL_1 : (.classLink RL 7 RX11 : Cond) ∈ lw_tbl := kl_of 93 rfl rfl
theorem kL_2 : (.instantiable RX11 7 : Cond) ∈ lw_tbl := kl_of 94 rfl rfl
theorem kL_3 : (.initialized RX11 : Cond) ∈ lw_tbl := kl_of 63 rfl rfl
theorem kL_4 : (.methodLink RL 9 yX11_init : Cond) ∈ lw_tbl := kl_of 95 rfl rfl
theorem kL_5 : (.instanceMethod yX11_init : Cond) ∈ lw_tbl := kl_of 96 rfl rfl
theorem kL_6 : (.classLink RL 10 RX12 : Cond) ∈ lw_tbl := kl_of 1135 rfl rfl
theorem kL_7 : (.instantiable RX12 23 : Cond) ∈ lw_tbl := kl_of 1136 rfl rfl
theorem kL_8 : (.initialized RX12 : Cond) ∈ lw_tbl := kl_of 72 rfl rfl
theorem kL_9 : (.methodLink RL 12 yX12_init : Cond) ∈ lw_tbl := kl_of 1137 rfl rfl
theorem kL_10 : (.instanceMethod yX12_init : Cond) ∈ lw_tbl := kl_of 1138 rfl rfl
set_option maxHeartbeats 4000000 in
set_option maxRecDepth 100000 in
theorem lc_0 {p : Program} {l : Launch} {e : Env} {s : State} {m : MethodId} {below : List Frame} {meth : Method} {c : Code} {b L : Nat} {xs : Nat → Int32} {A : Nat → Prop} (hAe : A = fun q => s.heap.size ≤ q) (C0 : lw_At p s m meth c b L xs) (dC : Nat → ClassId) (dI : Nat → Nat → Nat) (gd : Nat → Nat) (kA : Nat) (ad : Nat → Nat) (cB bS : Nat) (sK sV : Nat → Nat) (Y : Nat → Prop) (h0 m0 : Nat) (ik : Int32) (vs kvs : VS) (tl : List Nat) (im : Int32) (vm kvm : VS) (tm : List Nat) (X : va_W) (T : List (ClassId × FieldType)) (M : va_W) (T2 : List (ClassId × FieldType)) (hGA : GA gd kA ad cB bS sK sV A s) (i : Nat) (hi : i + 5 ≤ L) (hL : L ≤ 320) (H : Heap) (locs : List Loc) (hLS : Lst dC dI ad bS Y s A h0 m0 ik vs kvs tl im vm kvm tm X T M T2 H) (cells slots : Nat) (hc0 : cells ≤ 590000) (hs0 : slots ≤ 7000000) (hS : va_S A s.heap H locs) (ls : Array Slot) (hl : lv_has ls 4 [(0, .ref b), (1, .ref h0), (2, .ref m0), (3, .int (nI i))]) (hcp : ik = im ∧ vs = vm ∧ (im = 0 ∨ kvs = kvm) ∧ tl = tm) (kk : ∀ (ik : Int32) (vs kvs : VS) (tl : List Nat) (im : Int32) (vm kvm : VS) (tm : List Nat) (X : va_W) (T : List (ClassId × FieldType)) (M : va_W) (H : Heap) (locs : List Loc), Lst dC dI ad bS Y s A h0 m0 ik vs kvs tl im vm kvm tm X T M T2 H → (ik = im ∧ vs = vm ∧ (im = 0 ∨ kvs = kvm) ∧ tl = tm) → va_S A s.heap H locs → W p l e room_1 s m #[Value.ref b] below meth c H locs (cells + 8) (slots + 200) (lw_Z below #[Value.ref b] s) (F0 m 1108 ls [])) : W p l e room_1 s m #[Value.ref b] below meth c H locs cells slots (lw_Z below #[Value.ref b] s) (F0 m 168 ls []) := by
  obtain ⟨hx, hb, hr, hml, hown, hts0, hX, hbl, hlocks, hgv⟩ := id C0
  have hown : s.vm.findClass RL = some m.cls := hown
  have hb : c.code = cL_law := hb
  have hts : ∀ w ∈ lw_tbl, w.before #[Value.ref b] s = true := fun w h => hts0 w (wsL_law_in w h)
  have hA : ∀ q : Nat, s.heap.size ≤ q → A q := fun q h => by rw [hAe]; exact h
  have hbA : ¬ A b := by rw [hAe]; exact Nat.not_le.mpr hbl
  refine lv_aload_n hx hb dL_law_168 rfl (lv_at hl 1 rfl) ?_
  refine lv_aload_n hx hb dL_law_169 rfl (lv_at hl 0 rfl) ?_
  refine lv_iload_n hx hb dL_law_170 rfl (lv_at hl 3 rfl) ?_
  refine lv_iconst (v := 1) hx hb dL_law_171 (by decide) ?_
  refine lv_iadd hx hb dL_law_172 ?_
  refine qi_as (y := nI (i + 1)) (nI_add i 1) ?_
  refine va_sld hx hb hX hbl hbA hS (vp_in_nI (n := i + 1) (N := L) (by omega) (by omega)) dL_law_173 ?_
  refine qi_as (y := xs (i + 1)) (by rw [nI_clamp (by omega)]) ?_
  refine lx_i (va_runV (As := [.int (xs (i + 1))]) (rest := []) ⟨hx, hb, hml, hown, hts⟩ (w_feed l dC dI gd kA ad cB bS sK sV Y ik vs kvs tl T h0 X (xs (i + 1)) H.size) (cwV 1 hts gL_law_X11_feed rfl rfl rfl hd_yX11_feed ⟨Nat.le_of_ble_eq_true rfl, Nat.le_of_ble_eq_true rfl⟩) ⟨fun a U g mk q => by obtain ⟨q0, q1, qX, qK, qY1, qY2, qG⟩ := q; exact ⟨q0, q1, qX, va_K.moved (u := U) (U := U.calling g mk a) (Vm.Alike.refl U.vm) qK, qY1, qY2, qG.same rfl rfl⟩, hLS.1.recv hLS.2.2.1, fun U hU hW => ⟨rfl, by rw [hU], by rw [hU]; exact hLS.1, va_K.moved hW.alike hLS.2.2.1, hLS.2.2.2.2.2.2.1, fun q hq hy => absurd (hLS.2.2.2.2.2.2.2.2 q hy) (Nat.not_lt.mpr hq), hGA.call hS hU hW (bl_in hLS.2.2.2.2.1 hS hA)⟩⟩ rfl rfl hl.1 rfl (lv_room (Nat.le_of_ble_eq_true rfl)) dL_law_174 ⟨by show _ ≤ 600000; omega, by show _ ≤ 7302250; omega⟩) hLS hS hA (fun r1_ u_ H locs X T hp1 hLS hS => ?_)
  obtain ⟨e1_, rfl⟩ := hp1
  have hLS : Lst dC dI ad bS Y s A h0 m0 ik (fdF vs (xs (i + 1))) kvs tl im vm kvm tm X T M T2 H := hLS
  refine lv_pop hx hb dL_law_177 rfl ?_
  refine lv_aload_n hx hb dL_law_178 rfl (lv_at hl 2 rfl) ?_
  refine lv_aload_n hx hb dL_law_179 rfl (lv_at hl 0 rfl) ?_
  refine lv_iload_n hx hb dL_law_180 rfl (lv_at hl 3 rfl) ?_
  refine lv_iconst (v := 1) hx hb dL_law_181 (by decide) ?_
  refine lv_iadd hx hb dL_law_182 ?_
  refine qi_as (y := nI (i + 1)) (nI_add i 1) ?_
  refine va_sld hx hb hX hbl hbA hS (vp_in_nI (n := i + 1) (N := L) (by omega) (by omega)) dL_law_183 ?_
  refine qi_as (y := xs (i + 1)) (by rw [nI_clamp (by omega)]) ?_
  refine lm_i (va_runV (As := [.int (xs (i + 1))]) (rest := []) ⟨hx, hb, hml, hown, hts⟩ (v_feed l dC dI sK sV im vm kvm tm T2 m0 M (xs (i + 1)) H.size) (cwV 1 hts gL_law_X12_feed rfl rfl rfl hd_yX12_feed ⟨Nat.le_of_ble_eq_true rfl, Nat.le_of_ble_eq_true rfl⟩) ⟨fun a U g mk q => by obtain ⟨q0, q1, qX, qK, qG⟩ := q; exact ⟨q0, q1, qX, va_K.moved (u := U) (U := U.calling g mk a) (Vm.Alike.refl U.vm) qK, qG.same rfl rfl⟩, hLS.2.1.recv hLS.2.2.2.1, fun U hU hW => ⟨rfl, by rw [hU], by rw [hU]; exact hLS.2.1, va_K.moved hW.alike hLS.2.2.2.1, hGA.2.2.2.2.2.2.call hS hU hW (bl_in hLS.2.2.2.2.2.1 hS hA)⟩⟩ rfl rfl hl.1 rfl (lv_room (Nat.le_of_ble_eq_true rfl)) dL_law_184 ⟨by show _ ≤ 600000; omega, by show _ ≤ 7302250; omega⟩) hLS hS hA (fun r2_ u_ H locs M hp2 hLS hS => ?_)
  obtain ⟨e2_, rfl⟩ := hp2
  have hLS : Lst dC dI ad bS Y s A h0 m0 ik (fdF vs (xs (i + 1))) kvs tl im (fdF vm (xs (i + 1))) kvm tm X T M T2 H := hLS
  refine lv_pop hx hb dL_law_187 rfl ?_
  refine lv_goto (tgt := 1108) hx hb dL_law_188 (by decide) ?_
  refine W.widen (k := cells + 8) (n := slots + 200) (by omega) (by omega) ?_
  exact kk ik (fdF vs (xs (i + 1))) kvs tl im (fdF vm (xs (i + 1))) kvm tm X T M H locs hLS ⟨hcp.1, by rw [hcp.2.1], hcp.2.2⟩ hS

set_option maxHeartbeats 4000000 in
set_option maxRecDepth 100000 in
theorem lc_1 {p : Program} {l : Launch} {e : Env} {s : State} {m : MethodId} {below : List Frame} {meth : Method} {c : Code} {b L : Nat} {xs : Nat → Int32} {A : Nat → Prop} (hAe : A = fun q => s.heap.size ≤ q) (C0 : lw_At p s m meth c b L xs) (dC : Nat → ClassId) (dI : Nat → Nat → Nat) (gd : Nat → Nat) (kA : Nat) (ad : Nat → Nat) (cB bS : Nat) (sK sV : Nat → Nat) (Y : Nat → Prop) (h0 m0 : Nat) (ik : Int32) (vs kvs : VS) (tl : List Nat) (im : Int32) (vm kvm : VS) (tm : List Nat) (X : va_W) (T : List (ClassId × FieldType)) (M : va_W) (T2 : List (ClassId × FieldType)) (hGA : GA gd kA ad cB bS sK sV A s) (i : Nat) (hi : i + 5 ≤ L) (hL : L ≤ 320) (H : Heap) (locs : List Loc) (hLS : Lst dC dI ad bS Y s A h0 m0 ik vs kvs tl im vm kvm tm X T M T2 H) (cells slots : Nat) (hc0 : cells ≤ 590000) (hs0 : slots ≤ 7000000) (hS : va_S A s.heap H locs) (ls : Array Slot) (hl : lv_has ls 4 [(0, .ref b), (1, .ref h0), (2, .ref m0), (3, .int (nI i))]) (hcp : ik = im ∧ vs = vm ∧ (im = 0 ∨ kvs = kvm) ∧ tl = tm) (kk : ∀ (ik : Int32) (vs kvs : VS) (tl : List Nat) (im : Int32) (vm kvm : VS) (tm : List Nat) (X : va_W) (T : List (ClassId × FieldType)) (M : va_W) (H : Heap) (locs : List Loc), Lst dC dI ad bS Y s A h0 m0 ik vs kvs tl im vm kvm tm X T M T2 H → (ik = im ∧ vs = vm ∧ (im = 0 ∨ kvs = kvm) ∧ tl = tm) → va_S A s.heap H locs → W p l e room_1 s m #[Value.ref b] below meth c H locs (cells + 8) (slots + 200) (lw_Z below #[Value.ref b] s) (F0 m 1108 ls [])) : W p l e room_1 s m #[Value.ref b] below meth c H locs cells slots (lw_Z below #[Value.ref b] s) (F0 m 191 ls []) := by
  obtain ⟨hx, hb, hr, hml, hown, hts0, hX, hbl, hlocks, hgv⟩ := id C0
  have hown : s.vm.findClass RL = some m.cls := hown
  have hb : c.code = cL_law := hb
  have hts : ∀ w ∈ lw_tbl, w.before #[Value.ref b] s = true := fun w h => hts0 w (wsL_law_in w h)
  have hA : ∀ q : Nat, s.heap.size ≤ q → A q := fun q h => by rw [hAe]; exact h
  have hbA : ¬ A b := by rw [hAe]; exact Nat.not_le.mpr hbl
  refine lv_aload_n hx hb dL_law_191 rfl (lv_at hl 1 rfl) ?_
  refine lx_i (va_runV (As := []) (rest := []) ⟨hx, hb, hml, hown, hts⟩ (w_hill l dC dI gd kA ad cB bS sK sV Y ik vs kvs tl T h0 X H.size) (cwV 0 hts gL_law_X11_hill rfl rfl rfl hd_yX11_hill ⟨Nat.le_of_ble_eq_true rfl, Nat.le_of_ble_eq_true rfl⟩) ⟨fun a U g mk q => by obtain ⟨q0, q1, qX, qK, qY1, qY2, qG⟩ := q; exact ⟨q0, q1, qX, va_K.moved (u := U) (U := U.calling g mk a) (Vm.Alike.refl U.vm) qK, qY1, qY2, qG.same rfl rfl⟩, hLS.1.recv hLS.2.2.1, fun U hU hW => ⟨rfl, by rw [hU], by rw [hU]; exact hLS.1, va_K.moved hW.alike hLS.2.2.1, hLS.2.2.2.2.2.2.1, fun q hq hy => absurd (hLS.2.2.2.2.2.2.2.2 q hy) (Nat.not_lt.mpr hq), hGA.call hS hU hW (bl_in hLS.2.2.2.2.1 hS hA)⟩⟩ rfl rfl hl.1 rfl (lv_room (Nat.le_of_ble_eq_true rfl)) dL_law_192 ⟨by show _ ≤ 600000; omega, by show _ ≤ 7302250; omega⟩) hLS hS hA (fun r1_ u_ H locs X T hp1 hLS hS => ?_)
  obtain ⟨e1_, rfl⟩ := hp1
  have hLS : Lst dC dI ad bS Y s A h0 m0 ik (hlF vs) kvs tl im vm kvm tm X T M T2 H := hLS
  refine lv_pop hx hb dL_law_195 rfl ?_
  refine lv_aload_n hx hb dL_law_196 rfl (lv_at hl 2 rfl) ?_
  refine lm_i (va_runV (As := []) (rest := []) ⟨hx, hb, hml, hown, hts⟩ (v_hill l dC dI sK sV im vm kvm tm T2 m0 M H.size) (cwV 0 hts gL_law_X12_hill rfl rfl rfl hd_yX12_hill ⟨Nat.le_of_ble_eq_true rfl, Nat.le_of_ble_eq_true rfl⟩) ⟨fun a U g mk q => by obtain ⟨q0, q1, qX, qK, qG⟩ := q; exact ⟨q0, q1, qX, va_K.moved (u := U) (U := U.calling g mk a) (Vm.Alike.refl U.vm) qK, qG.same rfl rfl⟩, hLS.2.1.recv hLS.2.2.2.1, fun U hU hW => ⟨rfl, by rw [hU], by rw [hU]; exact hLS.2.1, va_K.moved hW.alike hLS.2.2.2.1, hGA.2.2.2.2.2.2.call hS hU hW (bl_in hLS.2.2.2.2.2.1 hS hA)⟩⟩ rfl rfl hl.1 rfl (lv_room (Nat.le_of_ble_eq_true rfl)) dL_law_197 ⟨by show _ ≤ 600000; omega, by show _ ≤ 7302250; omega⟩) hLS hS hA (fun r2_ u_ H locs M hp2 hLS hS => ?_)
  obtain ⟨e2_, rfl⟩ := hp2
  have hLS : Lst dC dI ad bS Y s A h0 m0 ik (hlF vs) kvs tl im (hlF vm) kvm tm X T M T2 H := hLS
  refine lv_pop hx hb dL_law_200 rfl ?_
  refine lv_goto (tgt := 1108) hx hb dL_law_201 (by decide) ?_
  refine W.widen (k := cells + 8) (n := slots + 200) (by omega) (by omega) ?_
  exact kk ik (hlF vs) kvs tl im (hlF vm) kvm tm X T M H locs hLS ⟨hcp.1, by rw [hcp.2.1], hcp.2.2⟩ hS

set_option maxHeartbeats 4000000 in
set_option maxRecDepth 100000 in
theorem lc_2 {p : Program} {l : Launch} {e : Env} {s : State} {m : MethodId} {below : List Frame} {meth : Method} {c : Code} {b L : Nat} {xs : Nat → Int32} {A : Nat → Prop} (hAe : A = fun q => s.heap.size ≤ q) (C0 : lw_At p s m meth c b L xs) (dC : Nat → ClassId) (dI : Nat → Nat → Nat) (gd : Nat → Nat) (kA : Nat) (ad : Nat → Nat) (cB bS : Nat) (sK sV : Nat → Nat) (Y : Nat → Prop) (h0 m0 : Nat) (ik : Int32) (vs kvs : VS) (tl : List Nat) (im : Int32) (vm kvm : VS) (tm : List Nat) (X : va_W) (T : List (ClassId × FieldType)) (M : va_W) (T2 : List (ClassId × FieldType)) (hGA : GA gd kA ad cB bS sK sV A s) (i : Nat) (hi : i + 5 ≤ L) (hL : L ≤ 320) (H : Heap) (locs : List Loc) (hLS : Lst dC dI ad bS Y s A h0 m0 ik vs kvs tl im vm kvm tm X T M T2 H) (cells slots : Nat) (hc0 : cells ≤ 590000) (hs0 : slots ≤ 7000000) (hS : va_S A s.heap H locs) (ls : Array Slot) (hl : lv_has ls 4 [(0, .ref b), (1, .ref h0), (2, .ref m0), (3, .int (nI i))]) (hcp : ik = im ∧ vs = vm ∧ (im = 0 ∨ kvs = kvm) ∧ tl = tm) (kk : ∀ (ik : Int32) (vs kvs : VS) (tl : List Nat) (im : Int32) (vm kvm : VS) (tm : List Nat) (X : va_W) (T : List (ClassId × FieldType)) (M : va_W) (H : Heap) (locs : List Loc), Lst dC dI ad bS Y s A h0 m0 ik vs kvs tl im vm kvm tm X T M T2 H → (ik = im ∧ vs = vm ∧ (im = 0 ∨ kvs = kvm) ∧ tl = tm) → va_S A s.heap H locs → W p l e room_1 s m #[Value.ref b] below meth c H locs (cells + 8) (slots + 200) (lw_Z below #[Value.ref b] s) (F0 m 1108 ls [])) : W p l e room_1 s m #[Value.ref b] below meth c H locs cells slots (lw_Z below #[Value.ref b] s) (F0 m 204 ls []) := by
  obtain ⟨hx, hb, hr, hml, hown, hts0, hX, hbl, hlocks, hgv⟩ := id C0
  have hown : s.vm.findClass RL = some m.cls := hown
  have hb : c.code = cL_law := hb
  have hts : ∀ w ∈ lw_tbl, w.before #[Value.ref b] s = true := fun w h => hts0 w (wsL_law_in w h)
  have hA : ∀ q : Nat, s.heap.size ≤ q → A q := fun q h => by rw [hAe]; exact h
  have hbA : ¬ A b := by rw [hAe]; exact Nat.not_le.mpr hbl
  refine lv_aload_n hx hb dL_law_204 rfl (lv_at hl 1 rfl) ?_
  refine lv_aload_n hx hb dL_law_205 rfl (lv_at hl 0 rfl) ?_
  refine lv_iload_n hx hb dL_law_206 rfl (lv_at hl 3 rfl) ?_
  refine lv_iconst (v := 1) hx hb dL_law_207 (by decide) ?_
  refine lv_iadd hx hb dL_law_208 ?_
  refine qi_as (y := nI (i + 1)) (nI_add i 1) ?_
  refine va_sld hx hb hX hbl hbA hS (vp_in_nI (n := i + 1) (N := L) (by omega) (by omega)) dL_law_209 ?_
  refine qi_as (y := xs (i + 1)) (by rw [nI_clamp (by omega)]) ?_
  refine lv_i2l (v := (xs (i + 1)).toInt64) hx hb dL_law_210 (rfl) ?_
  refine lv_bipush (v := 32) hx hb dL_law_211 (by decide) ?_
  refine lv_lshl (v := ((xs (i + 1)).toInt64) <<< ((32 : Int32).toInt64 &&& 63)) hx hb dL_law_213 (rfl) ?_
  refine lv_aload_n hx hb dL_law_214 rfl (lv_at hl 0 rfl) ?_
  refine lv_iload_n hx hb dL_law_215 rfl (lv_at hl 3 rfl) ?_
  refine lv_iconst (v := 2) hx hb dL_law_216 (by decide) ?_
  refine lv_iadd hx hb dL_law_217 ?_
  refine qi_as (y := nI (i + 2)) (nI_add i 2) ?_
  refine va_sld hx hb hX hbl hbA hS (vp_in_nI (n := i + 2) (N := L) (by omega) (by omega)) dL_law_218 ?_
  refine qi_as (y := xs (i + 2)) (by rw [nI_clamp (by omega)]) ?_
  refine lv_i2l (v := (xs (i + 2)).toInt64) hx hb dL_law_219 (rfl) ?_
  refine lv_ldc2 (v := 4294967295) hx hb hown (hts (.constantLong RL 23 (4294967295)) kL_0) dL_law_220 ?_
  refine lv_land hx hb dL_law_223 ?_
  refine lv_lor hx hb dL_law_224 ?_
  refine lx_i (va_runV (As := [.long ((((xs (i + 1)).toInt64) <<< ((32 : Int32).toInt64 &&& 63)) ||| (((xs (i + 2)).toInt64) &&& 4294967295))]) (rest := []) ⟨hx, hb, hml, hown, hts⟩ (w_edges l dC dI gd kA ad cB bS sK sV Y ik vs kvs tl T h0 X ((((xs (i + 1)).toInt64) <<< ((32 : Int32).toInt64 &&& 63)) ||| (((xs (i + 2)).toInt64) &&& 4294967295)) H.size) (cwV 1 hts gL_law_X11_edges rfl rfl rfl hd_yX11_edges ⟨Nat.le_of_ble_eq_true rfl, Nat.le_of_ble_eq_true rfl⟩) ⟨fun a U g mk q => by obtain ⟨q0, q1, qX, qK, qY1, qY2, qG⟩ := q; exact ⟨q0, q1, qX, va_K.moved (u := U) (U := U.calling g mk a) (Vm.Alike.refl U.vm) qK, qY1, qY2, qG.same rfl rfl⟩, hLS.1.recv hLS.2.2.1, fun U hU hW => ⟨rfl, by rw [hU], by rw [hU]; exact hLS.1, va_K.moved hW.alike hLS.2.2.1, hLS.2.2.2.2.2.2.1, fun q hq hy => absurd (hLS.2.2.2.2.2.2.2.2 q hy) (Nat.not_lt.mpr hq), hGA.call hS hU hW (bl_in hLS.2.2.2.2.1 hS hA)⟩⟩ rfl rfl hl.1 rfl (lv_room (Nat.le_of_ble_eq_true rfl)) dL_law_225 ⟨by show _ ≤ 600000; omega, by show _ ≤ 7302250; omega⟩) hLS hS hA (fun r1_ u_ H locs X T hp1 hLS hS => ?_)
  obtain ⟨e1_, rfl⟩ := hp1
  have hLS : Lst dC dI ad bS Y s A h0 m0 ik (vs.1, vs.2.1, vs.2.2.1, vs.2.2.2.1, vs.2.2.2.2.1, vs.2.2.2.2.2.1, vs.2.2.2.2.2.2.1, vs.2.2.2.2.2.2.2.1, vs.2.2.2.2.2.2.2.2.1, vs.2.2.2.2.2.2.2.2.2.1, vs.2.2.2.2.2.2.2.2.2.2.1, vs.2.2.2.2.2.2.2.2.2.2.2.1, edN vs.2.2.2.2.2.2.2.2.2.2.2.2 ((((xs (i + 1)).toInt64) <<< ((32 : Int32).toInt64 &&& 63)) ||| (((xs (i + 2)).toInt64) &&& 4294967295))) kvs tl im vm kvm tm X T M T2 H := hLS
  refine lv_pop hx hb dL_law_228 rfl ?_
  refine lv_aload_n hx hb dL_law_229 rfl (lv_at hl 2 rfl) ?_
  refine lv_aload_n hx hb dL_law_230 rfl (lv_at hl 0 rfl) ?_
  refine lv_iload_n hx hb dL_law_231 rfl (lv_at hl 3 rfl) ?_
  refine lv_iconst (v := 1) hx hb dL_law_232 (by decide) ?_
  refine lv_iadd hx hb dL_law_233 ?_
  refine qi_as (y := nI (i + 1)) (nI_add i 1) ?_
  refine va_sld hx hb hX hbl hbA hS (vp_in_nI (n := i + 1) (N := L) (by omega) (by omega)) dL_law_234 ?_
  refine qi_as (y := xs (i + 1)) (by rw [nI_clamp (by omega)]) ?_
  refine lv_i2l (v := (xs (i + 1)).toInt64) hx hb dL_law_235 (rfl) ?_
  refine lv_bipush (v := 32) hx hb dL_law_236 (by decide) ?_
  refine lv_lshl (v := ((xs (i + 1)).toInt64) <<< ((32 : Int32).toInt64 &&& 63)) hx hb dL_law_238 (rfl) ?_
  refine lv_aload_n hx hb dL_law_239 rfl (lv_at hl 0 rfl) ?_
  refine lv_iload_n hx hb dL_law_240 rfl (lv_at hl 3 rfl) ?_
  refine lv_iconst (v := 2) hx hb dL_law_241 (by decide) ?_
  refine lv_iadd hx hb dL_law_242 ?_
  refine qi_as (y := nI (i + 2)) (nI_add i 2) ?_
  refine va_sld hx hb hX hbl hbA hS (vp_in_nI (n := i + 2) (N := L) (by omega) (by omega)) dL_law_243 ?_
  refine qi_as (y := xs (i + 2)) (by rw [nI_clamp (by omega)]) ?_
  refine lv_i2l (v := (xs (i + 2)).toInt64) hx hb dL_law_244 (rfl) ?_
  refine lv_ldc2 (v := 4294967295) hx hb hown (hts (.constantLong RL 23 (4294967295)) kL_0) dL_law_245 ?_
  refine lv_land hx hb dL_law_248 ?_
  refine lv_lor hx hb dL_law_249 ?_
  refine lm_i (va_runV (As := [.long ((((xs (i + 1)).toInt64) <<< ((32 : Int32).toInt64 &&& 63)) ||| (((xs (i + 2)).toInt64) &&& 4294967295))]) (rest := []) ⟨hx, hb, hml, hown, hts⟩ (v_edges l dC dI sK sV im vm kvm tm T2 m0 M ((((xs (i + 1)).toInt64) <<< ((32 : Int32).toInt64 &&& 63)) ||| (((xs (i + 2)).toInt64) &&& 4294967295)) H.size) (cwV 1 hts gL_law_X12_edges rfl rfl rfl hd_yX12_edges ⟨Nat.le_of_ble_eq_true rfl, Nat.le_of_ble_eq_true rfl⟩) ⟨fun a U g mk q => by obtain ⟨q0, q1, qX, qK, qG⟩ := q; exact ⟨q0, q1, qX, va_K.moved (u := U) (U := U.calling g mk a) (Vm.Alike.refl U.vm) qK, qG.same rfl rfl⟩, hLS.2.1.recv hLS.2.2.2.1, fun U hU hW => ⟨rfl, by rw [hU], by rw [hU]; exact hLS.2.1, va_K.moved hW.alike hLS.2.2.2.1, hGA.2.2.2.2.2.2.call hS hU hW (bl_in hLS.2.2.2.2.2.1 hS hA)⟩⟩ rfl rfl hl.1 rfl (lv_room (Nat.le_of_ble_eq_true rfl)) dL_law_250 ⟨by show _ ≤ 600000; omega, by show _ ≤ 7302250; omega⟩) hLS hS hA (fun r2_ u_ H locs M hp2 hLS hS => ?_)
  obtain ⟨e2_, rfl⟩ := hp2
  have hLS : Lst dC dI ad bS Y s A h0 m0 ik (vs.1, vs.2.1, vs.2.2.1, vs.2.2.2.1, vs.2.2.2.2.1, vs.2.2.2.2.2.1, vs.2.2.2.2.2.2.1, vs.2.2.2.2.2.2.2.1, vs.2.2.2.2.2.2.2.2.1, vs.2.2.2.2.2.2.2.2.2.1, vs.2.2.2.2.2.2.2.2.2.2.1, vs.2.2.2.2.2.2.2.2.2.2.2.1, edN vs.2.2.2.2.2.2.2.2.2.2.2.2 ((((xs (i + 1)).toInt64) <<< ((32 : Int32).toInt64 &&& 63)) ||| (((xs (i + 2)).toInt64) &&& 4294967295))) kvs tl im (vm.1, vm.2.1, vm.2.2.1, vm.2.2.2.1, vm.2.2.2.2.1, vm.2.2.2.2.2.1, vm.2.2.2.2.2.2.1, vm.2.2.2.2.2.2.2.1, vm.2.2.2.2.2.2.2.2.1, vm.2.2.2.2.2.2.2.2.2.1, vm.2.2.2.2.2.2.2.2.2.2.1, vm.2.2.2.2.2.2.2.2.2.2.2.1, edN vm.2.2.2.2.2.2.2.2.2.2.2.2 ((((xs (i + 1)).toInt64) <<< ((32 : Int32).toInt64 &&& 63)) ||| (((xs (i + 2)).toInt64) &&& 4294967295))) kvm tm X T M T2 H := hLS
  refine lv_pop hx hb dL_law_253 rfl ?_
  refine lv_goto (tgt := 1108) hx hb dL_law_254 (by decide) ?_
  refine W.widen (k := cells + 8) (n := slots + 200) (by omega) (by omega) ?_
  exact kk ik (vs.1, vs.2.1, vs.2.2.1, vs.2.2.2.1, vs.2.2.2.2.1, vs.2.2.2.2.2.1, vs.2.2.2.2.2.2.1, vs.2.2.2.2.2.2.2.1, vs.2.2.2.2.2.2.2.2.1, vs.2.2.2.2.2.2.2.2.2.1, vs.2.2.2.2.2.2.2.2.2.2.1, vs.2.2.2.2.2.2.2.2.2.2.2.1, edN vs.2.2.2.2.2.2.2.2.2.2.2.2 ((((xs (i + 1)).toInt64) <<< ((32 : Int32).toInt64 &&& 63)) ||| (((xs (i + 2)).toInt64) &&& 4294967295))) kvs tl im (vm.1, vm.2.1, vm.2.2.1, vm.2.2.2.1, vm.2.2.2.2.1, vm.2.2.2.2.2.1, vm.2.2.2.2.2.2.1, vm.2.2.2.2.2.2.2.1, vm.2.2.2.2.2.2.2.2.1, vm.2.2.2.2.2.2.2.2.2.1, vm.2.2.2.2.2.2.2.2.2.2.1, vm.2.2.2.2.2.2.2.2.2.2.2.1, edN vm.2.2.2.2.2.2.2.2.2.2.2.2 ((((xs (i + 1)).toInt64) <<< ((32 : Int32).toInt64 &&& 63)) ||| (((xs (i + 2)).toInt64) &&& 4294967295))) kvm tm X T M H locs hLS ⟨hcp.1, by rw [hcp.2.1], hcp.2.2⟩ hS

set_option maxHeartbeats 4000000 in
set_option maxRecDepth 100000 in
theorem lc_3 {p : Program} {l : Launch} {e : Env} {s : State} {m : MethodId} {below : List Frame} {meth : Method} {c : Code} {b L : Nat} {xs : Nat → Int32} {A : Nat → Prop} (hAe : A = fun q => s.heap.size ≤ q) (C0 : lw_At p s m meth c b L xs) (dC : Nat → ClassId) (dI : Nat → Nat → Nat) (gd : Nat → Nat) (kA : Nat) (ad : Nat → Nat) (cB bS : Nat) (sK sV : Nat → Nat) (Y : Nat → Prop) (h0 m0 : Nat) (ik : Int32) (vs kvs : VS) (tl : List Nat) (im : Int32) (vm kvm : VS) (tm : List Nat) (X : va_W) (T : List (ClassId × FieldType)) (M : va_W) (T2 : List (ClassId × FieldType)) (hGA : GA gd kA ad cB bS sK sV A s) (i : Nat) (hi : i + 5 ≤ L) (hL : L ≤ 320) (H : Heap) (locs : List Loc) (hLS : Lst dC dI ad bS Y s A h0 m0 ik vs kvs tl im vm kvm tm X T M T2 H) (cells slots : Nat) (hc0 : cells ≤ 590000) (hs0 : slots ≤ 7000000) (hS : va_S A s.heap H locs) (ls : Array Slot) (hl : lv_has ls 4 [(0, .ref b), (1, .ref h0), (2, .ref m0), (3, .int (nI i))]) (hcp : ik = im ∧ vs = vm ∧ (im = 0 ∨ kvs = kvm) ∧ tl = tm) (kk : ∀ (ik : Int32) (vs kvs : VS) (tl : List Nat) (im : Int32) (vm kvm : VS) (tm : List Nat) (X : va_W) (T : List (ClassId × FieldType)) (M : va_W) (H : Heap) (locs : List Loc), Lst dC dI ad bS Y s A h0 m0 ik vs kvs tl im vm kvm tm X T M T2 H → (ik = im ∧ vs = vm ∧ (im = 0 ∨ kvs = kvm) ∧ tl = tm) → va_S A s.heap H locs → W p l e room_1 s m #[Value.ref b] below meth c H locs (cells + 8) (slots + 200) (lw_Z below #[Value.ref b] s) (F0 m 1108 ls [])) : W p l e room_1 s m #[Value.ref b] below meth c H locs cells slots (lw_Z below #[Value.ref b] s) (F0 m 257 ls []) := by
  obtain ⟨hx, hb, hr, hml, hown, hts0, hX, hbl, hlocks, hgv⟩ := id C0
  have hown : s.vm.findClass RL = some m.cls := hown
  have hb : c.code = cL_law := hb
  have hts : ∀ w ∈ lw_tbl, w.before #[Value.ref b] s = true := fun w h => hts0 w (wsL_law_in w h)
  have hA : ∀ q : Nat, s.heap.size ≤ q → A q := fun q h => by rw [hAe]; exact h
  have hbA : ¬ A b := by rw [hAe]; exact Nat.not_le.mpr hbl
  refine lv_aload_n hx hb dL_law_257 rfl (lv_at hl 1 rfl) ?_
  refine lv_aload_n hx hb dL_law_258 rfl (lv_at hl 0 rfl) ?_
  refine lv_iload_n hx hb dL_law_259 rfl (lv_at hl 3 rfl) ?_
  refine lv_iconst (v := 1) hx hb dL_law_260 (by decide) ?_
  refine lv_iadd hx hb dL_law_261 ?_
  refine qi_as (y := nI (i + 1)) (nI_add i 1) ?_
  refine va_sld hx hb hX hbl hbA hS (vp_in_nI (n := i + 1) (N := L) (by omega) (by omega)) dL_law_262 ?_
  refine qi_as (y := xs (i + 1)) (by rw [nI_clamp (by omega)]) ?_
  refine lv_aload_n hx hb dL_law_263 rfl (lv_at hl 0 rfl) ?_
  refine lv_iload_n hx hb dL_law_264 rfl (lv_at hl 3 rfl) ?_
  refine lv_iconst (v := 2) hx hb dL_law_265 (by decide) ?_
  refine lv_iadd hx hb dL_law_266 ?_
  refine qi_as (y := nI (i + 2)) (nI_add i 2) ?_
  refine va_sld hx hb hX hbl hbA hS (vp_in_nI (n := i + 2) (N := L) (by omega) (by omega)) dL_law_267 ?_
  refine qi_as (y := xs (i + 2)) (by rw [nI_clamp (by omega)]) ?_
  refine lx_i (va_runV (As := [.int (xs (i + 1)), .int (xs (i + 2))]) (rest := []) ⟨hx, hb, hml, hown, hts⟩ (w_set l dC dI gd kA ad cB bS sK sV Y ik vs kvs tl T h0 X (xs (i + 1)) (xs (i + 2)) H.size) (cwV 2 hts gL_law_X11_set rfl rfl rfl hd_yX11_set ⟨Nat.le_of_ble_eq_true rfl, Nat.le_of_ble_eq_true rfl⟩) ⟨fun a U g mk q => by obtain ⟨q0, q1, qX, qK, qY1, qY2, qG⟩ := q; exact ⟨q0, q1, qX, va_K.moved (u := U) (U := U.calling g mk a) (Vm.Alike.refl U.vm) qK, qY1, qY2, qG.same rfl rfl⟩, hLS.1.recv hLS.2.2.1, fun U hU hW => ⟨rfl, by rw [hU], by rw [hU]; exact hLS.1, va_K.moved hW.alike hLS.2.2.1, hLS.2.2.2.2.2.2.1, fun q hq hy => absurd (hLS.2.2.2.2.2.2.2.2 q hy) (Nat.not_lt.mpr hq), hGA.call hS hU hW (bl_in hLS.2.2.2.2.1 hS hA)⟩⟩ rfl rfl hl.1 rfl (lv_room (Nat.le_of_ble_eq_true rfl)) dL_law_268 ⟨by show _ ≤ 600000; omega, by show _ ≤ 7302250; omega⟩) hLS hS hA (fun r1_ u_ H locs X T hp1 hLS hS => ?_)
  obtain ⟨e1_, rfl⟩ := hp1
  have hLS : Lst dC dI ad bS Y s A h0 m0 ik (vs.1, vs.2.1, vs.2.2.1, stM vs.2.2.2.1 (xs (i + 1)) (xs (i + 2)), stN vs.2.2.2.2.1 (xs (i + 1)) (xs (i + 2)), vs.2.2.2.2.2.1, vs.2.2.2.2.2.2.1, vs.2.2.2.2.2.2.2.1, vs.2.2.2.2.2.2.2.2.1, vs.2.2.2.2.2.2.2.2.2.1, vs.2.2.2.2.2.2.2.2.2.2.1, vs.2.2.2.2.2.2.2.2.2.2.2.1, vs.2.2.2.2.2.2.2.2.2.2.2.2) kvs tl im vm kvm tm X T M T2 H := hLS
  refine lv_pop hx hb dL_law_271 rfl ?_
  refine lv_aload_n hx hb dL_law_272 rfl (lv_at hl 2 rfl) ?_
  refine lv_aload_n hx hb dL_law_273 rfl (lv_at hl 0 rfl) ?_
  refine lv_iload_n hx hb dL_law_274 rfl (lv_at hl 3 rfl) ?_
  refine lv_iconst (v := 1) hx hb dL_law_275 (by decide) ?_
  refine lv_iadd hx hb dL_law_276 ?_
  refine qi_as (y := nI (i + 1)) (nI_add i 1) ?_
  refine va_sld hx hb hX hbl hbA hS (vp_in_nI (n := i + 1) (N := L) (by omega) (by omega)) dL_law_277 ?_
  refine qi_as (y := xs (i + 1)) (by rw [nI_clamp (by omega)]) ?_
  refine lv_aload_n hx hb dL_law_278 rfl (lv_at hl 0 rfl) ?_
  refine lv_iload_n hx hb dL_law_279 rfl (lv_at hl 3 rfl) ?_
  refine lv_iconst (v := 2) hx hb dL_law_280 (by decide) ?_
  refine lv_iadd hx hb dL_law_281 ?_
  refine qi_as (y := nI (i + 2)) (nI_add i 2) ?_
  refine va_sld hx hb hX hbl hbA hS (vp_in_nI (n := i + 2) (N := L) (by omega) (by omega)) dL_law_282 ?_
  refine qi_as (y := xs (i + 2)) (by rw [nI_clamp (by omega)]) ?_
  refine lm_i (va_runV (As := [.int (xs (i + 1)), .int (xs (i + 2))]) (rest := []) ⟨hx, hb, hml, hown, hts⟩ (v_set l dC dI sK sV im vm kvm tm T2 m0 M (xs (i + 1)) (xs (i + 2)) H.size) (cwV 2 hts gL_law_X12_set rfl rfl rfl hd_yX12_set ⟨Nat.le_of_ble_eq_true rfl, Nat.le_of_ble_eq_true rfl⟩) ⟨fun a U g mk q => by obtain ⟨q0, q1, qX, qK, qG⟩ := q; exact ⟨q0, q1, qX, va_K.moved (u := U) (U := U.calling g mk a) (Vm.Alike.refl U.vm) qK, qG.same rfl rfl⟩, hLS.2.1.recv hLS.2.2.2.1, fun U hU hW => ⟨rfl, by rw [hU], by rw [hU]; exact hLS.2.1, va_K.moved hW.alike hLS.2.2.2.1, hGA.2.2.2.2.2.2.call hS hU hW (bl_in hLS.2.2.2.2.2.1 hS hA)⟩⟩ rfl rfl hl.1 rfl (lv_room (Nat.le_of_ble_eq_true rfl)) dL_law_283 ⟨by show _ ≤ 600000; omega, by show _ ≤ 7302250; omega⟩) hLS hS hA (fun r2_ u_ H locs M hp2 hLS hS => ?_)
  obtain ⟨e2_, rfl⟩ := hp2
  have hLS : Lst dC dI ad bS Y s A h0 m0 ik (vs.1, vs.2.1, vs.2.2.1, stM vs.2.2.2.1 (xs (i + 1)) (xs (i + 2)), stN vs.2.2.2.2.1 (xs (i + 1)) (xs (i + 2)), vs.2.2.2.2.2.1, vs.2.2.2.2.2.2.1, vs.2.2.2.2.2.2.2.1, vs.2.2.2.2.2.2.2.2.1, vs.2.2.2.2.2.2.2.2.2.1, vs.2.2.2.2.2.2.2.2.2.2.1, vs.2.2.2.2.2.2.2.2.2.2.2.1, vs.2.2.2.2.2.2.2.2.2.2.2.2) kvs tl im (vm.1, vm.2.1, vm.2.2.1, stM vm.2.2.2.1 (xs (i + 1)) (xs (i + 2)), stN vm.2.2.2.2.1 (xs (i + 1)) (xs (i + 2)), vm.2.2.2.2.2.1, vm.2.2.2.2.2.2.1, vm.2.2.2.2.2.2.2.1, vm.2.2.2.2.2.2.2.2.1, vm.2.2.2.2.2.2.2.2.2.1, vm.2.2.2.2.2.2.2.2.2.2.1, vm.2.2.2.2.2.2.2.2.2.2.2.1, vm.2.2.2.2.2.2.2.2.2.2.2.2) kvm tm X T M T2 H := hLS
  refine lv_pop hx hb dL_law_286 rfl ?_
  refine lv_goto (tgt := 1108) hx hb dL_law_287 (by decide) ?_
  refine W.widen (k := cells + 8) (n := slots + 200) (by omega) (by omega) ?_
  exact kk ik (vs.1, vs.2.1, vs.2.2.1, stM vs.2.2.2.1 (xs (i + 1)) (xs (i + 2)), stN vs.2.2.2.2.1 (xs (i + 1)) (xs (i + 2)), vs.2.2.2.2.2.1, vs.2.2.2.2.2.2.1, vs.2.2.2.2.2.2.2.1, vs.2.2.2.2.2.2.2.2.1, vs.2.2.2.2.2.2.2.2.2.1, vs.2.2.2.2.2.2.2.2.2.2.1, vs.2.2.2.2.2.2.2.2.2.2.2.1, vs.2.2.2.2.2.2.2.2.2.2.2.2) kvs tl im (vm.1, vm.2.1, vm.2.2.1, stM vm.2.2.2.1 (xs (i + 1)) (xs (i + 2)), stN vm.2.2.2.2.1 (xs (i + 1)) (xs (i + 2)), vm.2.2.2.2.2.1, vm.2.2.2.2.2.2.1, vm.2.2.2.2.2.2.2.1, vm.2.2.2.2.2.2.2.2.1, vm.2.2.2.2.2.2.2.2.2.1, vm.2.2.2.2.2.2.2.2.2.2.1, vm.2.2.2.2.2.2.2.2.2.2.2.1, vm.2.2.2.2.2.2.2.2.2.2.2.2) kvm tm X T M H locs hLS ⟨hcp.1, by rw [hcp.2.1], hcp.2.2⟩ hS
