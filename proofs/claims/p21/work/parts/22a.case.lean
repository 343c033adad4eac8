section mg22a
noncomputable def dk22acase_cL_law_0 : List (Nat × List Nat) := [(168, [43]), (169, [42]), (170, [29]), (171, [4]), (172, [96]), (173, [46]), (174, [182, 0, 13]), (177, [87]), (178, [44]), (179, [42]), (180, [29]), (181, [4]), (182, [96]), (183, [46]), (184, [182, 0, 17]), (187, [87]), (188, [167, 3, 152]), (191, [43]), (192, [182, 0, 18]), (195, [87]), (196, [44]), (197, [182, 0, 22]), (200, [87]), (201, [167, 3, 139]), (204, [43]), (205, [42]), (206, [29]), (207, [4]), (208, [96]), (209, [46]), (210, [133]), (211, [16, 32]), (213, [121]), (214, [42]), (215, [29]), (216, [5]), (217, [96]), (218, [46]), (219, [133]), (220, [20, 0, 23])]
set_option maxRecDepth 100000 in
theorem dk22acase_cL_law_0_a : btA cL_law dk22acase_cL_law_0 = true := by decide +kernel
theorem dL_law_168 : decode cL_law 168 = .ok (.aload_n 1, 1) := bd43 (btAt dk22acase_cL_law_0_a 0 rfl)
theorem dL_law_169 : decode cL_law 169 = .ok (.aload_n 0, 1) := bd42 (btAt dk22acase_cL_law_0_a 1 rfl)
theorem dL_law_170 : decode cL_law 170 = .ok (.iload_n 3, 1) := bd29 (btAt dk22acase_cL_law_0_a 2 rfl)
theorem dL_law_171 : decode cL_law 171 = .ok (.iconst 1, 1) := bd4 (btAt dk22acase_cL_law_0_a 3 rfl)
theorem dL_law_172 : decode cL_law 172 = .ok (.iadd, 1) := bd96 (btAt dk22acase_cL_law_0_a 4 rfl)
theorem dL_law_173 : decode cL_law 173 = .ok (.iaload, 1) := bd46 (btAt dk22acase_cL_law_0_a 5 rfl)
theorem dL_law_174 : decode cL_law 174 = .ok (.invokevirtual 13, 3) := bd182 (a := 0) (b := 13) (btAt dk22acase_cL_law_0_a 6 rfl)
theorem dL_law_177 : decode cL_law 177 = .ok (.pop, 1) := bd87 (btAt dk22acase_cL_law_0_a 7 rfl)
theorem dL_law_178 : decode cL_law 178 = .ok (.aload_n 2, 1) := bd44 (btAt dk22acase_cL_law_0_a 8 rfl)
theorem dL_law_179 : decode cL_law 179 = .ok (.aload_n 0, 1) := bd42 (btAt dk22acase_cL_law_0_a 9 rfl)
theorem dL_law_180 : decode cL_law 180 = .ok (.iload_n 3, 1) := bd29 (btAt dk22acase_cL_law_0_a 10 rfl)
theorem dL_law_181 : decode cL_law 181 = .ok (.iconst 1, 1) := bd4 (btAt dk22acase_cL_law_0_a 11 rfl)
theorem dL_law_182 : decode cL_law 182 = .ok (.iadd, 1) := bd96 (btAt dk22acase_cL_law_0_a 12 rfl)
theorem dL_law_183 : decode cL_law 183 = .ok (.iaload, 1) := bd46 (btAt dk22acase_cL_law_0_a 13 rfl)
theorem dL_law_184 : decode cL_law 184 = .ok (.invokevirtual 17, 3) := bd182 (a := 0) (b := 17) (btAt dk22acase_cL_law_0_a 14 rfl)
theorem dL_law_187 : decode cL_law 187 = .ok (.pop, 1) := bd87 (btAt dk22acase_cL_law_0_a 15 rfl)
theorem dL_law_188 : decode cL_law 188 = .ok (.goto 920, 3) := bd167 (a := 3) (b := 152) (btAt dk22acase_cL_law_0_a 16 rfl)
theorem dL_law_191 : decode cL_law 191 = .ok (.aload_n 1, 1) := bd43 (btAt dk22acase_cL_law_0_a 17 rfl)
theorem dL_law_192 : decode cL_law 192 = .ok (.invokevirtual 18, 3) := bd182 (a := 0) (b := 18) (btAt dk22acase_cL_law_0_a 18 rfl)
theorem dL_law_195 : decode cL_law 195 = .ok (.pop, 1) := bd87 (btAt dk22acase_cL_law_0_a 19 rfl)
theorem dL_law_196 : decode cL_law 196 = .ok (.aload_n 2, 1) := bd44 (btAt dk22acase_cL_law_0_a 20 rfl)
theorem dL_law_197 : decode cL_law 197 = .ok (.invokevirtual 22, 3) := bd182 (a := 0) (b := 22) (btAt dk22acase_cL_law_0_a 21 rfl)
theorem dL_law_200 : decode cL_law 200 = .ok (.pop, 1) := bd87 (btAt dk22acase_cL_law_0_a 22 rfl)
theorem dL_law_201 : decode cL_law 201 = .ok (.goto 907, 3) := bd167 (a := 3) (b := 139) (btAt dk22acase_cL_law_0_a 23 rfl)
theorem dL_law_204 : decode cL_law 204 = .ok (.aload_n 1, 1) := bd43 (btAt dk22acase_cL_law_0_a 24 rfl)
theorem dL_law_205 : decode cL_law 205 = .ok (.aload_n 0, 1) := bd42 (btAt dk22acase_cL_law_0_a 25 rfl)
theorem dL_law_206 : decode cL_law 206 = .ok (.iload_n 3, 1) := bd29 (btAt dk22acase_cL_law_0_a 26 rfl)
theorem dL_law_207 : decode cL_law 207 = .ok (.iconst 1, 1) := bd4 (btAt dk22acase_cL_law_0_a 27 rfl)
theorem dL_law_208 : decode cL_law 208 = .ok (.iadd, 1) := bd96 (btAt dk22acase_cL_law_0_a 28 rfl)
theorem dL_law_209 : decode cL_law 209 = .ok (.iaload, 1) := bd46 (btAt dk22acase_cL_law_0_a 29 rfl)
theorem dL_law_210 : decode cL_law 210 = .ok (.i2l, 1) := bd133 (btAt dk22acase_cL_law_0_a 30 rfl)
theorem dL_law_211 : decode cL_law 211 = .ok (.bipush 32, 2) := bd16 (a := 32) (btAt dk22acase_cL_law_0_a 31 rfl)
theorem dL_law_213 : decode cL_law 213 = .ok (.lshl, 1) := bd121 (btAt dk22acase_cL_law_0_a 32 rfl)
theorem dL_law_214 : decode cL_law 214 = .ok (.aload_n 0, 1) := bd42 (btAt dk22acase_cL_law_0_a 33 rfl)
theorem dL_law_215 : decode cL_law 215 = .ok (.iload_n 3, 1) := bd29 (btAt dk22acase_cL_law_0_a 34 rfl)
theorem dL_law_216 : decode cL_law 216 = .ok (.iconst 2, 1) := bd5 (btAt dk22acase_cL_law_0_a 35 rfl)
theorem dL_law_217 : decode cL_law 217 = .ok (.iadd, 1) := bd96 (btAt dk22acase_cL_law_0_a 36 rfl)
theorem dL_law_218 : decode cL_law 218 = .ok (.iaload, 1) := bd46 (btAt dk22acase_cL_law_0_a 37 rfl)
theorem dL_law_219 : decode cL_law 219 = .ok (.i2l, 1) := bd133 (btAt dk22acase_cL_law_0_a 38 rfl)
theorem dL_law_220 : decode cL_law 220 = .ok (.ldc2_w 23, 3) := bd20 (a := 0) (b := 23) (btAt dk22acase_cL_law_0_a 39 rfl)
noncomputable def dk22acase_cL_law_40 : List (Nat × List Nat) := [(223, [127]), (224, [129]), (225, [182, 0, 25]), (228, [87]), (229, [44]), (230, [42]), (231, [29]), (232, [4]), (233, [96]), (234, [46]), (235, [133]), (236, [16, 32]), (238, [121]), (239, [42]), (240, [29]), (241, [5]), (242, [96]), (243, [46]), (244, [133]), (245, [20, 0, 23]), (248, [127]), (249, [129]), (250, [182, 0, 29]), (253, [87]), (254, [167, 3, 86]), (257, [43]), (258, [42]), (259, [29]), (260, [4]), (261, [96]), (262, [46]), (263, [42]), (264, [29]), (265, [5]), (266, [96]), (267, [46]), (268, [182, 0, 30]), (271, [87]), (272, [44]), (273, [42])]
set_option maxRecDepth 100000 in
theorem dk22acase_cL_law_40_a : btA cL_law dk22acase_cL_law_40 = true := by decide +kernel
theorem dL_law_223 : decode cL_law 223 = .ok (.land, 1) := bd127 (btAt dk22acase_cL_law_40_a 0 rfl)
theorem dL_law_224 : decode cL_law 224 = .ok (.lor, 1) := bd129 (btAt dk22acase_cL_law_40_a 1 rfl)
theorem dL_law_225 : decode cL_law 225 = .ok (.invokevirtual 25, 3) := bd182 (a := 0) (b := 25) (btAt dk22acase_cL_law_40_a 2 rfl)
theorem dL_law_228 : decode cL_law 228 = .ok (.pop, 1) := bd87 (btAt dk22acase_cL_law_40_a 3 rfl)
theorem dL_law_229 : decode cL_law 229 = .ok (.aload_n 2, 1) := bd44 (btAt dk22acase_cL_law_40_a 4 rfl)
theorem dL_law_230 : decode cL_law 230 = .ok (.aload_n 0, 1) := bd42 (btAt dk22acase_cL_law_40_a 5 rfl)
theorem dL_law_231 : decode cL_law 231 = .ok (.iload_n 3, 1) := bd29 (btAt dk22acase_cL_law_40_a 6 rfl)
theorem dL_law_232 : decode cL_law 232 = .ok (.iconst 1, 1) := bd4 (btAt dk22acase_cL_law_40_a 7 rfl)
theorem dL_law_233 : decode cL_law 233 = .ok (.iadd, 1) := bd96 (btAt dk22acase_cL_law_40_a 8 rfl)
theorem dL_law_234 : decode cL_law 234 = .ok (.iaload, 1) := bd46 (btAt dk22acase_cL_law_40_a 9 rfl)
theorem dL_law_235 : decode cL_law 235 = .ok (.i2l, 1) := bd133 (btAt dk22acase_cL_law_40_a 10 rfl)
theorem dL_law_236 : decode cL_law 236 = .ok (.bipush 32, 2) := bd16 (a := 32) (btAt dk22acase_cL_law_40_a 11 rfl)
theorem dL_law_238 : decode cL_law 238 = .ok (.lshl, 1) := bd121 (btAt dk22acase_cL_law_40_a 12 rfl)
theorem dL_law_239 : decode cL_law 239 = .ok (.aload_n 0, 1) := bd42 (btAt dk22acase_cL_law_40_a 13 rfl)
theorem dL_law_240 : decode cL_law 240 = .ok (.iload_n 3, 1) := bd29 (btAt dk22acase_cL_law_40_a 14 rfl)
theorem dL_law_241 : decode cL_law 241 = .ok (.iconst 2, 1) := bd5 (btAt dk22acase_cL_law_40_a 15 rfl)
theorem dL_law_242 : decode cL_law 242 = .ok (.iadd, 1) := bd96 (btAt dk22acase_cL_law_40_a 16 rfl)
theorem dL_law_243 : decode cL_law 243 = .ok (.iaload, 1) := bd46 (btAt dk22acase_cL_law_40_a 17 rfl)
theorem dL_law_244 : decode cL_law 244 = .ok (.i2l, 1) := bd133 (btAt dk22acase_cL_law_40_a 18 rfl)
theorem dL_law_245 : decode cL_law 245 = .ok (.ldc2_w 23, 3) := bd20 (a := 0) (b := 23) (btAt dk22acase_cL_law_40_a 19 rfl)
theorem dL_law_248 : decode cL_law 248 = .ok (.land, 1) := bd127 (btAt dk22acase_cL_law_40_a 20 rfl)
theorem dL_law_249 : decode cL_law 249 = .ok (.lor, 1) := bd129 (btAt dk22acase_cL_law_40_a 21 rfl)
theorem dL_law_250 : decode cL_law 250 = .ok (.invokevirtual 29, 3) := bd182 (a := 0) (b := 29) (btAt dk22acase_cL_law_40_a 22 rfl)
theorem dL_law_253 : decode cL_law 253 = .ok (.pop, 1) := bd87 (btAt dk22acase_cL_law_40_a 23 rfl)
theorem dL_law_254 : decode cL_law 254 = .ok (.goto 854, 3) := bd167 (a := 3) (b := 86) (btAt dk22acase_cL_law_40_a 24 rfl)
theorem dL_law_257 : decode cL_law 257 = .ok (.aload_n 1, 1) := bd43 (btAt dk22acase_cL_law_40_a 25 rfl)
theorem dL_law_258 : decode cL_law 258 = .ok (.aload_n 0, 1) := bd42 (btAt dk22acase_cL_law_40_a 26 rfl)
theorem dL_law_259 : decode cL_law 259 = .ok (.iload_n 3, 1) := bd29 (btAt dk22acase_cL_law_40_a 27 rfl)
theorem dL_law_260 : decode cL_law 260 = .ok (.iconst 1, 1) := bd4 (btAt dk22acase_cL_law_40_a 28 rfl)
theorem dL_law_261 : decode cL_law 261 = .ok (.iadd, 1) := bd96 (btAt dk22acase_cL_law_40_a 29 rfl)
theorem dL_law_262 : decode cL_law 262 = .ok (.iaload, 1) := bd46 (btAt dk22acase_cL_law_40_a 30 rfl)
theorem dL_law_263 : decode cL_law 263 = .ok (.aload_n 0, 1) := bd42 (btAt dk22acase_cL_law_40_a 31 rfl)
theorem dL_law_264 : decode cL_law 264 = .ok (.iload_n 3, 1) := bd29 (btAt dk22acase_cL_law_40_a 32 rfl)
theorem dL_law_265 : decode cL_law 265 = .ok (.iconst 2, 1) := bd5 (btAt dk22acase_cL_law_40_a 33 rfl)
theorem dL_law_266 : decode cL_law 266 = .ok (.iadd, 1) := bd96 (btAt dk22acase_cL_law_40_a 34 rfl)
theorem dL_law_267 : decode cL_law 267 = .ok (.iaload, 1) := bd46 (btAt dk22acase_cL_law_40_a 35 rfl)
theorem dL_law_268 : decode cL_law 268 = .ok (.invokevirtual 30, 3) := bd182 (a := 0) (b := 30) (btAt dk22acase_cL_law_40_a 36 rfl)
theorem dL_law_271 : decode cL_law 271 = .ok (.pop, 1) := bd87 (btAt dk22acase_cL_law_40_a 37 rfl)
theorem dL_law_272 : decode cL_law 272 = .ok (.aload_n 2, 1) := bd44 (btAt dk22acase_cL_law_40_a 38 rfl)
theorem dL_law_273 : decode cL_law 273 = .ok (.aload_n 0, 1) := bd42 (btAt dk22acase_cL_law_40_a 39 rfl)
noncomputable def dk22acase_cL_law_80 : List (Nat × List Nat) := [(274, [29]), (275, [4]), (276, [96]), (277, [46]), (278, [42]), (279, [29]), (280, [5]), (281, [96]), (282, [46]), (283, [182, 0, 34]), (286, [87]), (287, [167, 3, 53])]
set_option maxRecDepth 100000 in
theorem dk22acase_cL_law_80_a : btA cL_law dk22acase_cL_law_80 = true := by decide +kernel
theorem dL_law_274 : decode cL_law 274 = .ok (.iload_n 3, 1) := bd29 (btAt dk22acase_cL_law_80_a 0 rfl)
theorem dL_law_275 : decode cL_law 275 = .ok (.iconst 1, 1) := bd4 (btAt dk22acase_cL_law_80_a 1 rfl)
theorem dL_law_276 : decode cL_law 276 = .ok (.iadd, 1) := bd96 (btAt dk22acase_cL_law_80_a 2 rfl)
theorem dL_law_277 : decode cL_law 277 = .ok (.iaload, 1) := bd46 (btAt dk22acase_cL_law_80_a 3 rfl)
theorem dL_law_278 : decode cL_law 278 = .ok (.aload_n 0, 1) := bd42 (btAt dk22acase_cL_law_80_a 4 rfl)
theorem dL_law_279 : decode cL_law 279 = .ok (.iload_n 3, 1) := bd29 (btAt dk22acase_cL_law_80_a 5 rfl)
theorem dL_law_280 : decode cL_law 280 = .ok (.iconst 2, 1) := bd5 (btAt dk22acase_cL_law_80_a 6 rfl)
theorem dL_law_281 : decode cL_law 281 = .ok (.iadd, 1) := bd96 (btAt dk22acase_cL_law_80_a 7 rfl)
theorem dL_law_282 : decode cL_law 282 = .ok (.iaload, 1) := bd46 (btAt dk22acase_cL_law_80_a 8 rfl)
theorem dL_law_283 : decode cL_law 283 = .ok (.invokevirtual 34, 3) := bd182 (a := 0) (b := 34) (btAt dk22acase_cL_law_80_a 9 rfl)
theorem dL_law_286 : decode cL_law 286 = .ok (.pop, 1) := bd87 (btAt dk22acase_cL_law_80_a 10 rfl)
theorem dL_law_287 : decode cL_law 287 = .ok (.goto 821, 3) := bd167 (a := 3) (b := 53) (btAt dk22acase_cL_law_80_a 11 rfl)
theorem kL_0 : (.constantLong RL 23 (4294967295) : Cond) ∈ lw_tbl := kl_of 1541 rfl rfl
theorem kL_1 : (.classLink RL 7 RX11 : Cond) ∈ lw_tbl := kl_of 93 rfl rfl
theorem kL_2 : (.instantiable RX11 7 : Cond) ∈ lw_tbl := kl_of 94 rfl rfl
theorem kL_3 : (.initialized RX11 : Cond) ∈ lw_tbl := kl_of 63 rfl rfl
theorem kL_4 : (.methodLink RL 9 yX11_init : Cond) ∈ lw_tbl := kl_of 95 rfl rfl
theorem kL_5 : (.instanceMethod yX11_init : Cond) ∈ lw_tbl := kl_of 96 rfl rfl
theorem kL_6 : (.classLink RL 10 RX12 : Cond) ∈ lw_tbl := kl_of 1135 rfl rfl
theorem kL_7 : (.instantiable RX12 23 : Cond) ∈ lw_tbl := kl_of 1136 rfl rfl
theorem kL_8 : (.initialized RX12 : Cond) ∈ lw_tbl := kl_of 72 rfl rfl
theorem kL_9 : (.methodLink RL 12 yX12_init : Cond) ∈ lw_tbl := kl_of 1137 rfl rfl
theorem kL_10 : (.instanceMethod yX12_init : Cond) ∈ lw_tbl := kl_of 1138 rfl rfl
set_option maxHeartbeats 4000000 in
set_option maxRecDepth 100000 in
theorem lc_0 {p : Program} {l : Launch} {e : Env} {s : State} {m : MethodId} {below : List Frame} {meth : Method} {c : Code} {b L : Nat} {xs : Nat → Int32} {A : Nat → Prop} (hAe : A = fun q => s.heap.size ≤ q) (C0 : lw_At p s m meth c b L xs) (dC : Nat → ClassId) (dI : Nat → Nat → Nat) (gd : Nat → Nat) (kA : Nat) (ad : Nat → Nat) (cB bS : Nat) (sK sV : Nat → Nat) (Y : Nat → Prop) (h0 m0 : Nat) (ik : Int32) (vs kvs : VS) (tl : List Nat) (im : Int32) (vm kvm : VS) (tm : List Nat) (X : va_W) (T : List (ClassId × FieldType)) (M : va_W) (T2 : List (ClassId × FieldType)) (hGA : GA gd kA ad cB bS sK sV A s) (i : Nat) (hi : i + 5 ≤ L) (hL : L ≤ 320) (H : Heap) (locs : List Loc) (hLS : Lst dC dI ad bS Y s A h0 m0 ik vs kvs tl im vm kvm tm X T M T2 H) (cells slots : Nat) (hc0 : cells ≤ 590000) (hs0 : slots ≤ 7000000) (hS : va_S A s.heap H locs) (ls : Array Slot) (hl : lv_has ls 4 [(0, .ref b), (1, .ref h0), (2, .ref m0), (3, .int (nI i))]) (hcp : ik = im ∧ vs = vm ∧ (im = 0 ∨ kvs = kvm) ∧ tl = tm) (kk : ∀ (ik : Int32) (vs kvs : VS) (tl : List Nat) (im : Int32) (vm kvm : VS) (tm : List Nat) (X : va_W) (T : List (ClassId × FieldType)) (M : va_W) (H : Heap) (locs : List Loc), Lst dC dI ad bS Y s A h0 m0 ik vs kvs tl im vm kvm tm X T M T2 H → (ik = im ∧ vs = vm ∧ (im = 0 ∨ kvs = kvm) ∧ tl = tm) → va_S A s.heap H locs → W p l e room_1 s m #[Value.ref b] below meth c H locs (cells + 8) (slots + 200) (lw_Z below #[Value.ref b] s) (F0 m 1108 ls [])) : W p l e room_1 s m #[Value.ref b] below meth c H locs cells slots (lw_Z below #[Value.ref b] s) (F0 m 168 ls []) := by
  obtain ⟨hx, hb, hr, hml, hown, hts0, hX, hbl, hlocks, hgv⟩ := id C0
  have hown : s.vm.findClass RL = some m.cls := hown
  have hb : c.code = cL_law := hb
  have hts : ∀ w ∈ lw_tbl, w.before #[Value.ref b] s = true := fun w h => hts0 w (wsL_law_in w h)
  have hA : ∀ q : Nat, s.heap.size ≤ q → A q := fun q h => by rw [hAe]; exact h
  have hbA : ¬ A b := by rw [hAe]; exact Nat.not_le.mpr hbl
  refine lv_aload_n hx hb dL_law_168 rfl (lv_at hl 1 rfl) ?_
  refine lv_aload_n hx hb dL_law_169 rfl (lv_at hl 0 rfl) ?_
  refine lv_iload_n hx hb dL_law_170 rfl (lv_at hl 3 rfl) ?_
  refine lv_iconst (v := 1) hx hb dL_law_171 (by decide) ?_
  refine lv_iadd hx hb dL_law_172 ?_
  refine qi_as (y := nI (i + 1)) (nI_add i 1) ?_
  refine va_sld hx hb hX hbl hbA hS (vp_in_nI (n := i + 1) (N := L) (by omega) (by omega)) dL_law_173 ?_
  refine qi_as (y := xs (i + 1)) (by rw [nI_clamp (by omega)]) ?_
  refine lx_i (va_runV (As := [.int (xs (i + 1))]) (rest := []) ⟨hx, hb, hml, hown, hts⟩ (w_feed l dC dI gd kA ad cB bS sK sV Y ik vs kvs tl T h0 X (xs (i + 1)) H.size) (cwV 1 hts gL_law_X11_feed rfl rfl rfl hd_yX11_feed ⟨Nat.le_of_ble_eq_true rfl, Nat.le_of_ble_eq_true rfl⟩) ⟨fun a U g mk q => by obtain ⟨q0, q1, qX, qK, qY1, qY2, qG⟩ := q; exact ⟨q0, mvz g mk a q1, qX, mvK g mk a qK, qY1, qY2, qG.same rfl rfl⟩, hLS.1.recv hLS.2.2.1, fun U hU hW => ⟨rfl, by rw [hU], by rw [hU]; exact hLS.1, va_K.moved hW.alike hLS.2.2.1, hLS.2.2.2.2.2.2.1, fun q hq hy => absurd (hLS.2.2.2.2.2.2.2.2 q hy) (Nat.not_lt.mpr hq), hGA.call hS hU hW (bl_in hLS.2.2.2.2.1 hS hA)⟩⟩ rfl rfl hl.1 rfl (lv_room (Nat.le_of_ble_eq_true rfl)) dL_law_174 ⟨by show _ ≤ 600000; omega, by show _ ≤ 7302250; omega⟩) hLS hS hA (fun r1_ u_ H locs X T hp1 hLS hS => ?_)
  obtain ⟨e1_, rfl⟩ := hp1
  have hLS : Lst dC dI ad bS Y s A h0 m0 ik (fdF vs (xs (i + 1))) kvs tl im vm kvm tm X T M T2 H := hLS
  refine lv_pop hx hb dL_law_177 rfl ?_
  refine lv_aload_n hx hb dL_law_178 rfl (lv_at hl 2 rfl) ?_
  refine lv_aload_n hx hb dL_law_179 rfl (lv_at hl 0 rfl) ?_
  refine lv_iload_n hx hb dL_law_180 rfl (lv_at hl 3 rfl) ?_
  refine lv_iconst (v := 1) hx hb dL_law_181 (by decide) ?_
  refine lv_iadd hx hb dL_law_182 ?_
  refine qi_as (y := nI (i + 1)) (nI_add i 1) ?_
  refine va_sld hx hb hX hbl hbA hS (vp_in_nI (n := i + 1) (N := L) (by omega) (by omega)) dL_law_183 ?_
  refine qi_as (y := xs (i + 1)) (by rw [nI_clamp (by omega)]) ?_
  refine lm_i (va_runV (As := [.int (xs (i + 1))]) (rest := []) ⟨hx, hb, hml, hown, hts⟩ (v_feed l dC dI sK sV im vm kvm tm T2 m0 M (xs (i + 1)) H.size) (cwV 1 hts gL_law_X12_feed rfl rfl rfl hd_yX12_feed ⟨Nat.le_of_ble_eq_true rfl, Nat.le_of_ble_eq_true rfl⟩) ⟨fun a U g mk q => by obtain ⟨q0, q1, qX, qK, qG⟩ := q; exact ⟨q0, mvz g mk a q1, qX, mvK g mk a qK, qG.same rfl rfl⟩, hLS.2.1.recv hLS.2.2.2.1, fun U hU hW => ⟨rfl, by rw [hU], by rw [hU]; exact hLS.2.1, va_K.moved hW.alike hLS.2.2.2.1, hGA.2.2.2.2.2.2.call hS hU hW (bl_in hLS.2.2.2.2.2.1 hS hA)⟩⟩ rfl rfl hl.1 rfl (lv_room (Nat.le_of_ble_eq_true rfl)) dL_law_184 ⟨by show _ ≤ 600000; omega, by show _ ≤ 7302250; omega⟩) hLS hS hA (fun r2_ u_ H locs M hp2 hLS hS => ?_)
  obtain ⟨e2_, rfl⟩ := hp2
  have hLS : Lst dC dI ad bS Y s A h0 m0 ik (fdF vs (xs (i + 1))) kvs tl im (fdF vm (xs (i + 1))) kvm tm X T M T2 H := hLS
  refine lv_pop hx hb dL_law_187 rfl ?_
  refine lv_goto (tgt := 1108) hx hb dL_law_188 (by decide) ?_
  refine W.widen (k := cells + 8) (n := slots + 200) (by omega) (by omega) ?_
  exact kk ik (fdF vs (xs (i + 1))) kvs tl im (fdF vm (xs (i + 1))) kvm tm X T M H locs hLS ⟨hcp.1, by rw [hcp.2.1], hcp.2.2⟩ hS

set_option maxHeartbeats 4000000 in
set_option maxRecDepth 100000 in
theorem lc_1 {p : Program} {l : Launch} {e : Env} {s : State} {m : MethodId} {below : List Frame} {meth : Method} {c : Code} {b L : Nat} {xs : Nat → Int32} {A : Nat → Prop} (hAe : A = fun q => s.heap.size ≤ q) (C0 : lw_At p s m meth c b L xs) (dC : Nat → ClassId) (dI : Nat → Nat → Nat) (gd : Nat → Nat) (kA : Nat) (ad : Nat → Nat) (cB bS : Nat) (sK sV : Nat → Nat) (Y : Nat → Prop) (h0 m0 : Nat) (ik : Int32) (vs kvs : VS) (tl : List Nat) (im : Int32) (vm kvm : VS) (tm : List Nat) (X : va_W) (T : List (ClassId × FieldType)) (M : va_W) (T2 : List (ClassId × FieldType)) (hGA : GA gd kA ad cB bS sK sV A s) (i : Nat) (hi : i + 5 ≤ L) (hL : L ≤ 320) (H : Heap) (locs : List Loc) (hLS : Lst dC dI ad bS Y s A h0 m0 ik vs kvs tl im vm kvm tm X T M T2 H) (cells slots : Nat) (hc0 : cells ≤ 590000) (hs0 : slots ≤ 7000000) (hS : va_S A s.heap H locs) (ls : Array Slot) (hl : lv_has ls 4 [(0, .ref b), (1, .ref h0), (2, .ref m0), (3, .int (nI i))]) (hcp : ik = im ∧ vs = vm ∧ (im = 0 ∨ kvs = kvm) ∧ tl = tm) (kk : ∀ (ik : Int32) (vs kvs : VS) (tl : List Nat) (im : Int32) (vm kvm : VS) (tm : List Nat) (X : va_W) (T : List (ClassId × FieldType)) (M : va_W) (H : Heap) (locs : List Loc), Lst dC dI ad bS Y s A h0 m0 ik vs kvs tl im vm kvm tm X T M T2 H → (ik = im ∧ vs = vm ∧ (im = 0 ∨ kvs = kvm) ∧ tl = tm) → va_S A s.heap H locs → W p l e room_1 s m #[Value.ref b] below meth c H locs (cells + 8) (slots + 200) (lw_Z below #[Value.ref b] s) (F0 m 1108 ls [])) : W p l e room_1 s m #[Value.ref b] below meth c H locs cells slots (lw_Z below #[Value.ref b] s) (F0 m 191 ls []) := by
  obtain ⟨hx, hb, hr, hml, hown, hts0, hX, hbl, hlocks, hgv⟩ := id C0
  have hown : s.vm.findClass RL = some m.cls := hown
  have hb : c.code = cL_law := hb
  have hts : ∀ w ∈ lw_tbl, w.before #[Value.ref b] s = true := fun w h => hts0 w (wsL_law_in w h)
  have hA : ∀ q : Nat, s.heap.size ≤ q → A q := fun q h => by rw [hAe]; exact h
  have hbA : ¬ A b := by rw [hAe]; exact Nat.not_le.mpr hbl
  refine lv_aload_n hx hb dL_law_191 rfl (lv_at hl 1 rfl) ?_
  refine lx_i (va_runV (As := []) (rest := []) ⟨hx, hb, hml, hown, hts⟩ (w_hill l dC dI gd kA ad cB bS sK sV Y ik vs kvs tl T h0 X H.size) (cwV 0 hts gL_law_X11_hill rfl rfl rfl hd_yX11_hill ⟨Nat.le_of_ble_eq_true rfl, Nat.le_of_ble_eq_true rfl⟩) ⟨fun a U g mk q => by obtain ⟨q0, q1, qX, qK, qY1, qY2, qG⟩ := q; exact ⟨q0, mvz g mk a q1, qX, mvK g mk a qK, qY1, qY2, qG.same rfl rfl⟩, hLS.1.recv hLS.2.2.1, fun U hU hW => ⟨rfl, by rw [hU], by rw [hU]; exact hLS.1, va_K.moved hW.alike hLS.2.2.1, hLS.2.2.2.2.2.2.1, fun q hq hy => absurd (hLS.2.2.2.2.2.2.2.2 q hy) (Nat.not_lt.mpr hq), hGA.call hS hU hW (bl_in hLS.2.2.2.2.1 hS hA)⟩⟩ rfl rfl hl.1 rfl (lv_room (Nat.le_of_ble_eq_true rfl)) dL_law_192 ⟨by show _ ≤ 600000; omega, by show _ ≤ 7302250; omega⟩) hLS hS hA (fun r1_ u_ H locs X T hp1 hLS hS => ?_)
  obtain ⟨e1_, rfl⟩ := hp1
  have hLS : Lst dC dI ad bS Y s A h0 m0 ik (hlF vs) kvs tl im vm kvm tm X T M T2 H := hLS
  refine lv_pop hx hb dL_law_195 rfl ?_
  refine lv_aload_n hx hb dL_law_196 rfl (lv_at hl 2 rfl) ?_
  refine lm_i (va_runV (As := []) (rest := []) ⟨hx, hb, hml, hown, hts⟩ (v_hill l dC dI sK sV im vm kvm tm T2 m0 M H.size) (cwV 0 hts gL_law_X12_hill rfl rfl rfl hd_yX12_hill ⟨Nat.le_of_ble_eq_true rfl, Nat.le_of_ble_eq_true rfl⟩) ⟨fun a U g mk q => by obtain ⟨q0, q1, qX, qK, qG⟩ := q; exact ⟨q0, mvz g mk a q1, qX, mvK g mk a qK, qG.same rfl rfl⟩, hLS.2.1.recv hLS.2.2.2.1, fun U hU hW => ⟨rfl, by rw [hU], by rw [hU]; exact hLS.2.1, va_K.moved hW.alike hLS.2.2.2.1, hGA.2.2.2.2.2.2.call hS hU hW (bl_in hLS.2.2.2.2.2.1 hS hA)⟩⟩ rfl rfl hl.1 rfl (lv_room (Nat.le_of_ble_eq_true rfl)) dL_law_197 ⟨by show _ ≤ 600000; omega, by show _ ≤ 7302250; omega⟩) hLS hS hA (fun r2_ u_ H locs M hp2 hLS hS => ?_)
  obtain ⟨e2_, rfl⟩ := hp2
  have hLS : Lst dC dI ad bS Y s A h0 m0 ik (hlF vs) kvs tl im (hlF vm) kvm tm X T M T2 H := hLS
  refine lv_pop hx hb dL_law_200 rfl ?_
  refine lv_goto (tgt := 1108) hx hb dL_law_201 (by decide) ?_
  refine W.widen (k := cells + 8) (n := slots + 200) (by omega) (by omega) ?_
  exact kk ik (hlF vs) kvs tl im (hlF vm) kvm tm X T M H locs hLS ⟨hcp.1, by rw [hcp.2.1], hcp.2.2⟩ hS

set_option maxHeartbeats 4000000 in
set_option maxRecDepth 100000 in
theorem lc_2 {p : Program} {l : Launch} {e : Env} {s : State} {m : MethodId} {below : List Frame} {meth : Method} {c : Code} {b L : Nat} {xs : Nat → Int32} {A : Nat → Prop} (hAe : A = fun q => s.heap.size ≤ q) (C0 : lw_At p s m meth c b L xs) (dC : Nat → ClassId) (dI : Nat → Nat → Nat) (gd : Nat → Nat) (kA : Nat) (ad : Nat → Nat) (cB bS : Nat) (sK sV : Nat → Nat) (Y : Nat → Prop) (h0 m0 : Nat) (ik : Int32) (vs kvs : VS) (tl : List Nat) (im : Int32) (vm kvm : VS) (tm : List Nat) (X : va_W) (T : List (ClassId × FieldType)) (M : va_W) (T2 : List (ClassId × FieldType)) (hGA : GA gd kA ad cB bS sK sV A s) (i : Nat) (hi : i + 5 ≤ L) (hL : L ≤ 320) (H : Heap) (locs : List Loc) (hLS : Lst dC dI ad bS Y s A h0 m0 ik vs kvs tl im vm kvm tm X T M T2 H) (cells slots : Nat) (hc0 : cells ≤ 590000) (hs0 : slots ≤ 7000000) (hS : va_S A s.heap H locs) (ls : Array Slot) (hl : lv_has ls 4 [(0, .ref b), (1, .ref h0), (2, .ref m0), (3, .int (nI i))]) (hcp : ik = im ∧ vs = vm ∧ (im = 0 ∨ kvs = kvm) ∧ tl = tm) (kk : ∀ (ik : Int32) (vs kvs : VS) (tl : List Nat) (im : Int32) (vm kvm : VS) (tm : List Nat) (X : va_W) (T : List (ClassId × FieldType)) (M : va_W) (H : Heap) (locs : List Loc), Lst dC dI ad bS Y s A h0 m0 ik vs kvs tl im vm kvm tm X T M T2 H → (ik = im ∧ vs = vm ∧ (im = 0 ∨ kvs = kvm) ∧ tl = tm) → va_S A s.heap H locs → W p l e room_1 s m #[Value.ref b] below meth c H locs (cells + 8) (slots + 200) (lw_Z below #[Value.ref b] s) (F0 m 1108 ls [])) : W p l e room_1 s m #[Value.ref b] below meth c H locs cells slots (lw_Z below #[Value.ref b] s) (F0 m 204 ls []) := by
  obtain ⟨hx, hb, hr, hml, hown, hts0, hX, hbl, hlocks, hgv⟩ := id C0
  have hown : s.vm.findClass RL = some m.cls := hown
  have hb : c.code = cL_law := hb
  have hts : ∀ w ∈ lw_tbl, w.before #[Value.ref b] s = true := fun w h => hts0 w (wsL_law_in w h)
  have hA : ∀ q : Nat, s.heap.size ≤ q → A q := fun q h => by rw [hAe]; exact h
  have hbA : ¬ A b := by rw [hAe]; exact Nat.not_le.mpr hbl
  refine lv_aload_n hx hb dL_law_204 rfl (lv_at hl 1 rfl) ?_
  refine lv_aload_n hx hb dL_law_205 rfl (lv_at hl 0 rfl) ?_
  refine lv_iload_n hx hb dL_law_206 rfl (lv_at hl 3 rfl) ?_
  refine lv_iconst (v := 1) hx hb dL_law_207 (by decide) ?_
  refine lv_iadd hx hb dL_law_208 ?_
  refine qi_as (y := nI (i + 1)) (nI_add i 1) ?_
  refine va_sld hx hb hX hbl hbA hS (vp_in_nI (n := i + 1) (N := L) (by omega) (by omega)) dL_law_209 ?_
  refine qi_as (y := xs (i + 1)) (by rw [nI_clamp (by omega)]) ?_
  refine lv_i2l (v := (xs (i + 1)).toInt64) hx hb dL_law_210 (rfl) ?_
  refine lv_bipush (v := 32) hx hb dL_law_211 (by decide) ?_
  refine lv_lshl (v := ((xs (i + 1)).toInt64) <<< ((32 : Int32).toInt64 &&& 63)) hx hb dL_law_213 (rfl) ?_
  refine lv_aload_n hx hb dL_law_214 rfl (lv_at hl 0 rfl) ?_
  refine lv_iload_n hx hb dL_law_215 rfl (lv_at hl 3 rfl) ?_
  refine lv_iconst (v := 2) hx hb dL_law_216 (by decide) ?_
  refine lv_iadd hx hb dL_law_217 ?_
  refine qi_as (y := nI (i + 2)) (nI_add i 2) ?_
  refine va_sld hx hb hX hbl hbA hS (vp_in_nI (n := i + 2) (N := L) (by omega) (by omega)) dL_law_218 ?_
  refine qi_as (y := xs (i + 2)) (by rw [nI_clamp (by omega)]) ?_
  refine lv_i2l (v := (xs (i + 2)).toInt64) hx hb dL_law_219 (rfl) ?_
  refine lv_ldc2 (v := 4294967295) hx hb hown (hts (.constantLong RL 23 (4294967295)) kL_0) dL_law_220 ?_
  refine lv_land hx hb dL_law_223 ?_
  refine lv_lor hx hb dL_law_224 ?_
  refine lx_i (va_runV (As := [.long ((((xs (i + 1)).toInt64) <<< ((32 : Int32).toInt64 &&& 63)) ||| (((xs (i + 2)).toInt64) &&& 4294967295))]) (rest := []) ⟨hx, hb, hml, hown, hts⟩ (w_edges l dC dI gd kA ad cB bS sK sV Y ik vs kvs tl T h0 X ((((xs (i + 1)).toInt64) <<< ((32 : Int32).toInt64 &&& 63)) ||| (((xs (i + 2)).toInt64) &&& 4294967295)) H.size) (cwV 1 hts gL_law_X11_edges rfl rfl rfl hd_yX11_edges ⟨Nat.le_of_ble_eq_true rfl, Nat.le_of_ble_eq_true rfl⟩) ⟨fun a U g mk q => by obtain ⟨q0, q1, qX, qK, qY1, qY2, qG⟩ := q; exact ⟨q0, mvz g mk a q1, qX, mvK g mk a qK, qY1, qY2, qG.same rfl rfl⟩, hLS.1.recv hLS.2.2.1, fun U hU hW => ⟨rfl, by rw [hU], by rw [hU]; exact hLS.1, va_K.moved hW.alike hLS.2.2.1, hLS.2.2.2.2.2.2.1, fun q hq hy => absurd (hLS.2.2.2.2.2.2.2.2 q hy) (Nat.not_lt.mpr hq), hGA.call hS hU hW (bl_in hLS.2.2.2.2.1 hS hA)⟩⟩ rfl rfl hl.1 rfl (lv_room (Nat.le_of_ble_eq_true rfl)) dL_law_225 ⟨by show _ ≤ 600000; omega, by show _ ≤ 7302250; omega⟩) hLS hS hA (fun r1_ u_ H locs X T hp1 hLS hS => ?_)
  obtain ⟨e1_, rfl⟩ := hp1
  have hLS : Lst dC dI ad bS Y s A h0 m0 ik (vs.1, vs.2.1, vs.2.2.1, vs.2.2.2.1, vs.2.2.2.2.1, vs.2.2.2.2.2.1, vs.2.2.2.2.2.2.1, vs.2.2.2.2.2.2.2.1, vs.2.2.2.2.2.2.2.2.1, vs.2.2.2.2.2.2.2.2.2.1, vs.2.2.2.2.2.2.2.2.2.2.1, vs.2.2.2.2.2.2.2.2.2.2.2.1, edN vs.2.2.2.2.2.2.2.2.2.2.2.2.1 ((((xs (i + 1)).toInt64) <<< ((32 : Int32).toInt64 &&& 63)) ||| (((xs (i + 2)).toInt64) &&& 4294967295)), vs.2.2.2.2.2.2.2.2.2.2.2.2.2) kvs tl im vm kvm tm X T M T2 H := hLS
  refine lv_pop hx hb dL_law_228 rfl ?_
  refine lv_aload_n hx hb dL_law_229 rfl (lv_at hl 2 rfl) ?_
  refine lv_aload_n hx hb dL_law_230 rfl (lv_at hl 0 rfl) ?_
  refine lv_iload_n hx hb dL_law_231 rfl (lv_at hl 3 rfl) ?_
  refine lv_iconst (v := 1) hx hb dL_law_232 (by decide) ?_
  refine lv_iadd hx hb dL_law_233 ?_
  refine qi_as (y := nI (i + 1)) (nI_add i 1) ?_
  refine va_sld hx hb hX hbl hbA hS (vp_in_nI (n := i + 1) (N := L) (by omega) (by omega)) dL_law_234 ?_
  refine qi_as (y := xs (i + 1)) (by rw [nI_clamp (by omega)]) ?_
  refine lv_i2l (v := (xs (i + 1)).toInt64) hx hb dL_law_235 (rfl) ?_
  refine lv_bipush (v := 32) hx hb dL_law_236 (by decide) ?_
  refine lv_lshl (v := ((xs (i + 1)).toInt64) <<< ((32 : Int32).toInt64 &&& 63)) hx hb dL_law_238 (rfl) ?_
  refine lv_aload_n hx hb dL_law_239 rfl (lv_at hl 0 rfl) ?_
  refine lv_iload_n hx hb dL_law_240 rfl (lv_at hl 3 rfl) ?_
  refine lv_iconst (v := 2) hx hb dL_law_241 (by decide) ?_
  refine lv_iadd hx hb dL_law_242 ?_
  refine qi_as (y := nI (i + 2)) (nI_add i 2) ?_
  refine va_sld hx hb hX hbl hbA hS (vp_in_nI (n := i + 2) (N := L) (by omega) (by omega)) dL_law_243 ?_
  refine qi_as (y := xs (i + 2)) (by rw [nI_clamp (by omega)]) ?_
  refine lv_i2l (v := (xs (i + 2)).toInt64) hx hb dL_law_244 (rfl) ?_
  refine lv_ldc2 (v := 4294967295) hx hb hown (hts (.constantLong RL 23 (4294967295)) kL_0) dL_law_245 ?_
  refine lv_land hx hb dL_law_248 ?_
  refine lv_lor hx hb dL_law_249 ?_
  refine lm_i (va_runV (As := [.long ((((xs (i + 1)).toInt64) <<< ((32 : Int32).toInt64 &&& 63)) ||| (((xs (i + 2)).toInt64) &&& 4294967295))]) (rest := []) ⟨hx, hb, hml, hown, hts⟩ (v_edges l dC dI sK sV im vm kvm tm T2 m0 M ((((xs (i + 1)).toInt64) <<< ((32 : Int32).toInt64 &&& 63)) ||| (((xs (i + 2)).toInt64) &&& 4294967295)) H.size) (cwV 1 hts gL_law_X12_edges rfl rfl rfl hd_yX12_edges ⟨Nat.le_of_ble_eq_true rfl, Nat.le_of_ble_eq_true rfl⟩) ⟨fun a U g mk q => by obtain ⟨q0, q1, qX, qK, qG⟩ := q; exact ⟨q0, mvz g mk a q1, qX, mvK g mk a qK, qG.same rfl rfl⟩, hLS.2.1.recv hLS.2.2.2.1, fun U hU hW => ⟨rfl, by rw [hU], by rw [hU]; exact hLS.2.1, va_K.moved hW.alike hLS.2.2.2.1, hGA.2.2.2.2.2.2.call hS hU hW (bl_in hLS.2.2.2.2.2.1 hS hA)⟩⟩ rfl rfl hl.1 rfl (lv_room (Nat.le_of_ble_eq_true rfl)) dL_law_250 ⟨by show _ ≤ 600000; omega, by show _ ≤ 7302250; omega⟩) hLS hS hA (fun r2_ u_ H locs M hp2 hLS hS => ?_)
  obtain ⟨e2_, rfl⟩ := hp2
  have hLS : Lst dC dI ad bS Y s A h0 m0 ik (vs.1, vs.2.1, vs.2.2.1, vs.2.2.2.1, vs.2.2.2.2.1, vs.2.2.2.2.2.1, vs.2.2.2.2.2.2.1, vs.2.2.2.2.2.2.2.1, vs.2.2.2.2.2.2.2.2.1, vs.2.2.2.2.2.2.2.2.2.1, vs.2.2.2.2.2.2.2.2.2.2.1, vs.2.2.2.2.2.2.2.2.2.2.2.1, edN vs.2.2.2.2.2.2.2.2.2.2.2.2.1 ((((xs (i + 1)).toInt64) <<< ((32 : Int32).toInt64 &&& 63)) ||| (((xs (i + 2)).toInt64) &&& 4294967295)), vs.2.2.2.2.2.2.2.2.2.2.2.2.2) kvs tl im (vm.1, vm.2.1, vm.2.2.1, vm.2.2.2.1, vm.2.2.2.2.1, vm.2.2.2.2.2.1, vm.2.2.2.2.2.2.1, vm.2.2.2.2.2.2.2.1, vm.2.2.2.2.2.2.2.2.1, vm.2.2.2.2.2.2.2.2.2.1, vm.2.2.2.2.2.2.2.2.2.2.1, vm.2.2.2.2.2.2.2.2.2.2.2.1, edN vm.2.2.2.2.2.2.2.2.2.2.2.2.1 ((((xs (i + 1)).toInt64) <<< ((32 : Int32).toInt64 &&& 63)) ||| (((xs (i + 2)).toInt64) &&& 4294967295)), vm.2.2.2.2.2.2.2.2.2.2.2.2.2) kvm tm X T M T2 H := hLS
  refine lv_pop hx hb dL_law_253 rfl ?_
  refine lv_goto (tgt := 1108) hx hb dL_law_254 (by decide) ?_
  refine W.widen (k := cells + 8) (n := slots + 200) (by omega) (by omega) ?_
  exact kk ik (vs.1, vs.2.1, vs.2.2.1, vs.2.2.2.1, vs.2.2.2.2.1, vs.2.2.2.2.2.1, vs.2.2.2.2.2.2.1, vs.2.2.2.2.2.2.2.1, vs.2.2.2.2.2.2.2.2.1, vs.2.2.2.2.2.2.2.2.2.1, vs.2.2.2.2.2.2.2.2.2.2.1, vs.2.2.2.2.2.2.2.2.2.2.2.1, edN vs.2.2.2.2.2.2.2.2.2.2.2.2.1 ((((xs (i + 1)).toInt64) <<< ((32 : Int32).toInt64 &&& 63)) ||| (((xs (i + 2)).toInt64) &&& 4294967295)), vs.2.2.2.2.2.2.2.2.2.2.2.2.2) kvs tl im (vm.1, vm.2.1, vm.2.2.1, vm.2.2.2.1, vm.2.2.2.2.1, vm.2.2.2.2.2.1, vm.2.2.2.2.2.2.1, vm.2.2.2.2.2.2.2.1, vm.2.2.2.2.2.2.2.2.1, vm.2.2.2.2.2.2.2.2.2.1, vm.2.2.2.2.2.2.2.2.2.2.1, vm.2.2.2.2.2.2.2.2.2.2.2.1, edN vm.2.2.2.2.2.2.2.2.2.2.2.2.1 ((((xs (i + 1)).toInt64) <<< ((32 : Int32).toInt64 &&& 63)) ||| (((xs (i + 2)).toInt64) &&& 4294967295)), vm.2.2.2.2.2.2.2.2.2.2.2.2.2) kvm tm X T M H locs hLS ⟨hcp.1, by rw [hcp.2.1], hcp.2.2⟩ hS

set_option maxHeartbeats 4000000 in
set_option maxRecDepth 100000 in
theorem lc_3 {p : Program} {l : Launch} {e : Env} {s : State} {m : MethodId} {below : List Frame} {meth : Method} {c : Code} {b L : Nat} {xs : Nat → Int32} {A : Nat → Prop} (hAe : A = fun q => s.heap.size ≤ q) (C0 : lw_At p s m meth c b L xs) (dC : Nat → ClassId) (dI : Nat → Nat → Nat) (gd : Nat → Nat) (kA : Nat) (ad : Nat → Nat) (cB bS : Nat) (sK sV : Nat → Nat) (Y : Nat → Prop) (h0 m0 : Nat) (ik : Int32) (vs kvs : VS) (tl : List Nat) (im : Int32) (vm kvm : VS) (tm : List Nat) (X : va_W) (T : List (ClassId × FieldType)) (M : va_W) (T2 : List (ClassId × FieldType)) (hGA : GA gd kA ad cB bS sK sV A s) (i : Nat) (hi : i + 5 ≤ L) (hL : L ≤ 320) (H : Heap) (locs : List Loc) (hLS : Lst dC dI ad bS Y s A h0 m0 ik vs kvs tl im vm kvm tm X T M T2 H) (cells slots : Nat) (hc0 : cells ≤ 590000) (hs0 : slots ≤ 7000000) (hS : va_S A s.heap H locs) (ls : Array Slot) (hl : lv_has ls 4 [(0, .ref b), (1, .ref h0), (2, .ref m0), (3, .int (nI i))]) (hcp : ik = im ∧ vs = vm ∧ (im = 0 ∨ kvs = kvm) ∧ tl = tm) (kk : ∀ (ik : Int32) (vs kvs : VS) (tl : List Nat) (im : Int32) (vm kvm : VS) (tm : List Nat) (X : va_W) (T : List (ClassId × FieldType)) (M : va_W) (H : Heap) (locs : List Loc), Lst dC dI ad bS Y s A h0 m0 ik vs kvs tl im vm kvm tm X T M T2 H → (ik = im ∧ vs = vm ∧ (im = 0 ∨ kvs = kvm) ∧ tl = tm) → va_S A s.heap H locs → W p l e room_1 s m #[Value.ref b] below meth c H locs (cells + 8) (slots + 200) (lw_Z below #[Value.ref b] s) (F0 m 1108 ls [])) : W p l e room_1 s m #[Value.ref b] below meth c H locs cells slots (lw_Z below #[Value.ref b] s) (F0 m 257 ls []) := by
  obtain ⟨hx, hb, hr, hml, hown, hts0, hX, hbl, hlocks, hgv⟩ := id C0
  have hown : s.vm.findClass RL = some m.cls := hown
  have hb : c.code = cL_law := hb
  have hts : ∀ w ∈ lw_tbl, w.before #[Value.ref b] s = true := fun w h => hts0 w (wsL_law_in w h)
  have hA : ∀ q : Nat, s.heap.size ≤ q → A q := fun q h => by rw [hAe]; exact h
  have hbA : ¬ A b := by rw [hAe]; exact Nat.not_le.mpr hbl
  refine lv_aload_n hx hb dL_law_257 rfl (lv_at hl 1 rfl) ?_
  refine lv_aload_n hx hb dL_law_258 rfl (lv_at hl 0 rfl) ?_
  refine lv_iload_n hx hb dL_law_259 rfl (lv_at hl 3 rfl) ?_
  refine lv_iconst (v := 1) hx hb dL_law_260 (by decide) ?_
  refine lv_iadd hx hb dL_law_261 ?_
  refine qi_as (y := nI (i + 1)) (nI_add i 1) ?_
  refine va_sld hx hb hX hbl hbA hS (vp_in_nI (n := i + 1) (N := L) (by omega) (by omega)) dL_law_262 ?_
  refine qi_as (y := xs (i + 1)) (by rw [nI_clamp (by omega)]) ?_
  refine lv_aload_n hx hb dL_law_263 rfl (lv_at hl 0 rfl) ?_
  refine lv_iload_n hx hb dL_law_264 rfl (lv_at hl 3 rfl) ?_
  refine lv_iconst (v := 2) hx hb dL_law_265 (by decide) ?_
  refine lv_iadd hx hb dL_law_266 ?_
  refine qi_as (y := nI (i + 2)) (nI_add i 2) ?_
  refine va_sld hx hb hX hbl hbA hS (vp_in_nI (n := i + 2) (N := L) (by omega) (by omega)) dL_law_267 ?_
  refine qi_as (y := xs (i + 2)) (by rw [nI_clamp (by omega)]) ?_
  refine lx_i (va_runV (As := [.int (xs (i + 1)), .int (xs (i + 2))]) (rest := []) ⟨hx, hb, hml, hown, hts⟩ (w_set l dC dI gd kA ad cB bS sK sV Y ik vs kvs tl T h0 X (xs (i + 1)) (xs (i + 2)) H.size) (cwV 2 hts gL_law_X11_set rfl rfl rfl hd_yX11_set ⟨Nat.le_of_ble_eq_true rfl, Nat.le_of_ble_eq_true rfl⟩) ⟨fun a U g mk q => by obtain ⟨q0, q1, qX, qK, qY1, qY2, qG⟩ := q; exact ⟨q0, mvz g mk a q1, qX, mvK g mk a qK, qY1, qY2, qG.same rfl rfl⟩, hLS.1.recv hLS.2.2.1, fun U hU hW => ⟨rfl, by rw [hU], by rw [hU]; exact hLS.1, va_K.moved hW.alike hLS.2.2.1, hLS.2.2.2.2.2.2.1, fun q hq hy => absurd (hLS.2.2.2.2.2.2.2.2 q hy) (Nat.not_lt.mpr hq), hGA.call hS hU hW (bl_in hLS.2.2.2.2.1 hS hA)⟩⟩ rfl rfl hl.1 rfl (lv_room (Nat.le_of_ble_eq_true rfl)) dL_law_268 ⟨by show _ ≤ 600000; omega, by show _ ≤ 7302250; omega⟩) hLS hS hA (fun r1_ u_ H locs X T hp1 hLS hS => ?_)
  obtain ⟨e1_, rfl⟩ := hp1
  have hLS : Lst dC dI ad bS Y s A h0 m0 ik (vs.1, vs.2.1, vs.2.2.1, stM vs.2.2.2.1 (xs (i + 1)) (xs (i + 2)), stN vs.2.2.2.2.1 (xs (i + 1)) (xs (i + 2)), vs.2.2.2.2.2.1, vs.2.2.2.2.2.2.1, vs.2.2.2.2.2.2.2.1, vs.2.2.2.2.2.2.2.2.1, vs.2.2.2.2.2.2.2.2.2.1, vs.2.2.2.2.2.2.2.2.2.2.1, vs.2.2.2.2.2.2.2.2.2.2.2.1, vs.2.2.2.2.2.2.2.2.2.2.2.2.1, vs.2.2.2.2.2.2.2.2.2.2.2.2.2) kvs tl im vm kvm tm X T M T2 H := hLS
  refine lv_pop hx hb dL_law_271 rfl ?_
  refine lv_aload_n hx hb dL_law_272 rfl (lv_at hl 2 rfl) ?_
  refine lv_aload_n hx hb dL_law_273 rfl (lv_at hl 0 rfl) ?_
  refine lv_iload_n hx hb dL_law_274 rfl (lv_at hl 3 rfl) ?_
  refine lv_iconst (v := 1) hx hb dL_law_275 (by decide) ?_
  refine lv_iadd hx hb dL_law_276 ?_
  refine qi_as (y := nI (i + 1)) (nI_add i 1) ?_
  refine va_sld hx hb hX hbl hbA hS (vp_in_nI (n := i + 1) (N := L) (by omega) (by omega)) dL_law_277 ?_
  refine qi_as (y := xs (i + 1)) (by rw [nI_clamp (by omega)]) ?_
  refine lv_aload_n hx hb dL_law_278 rfl (lv_at hl 0 rfl) ?_
  refine lv_iload_n hx hb dL_law_279 rfl (lv_at hl 3 rfl) ?_
  refine lv_iconst (v := 2) hx hb dL_law_280 (by decide) ?_
  refine lv_iadd hx hb dL_law_281 ?_
  refine qi_as (y := nI (i + 2)) (nI_add i 2) ?_
  refine va_sld hx hb hX hbl hbA hS (vp_in_nI (n := i + 2) (N := L) (by omega) (by omega)) dL_law_282 ?_
  refine qi_as (y := xs (i + 2)) (by rw [nI_clamp (by omega)]) ?_
  refine lm_i (va_runV (As := [.int (xs (i + 1)), .int (xs (i + 2))]) (rest := []) ⟨hx, hb, hml, hown, hts⟩ (v_set l dC dI sK sV im vm kvm tm T2 m0 M (xs (i + 1)) (xs (i + 2)) H.size) (cwV 2 hts gL_law_X12_set rfl rfl rfl hd_yX12_set ⟨Nat.le_of_ble_eq_true rfl, Nat.le_of_ble_eq_true rfl⟩) ⟨fun a U g mk q => by obtain ⟨q0, q1, qX, qK, qG⟩ := q; exact ⟨q0, mvz g mk a q1, qX, mvK g mk a qK, qG.same rfl rfl⟩, hLS.2.1.recv hLS.2.2.2.1, fun U hU hW => ⟨rfl, by rw [hU], by rw [hU]; exact hLS.2.1, va_K.moved hW.alike hLS.2.2.2.1, hGA.2.2.2.2.2.2.call hS hU hW (bl_in hLS.2.2.2.2.2.1 hS hA)⟩⟩ rfl rfl hl.1 rfl (lv_room (Nat.le_of_ble_eq_true rfl)) dL_law_283 ⟨by show _ ≤ 600000; omega, by show _ ≤ 7302250; omega⟩) hLS hS hA (fun r2_ u_ H locs M hp2 hLS hS => ?_)
  obtain ⟨e2_, rfl⟩ := hp2
  have hLS : Lst dC dI ad bS Y s A h0 m0 ik (vs.1, vs.2.1, vs.2.2.1, stM vs.2.2.2.1 (xs (i + 1)) (xs (i + 2)), stN vs.2.2.2.2.1 (xs (i + 1)) (xs (i + 2)), vs.2.2.2.2.2.1, vs.2.2.2.2.2.2.1, vs.2.2.2.2.2.2.2.1, vs.2.2.2.2.2.2.2.2.1, vs.2.2.2.2.2.2.2.2.2.1, vs.2.2.2.2.2.2.2.2.2.2.1, vs.2.2.2.2.2.2.2.2.2.2.2.1, vs.2.2.2.2.2.2.2.2.2.2.2.2.1, vs.2.2.2.2.2.2.2.2.2.2.2.2.2) kvs tl im (vm.1, vm.2.1, vm.2.2.1, stM vm.2.2.2.1 (xs (i + 1)) (xs (i + 2)), stN vm.2.2.2.2.1 (xs (i + 1)) (xs (i + 2)), vm.2.2.2.2.2.1, vm.2.2.2.2.2.2.1, vm.2.2.2.2.2.2.2.1, vm.2.2.2.2.2.2.2.2.1, vm.2.2.2.2.2.2.2.2.2.1, vm.2.2.2.2.2.2.2.2.2.2.1, vm.2.2.2.2.2.2.2.2.2.2.2.1, vm.2.2.2.2.2.2.2.2.2.2.2.2.1, vm.2.2.2.2.2.2.2.2.2.2.2.2.2) kvm tm X T M T2 H := hLS
  refine lv_pop hx hb dL_law_286 rfl ?_
  refine lv_goto (tgt := 1108) hx hb dL_law_287 (by decide) ?_
  refine W.widen (k := cells + 8) (n := slots + 200) (by omega) (by omega) ?_
  exact kk ik (vs.1, vs.2.1, vs.2.2.1, stM vs.2.2.2.1 (xs (i + 1)) (xs (i + 2)), stN vs.2.2.2.2.1 (xs (i + 1)) (xs (i + 2)), vs.2.2.2.2.2.1, vs.2.2.2.2.2.2.1, vs.2.2.2.2.2.2.2.1, vs.2.2.2.2.2.2.2.2.1, vs.2.2.2.2.2.2.2.2.2.1, vs.2.2.2.2.2.2.2.2.2.2.1, vs.2.2.2.2.2.2.2.2.2.2.2.1, vs.2.2.2.2.2.2.2.2.2.2.2.2.1, vs.2.2.2.2.2.2.2.2.2.2.2.2.2) kvs tl im (vm.1, vm.2.1, vm.2.2.1, stM vm.2.2.2.1 (xs (i + 1)) (xs (i + 2)), stN vm.2.2.2.2.1 (xs (i + 1)) (xs (i + 2)), vm.2.2.2.2.2.1, vm.2.2.2.2.2.2.1, vm.2.2.2.2.2.2.2.1, vm.2.2.2.2.2.2.2.2.1, vm.2.2.2.2.2.2.2.2.2.1, vm.2.2.2.2.2.2.2.2.2.2.1, vm.2.2.2.2.2.2.2.2.2.2.2.1, vm.2.2.2.2.2.2.2.2.2.2.2.2.1, vm.2.2.2.2.2.2.2.2.2.2.2.2.2) kvm tm X T M H locs hLS ⟨hcp.1, by rw [hcp.2.1], hcp.2.2⟩ hS
end mg22a
section mg22a
noncomputable def dk22bcase_cL_law_0 : List (Nat × List Nat) := [(290, [43]), (291, [42]), (292, [29]), (293, [4]), (294, [96]), (295, [46]), (296, [182, 0, 35]), (299, [87]), (300, [44]), (301, [42]), (302, [29]), (303, [4]), (304, [96]), (305, [46]), (306, [182, 0, 38]), (309, [87]), (310, [167, 3, 30]), (313, [43]), (314, [42]), (315, [29]), (316, [4]), (317, [96]), (318, [46]), (319, [42]), (320, [29]), (321, [5]), (322, [96]), (323, [46]), (324, [42]), (325, [29]), (326, [6]), (327, [96]), (328, [46]), (329, [182, 0, 39]), (332, [87]), (333, [44]), (334, [42]), (335, [29]), (336, [4]), (337, [96])]
set_option maxRecDepth 100000 in
theorem dk22bcase_cL_law_0_a : btA cL_law dk22bcase_cL_law_0 = true := by decide +kernel
theorem dL_law_290 : decode cL_law 290 = .ok (.aload_n 1, 1) := bd43 (btAt dk22bcase_cL_law_0_a 0 rfl)
theorem dL_law_291 : decode cL_law 291 = .ok (.aload_n 0, 1) := bd42 (btAt dk22bcase_cL_law_0_a 1 rfl)
theorem dL_law_292 : decode cL_law 292 = .ok (.iload_n 3, 1) := bd29 (btAt dk22bcase_cL_law_0_a 2 rfl)
theorem dL_law_293 : decode cL_law 293 = .ok (.iconst 1, 1) := bd4 (btAt dk22bcase_cL_law_0_a 3 rfl)
theorem dL_law_294 : decode cL_law 294 = .ok (.iadd, 1) := bd96 (btAt dk22bcase_cL_law_0_a 4 rfl)
theorem dL_law_295 : decode cL_law 295 = .ok (.iaload, 1) := bd46 (btAt dk22bcase_cL_law_0_a 5 rfl)
theorem dL_law_296 : decode cL_law 296 = .ok (.invokevirtual 35, 3) := bd182 (a := 0) (b := 35) (btAt dk22bcase_cL_law_0_a 6 rfl)
theorem dL_law_299 : decode cL_law 299 = .ok (.pop, 1) := bd87 (btAt dk22bcase_cL_law_0_a 7 rfl)
theorem dL_law_300 : decode cL_law 300 = .ok (.aload_n 2, 1) := bd44 (btAt dk22bcase_cL_law_0_a 8 rfl)
theorem dL_law_301 : decode cL_law 301 = .ok (.aload_n 0, 1) := bd42 (btAt dk22bcase_cL_law_0_a 9 rfl)
theorem dL_law_302 : decode cL_law 302 = .ok (.iload_n 3, 1) := bd29 (btAt dk22bcase_cL_law_0_a 10 rfl)
theorem dL_law_303 : decode cL_law 303 = .ok (.iconst 1, 1) := bd4 (btAt dk22bcase_cL_law_0_a 11 rfl)
theorem dL_law_304 : decode cL_law 304 = .ok (.iadd, 1) := bd96 (btAt dk22bcase_cL_law_0_a 12 rfl)
theorem dL_law_305 : decode cL_law 305 = .ok (.iaload, 1) := bd46 (btAt dk22bcase_cL_law_0_a 13 rfl)
theorem dL_law_306 : decode cL_law 306 = .ok (.invokevirtual 38, 3) := bd182 (a := 0) (b := 38) (btAt dk22bcase_cL_law_0_a 14 rfl)
theorem dL_law_309 : decode cL_law 309 = .ok (.pop, 1) := bd87 (btAt dk22bcase_cL_law_0_a 15 rfl)
theorem dL_law_310 : decode cL_law 310 = .ok (.goto 798, 3) := bd167 (a := 3) (b := 30) (btAt dk22bcase_cL_law_0_a 16 rfl)
theorem dL_law_313 : decode cL_law 313 = .ok (.aload_n 1, 1) := bd43 (btAt dk22bcase_cL_law_0_a 17 rfl)
theorem dL_law_314 : decode cL_law 314 = .ok (.aload_n 0, 1) := bd42 (btAt dk22bcase_cL_law_0_a 18 rfl)
theorem dL_law_315 : decode cL_law 315 = .ok (.iload_n 3, 1) := bd29 (btAt dk22bcase_cL_law_0_a 19 rfl)
theorem dL_law_316 : decode cL_law 316 = .ok (.iconst 1, 1) := bd4 (btAt dk22bcase_cL_law_0_a 20 rfl)
theorem dL_law_317 : decode cL_law 317 = .ok (.iadd, 1) := bd96 (btAt dk22bcase_cL_law_0_a 21 rfl)
theorem dL_law_318 : decode cL_law 318 = .ok (.iaload, 1) := bd46 (btAt dk22bcase_cL_law_0_a 22 rfl)
theorem dL_law_319 : decode cL_law 319 = .ok (.aload_n 0, 1) := bd42 (btAt dk22bcase_cL_law_0_a 23 rfl)
theorem dL_law_320 : decode cL_law 320 = .ok (.iload_n 3, 1) := bd29 (btAt dk22bcase_cL_law_0_a 24 rfl)
theorem dL_law_321 : decode cL_law 321 = .ok (.iconst 2, 1) := bd5 (btAt dk22bcase_cL_law_0_a 25 rfl)
theorem dL_law_322 : decode cL_law 322 = .ok (.iadd, 1) := bd96 (btAt dk22bcase_cL_law_0_a 26 rfl)
theorem dL_law_323 : decode cL_law 323 = .ok (.iaload, 1) := bd46 (btAt dk22bcase_cL_law_0_a 27 rfl)
theorem dL_law_324 : decode cL_law 324 = .ok (.aload_n 0, 1) := bd42 (btAt dk22bcase_cL_law_0_a 28 rfl)
theorem dL_law_325 : decode cL_law 325 = .ok (.iload_n 3, 1) := bd29 (btAt dk22bcase_cL_law_0_a 29 rfl)
theorem dL_law_326 : decode cL_law 326 = .ok (.iconst 3, 1) := bd6 (btAt dk22bcase_cL_law_0_a 30 rfl)
theorem dL_law_327 : decode cL_law 327 = .ok (.iadd, 1) := bd96 (btAt dk22bcase_cL_law_0_a 31 rfl)
theorem dL_law_328 : decode cL_law 328 = .ok (.iaload, 1) := bd46 (btAt dk22bcase_cL_law_0_a 32 rfl)
theorem dL_law_329 : decode cL_law 329 = .ok (.invokevirtual 39, 3) := bd182 (a := 0) (b := 39) (btAt dk22bcase_cL_law_0_a 33 rfl)
theorem dL_law_332 : decode cL_law 332 = .ok (.pop, 1) := bd87 (btAt dk22bcase_cL_law_0_a 34 rfl)
theorem dL_law_333 : decode cL_law 333 = .ok (.aload_n 2, 1) := bd44 (btAt dk22bcase_cL_law_0_a 35 rfl)
theorem dL_law_334 : decode cL_law 334 = .ok (.aload_n 0, 1) := bd42 (btAt dk22bcase_cL_law_0_a 36 rfl)
theorem dL_law_335 : decode cL_law 335 = .ok (.iload_n 3, 1) := bd29 (btAt dk22bcase_cL_law_0_a 37 rfl)
theorem dL_law_336 : decode cL_law 336 = .ok (.iconst 1, 1) := bd4 (btAt dk22bcase_cL_law_0_a 38 rfl)
theorem dL_law_337 : decode cL_law 337 = .ok (.iadd, 1) := bd96 (btAt dk22bcase_cL_law_0_a 39 rfl)
noncomputable def dk22bcase_cL_law_40 : List (Nat × List Nat) := [(338, [46]), (339, [42]), (340, [29]), (341, [5]), (342, [96]), (343, [46]), (344, [42]), (345, [29]), (346, [6]), (347, [96]), (348, [46]), (349, [182, 0, 43]), (352, [87]), (353, [167, 2, 243]), (356, [43]), (357, [42]), (358, [29]), (359, [4]), (360, [96]), (361, [46]), (362, [42]), (363, [29]), (364, [5]), (365, [96]), (366, [46]), (367, [182, 0, 44]), (370, [87]), (371, [44]), (372, [42]), (373, [29]), (374, [4]), (375, [96]), (376, [46]), (377, [42]), (378, [29]), (379, [5]), (380, [96]), (381, [46]), (382, [182, 0, 47]), (385, [87])]
set_option maxRecDepth 100000 in
theorem dk22bcase_cL_law_40_a : btA cL_law dk22bcase_cL_law_40 = true := by decide +kernel
theorem dL_law_338 : decode cL_law 338 = .ok (.iaload, 1) := bd46 (btAt dk22bcase_cL_law_40_a 0 rfl)
theorem dL_law_339 : decode cL_law 339 = .ok (.aload_n 0, 1) := bd42 (btAt dk22bcase_cL_law_40_a 1 rfl)
theorem dL_law_340 : decode cL_law 340 = .ok (.iload_n 3, 1) := bd29 (btAt dk22bcase_cL_law_40_a 2 rfl)
theorem dL_law_341 : decode cL_law 341 = .ok (.iconst 2, 1) := bd5 (btAt dk22bcase_cL_law_40_a 3 rfl)
theorem dL_law_342 : decode cL_law 342 = .ok (.iadd, 1) := bd96 (btAt dk22bcase_cL_law_40_a 4 rfl)
theorem dL_law_343 : decode cL_law 343 = .ok (.iaload, 1) := bd46 (btAt dk22bcase_cL_law_40_a 5 rfl)
theorem dL_law_344 : decode cL_law 344 = .ok (.aload_n 0, 1) := bd42 (btAt dk22bcase_cL_law_40_a 6 rfl)
theorem dL_law_345 : decode cL_law 345 = .ok (.iload_n 3, 1) := bd29 (btAt dk22bcase_cL_law_40_a 7 rfl)
theorem dL_law_346 : decode cL_law 346 = .ok (.iconst 3, 1) := bd6 (btAt dk22bcase_cL_law_40_a 8 rfl)
theorem dL_law_347 : decode cL_law 347 = .ok (.iadd, 1) := bd96 (btAt dk22bcase_cL_law_40_a 9 rfl)
theorem dL_law_348 : decode cL_law 348 = .ok (.iaload, 1) := bd46 (btAt dk22bcase_cL_law_40_a 10 rfl)
theorem dL_law_349 : decode cL_law 349 = .ok (.invokevirtual 43, 3) := bd182 (a := 0) (b := 43) (btAt dk22bcase_cL_law_40_a 11 rfl)
theorem dL_law_352 : decode cL_law 352 = .ok (.pop, 1) := bd87 (btAt dk22bcase_cL_law_40_a 12 rfl)
theorem dL_law_353 : decode cL_law 353 = .ok (.goto 755, 3) := bd167 (a := 2) (b := 243) (btAt dk22bcase_cL_law_40_a 13 rfl)
theorem dL_law_356 : decode cL_law 356 = .ok (.aload_n 1, 1) := bd43 (btAt dk22bcase_cL_law_40_a 14 rfl)
theorem dL_law_357 : decode cL_law 357 = .ok (.aload_n 0, 1) := bd42 (btAt dk22bcase_cL_law_40_a 15 rfl)
theorem dL_law_358 : decode cL_law 358 = .ok (.iload_n 3, 1) := bd29 (btAt dk22bcase_cL_law_40_a 16 rfl)
theorem dL_law_359 : decode cL_law 359 = .ok (.iconst 1, 1) := bd4 (btAt dk22bcase_cL_law_40_a 17 rfl)
theorem dL_law_360 : decode cL_law 360 = .ok (.iadd, 1) := bd96 (btAt dk22bcase_cL_law_40_a 18 rfl)
theorem dL_law_361 : decode cL_law 361 = .ok (.iaload, 1) := bd46 (btAt dk22bcase_cL_law_40_a 19 rfl)
theorem dL_law_362 : decode cL_law 362 = .ok (.aload_n 0, 1) := bd42 (btAt dk22bcase_cL_law_40_a 20 rfl)
theorem dL_law_363 : decode cL_law 363 = .ok (.iload_n 3, 1) := bd29 (btAt dk22bcase_cL_law_40_a 21 rfl)
theorem dL_law_364 : decode cL_law 364 = .ok (.iconst 2, 1) := bd5 (btAt dk22bcase_cL_law_40_a 22 rfl)
theorem dL_law_365 : decode cL_law 365 = .ok (.iadd, 1) := bd96 (btAt dk22bcase_cL_law_40_a 23 rfl)
theorem dL_law_366 : decode cL_law 366 = .ok (.iaload, 1) := bd46 (btAt dk22bcase_cL_law_40_a 24 rfl)
theorem dL_law_367 : decode cL_law 367 = .ok (.invokevirtual 44, 3) := bd182 (a := 0) (b := 44) (btAt dk22bcase_cL_law_40_a 25 rfl)
theorem dL_law_370 : decode cL_law 370 = .ok (.pop, 1) := bd87 (btAt dk22bcase_cL_law_40_a 26 rfl)
theorem dL_law_371 : decode cL_law 371 = .ok (.aload_n 2, 1) := bd44 (btAt dk22bcase_cL_law_40_a 27 rfl)
theorem dL_law_372 : decode cL_law 372 = .ok (.aload_n 0, 1) := bd42 (btAt dk22bcase_cL_law_40_a 28 rfl)
theorem dL_law_373 : decode cL_law 373 = .ok (.iload_n 3, 1) := bd29 (btAt dk22bcase_cL_law_40_a 29 rfl)
theorem dL_law_374 : decode cL_law 374 = .ok (.iconst 1, 1) := bd4 (btAt dk22bcase_cL_law_40_a 30 rfl)
theorem dL_law_375 : decode cL_law 375 = .ok (.iadd, 1) := bd96 (btAt dk22bcase_cL_law_40_a 31 rfl)
theorem dL_law_376 : decode cL_law 376 = .ok (.iaload, 1) := bd46 (btAt dk22bcase_cL_law_40_a 32 rfl)
theorem dL_law_377 : decode cL_law 377 = .ok (.aload_n 0, 1) := bd42 (btAt dk22bcase_cL_law_40_a 33 rfl)
theorem dL_law_378 : decode cL_law 378 = .ok (.iload_n 3, 1) := bd29 (btAt dk22bcase_cL_law_40_a 34 rfl)
theorem dL_law_379 : decode cL_law 379 = .ok (.iconst 2, 1) := bd5 (btAt dk22bcase_cL_law_40_a 35 rfl)
theorem dL_law_380 : decode cL_law 380 = .ok (.iadd, 1) := bd96 (btAt dk22bcase_cL_law_40_a 36 rfl)
theorem dL_law_381 : decode cL_law 381 = .ok (.iaload, 1) := bd46 (btAt dk22bcase_cL_law_40_a 37 rfl)
theorem dL_law_382 : decode cL_law 382 = .ok (.invokevirtual 47, 3) := bd182 (a := 0) (b := 47) (btAt dk22bcase_cL_law_40_a 38 rfl)
theorem dL_law_385 : decode cL_law 385 = .ok (.pop, 1) := bd87 (btAt dk22bcase_cL_law_40_a 39 rfl)
noncomputable def dk22bcase_cL_law_80 : List (Nat × List Nat) := [(386, [167, 2, 210])]
set_option maxRecDepth 100000 in
theorem dk22bcase_cL_law_80_a : btA cL_law dk22bcase_cL_law_80 = true := by decide +kernel
theorem dL_law_386 : decode cL_law 386 = .ok (.goto 722, 3) := bd167 (a := 2) (b := 210) (btAt dk22bcase_cL_law_80_a 0 rfl)
set_option maxHeartbeats 4000000 in
set_option maxRecDepth 100000 in
theorem lc_4 {p : Program} {l : Launch} {e : Env} {s : State} {m : MethodId} {below : List Frame} {meth : Method} {c : Code} {b L : Nat} {xs : Nat → Int32} {A : Nat → Prop} (hAe : A = fun q => s.heap.size ≤ q) (C0 : lw_At p s m meth c b L xs) (dC : Nat → ClassId) (dI : Nat → Nat → Nat) (gd : Nat → Nat) (kA : Nat) (ad : Nat → Nat) (cB bS : Nat) (sK sV : Nat → Nat) (Y : Nat → Prop) (h0 m0 : Nat) (ik : Int32) (vs kvs : VS) (tl : List Nat) (im : Int32) (vm kvm : VS) (tm : List Nat) (X : va_W) (T : List (ClassId × FieldType)) (M : va_W) (T2 : List (ClassId × FieldType)) (hGA : GA gd kA ad cB bS sK sV A s) (i : Nat) (hi : i + 5 ≤ L) (hL : L ≤ 320) (H : Heap) (locs : List Loc) (hLS : Lst dC dI ad bS Y s A h0 m0 ik vs kvs tl im vm kvm tm X T M T2 H) (cells slots : Nat) (hc0 : cells ≤ 590000) (hs0 : slots ≤ 7000000) (hS : va_S A s.heap H locs) (ls : Array Slot) (hl : lv_has ls 4 [(0, .ref b), (1, .ref h0), (2, .ref m0), (3, .int (nI i))]) (hcp : ik = im ∧ vs = vm ∧ (im = 0 ∨ kvs = kvm) ∧ tl = tm) (kk : ∀ (ik : Int32) (vs kvs : VS) (tl : List Nat) (im : Int32) (vm kvm : VS) (tm : List Nat) (X : va_W) (T : List (ClassId × FieldType)) (M : va_W) (H : Heap) (locs : List Loc), Lst dC dI ad bS Y s A h0 m0 ik vs kvs tl im vm kvm tm X T M T2 H → (ik = im ∧ vs = vm ∧ (im = 0 ∨ kvs = kvm) ∧ tl = tm) → va_S A s.heap H locs → W p l e room_1 s m #[Value.ref b] below meth c H locs (cells + 8) (slots + 200) (lw_Z below #[Value.ref b] s) (F0 m 1108 ls [])) : W p l e room_1 s m #[Value.ref b] below meth c H locs cells slots (lw_Z below #[Value.ref b] s) (F0 m 290 ls []) := by
  obtain ⟨hx, hb, hr, hml, hown, hts0, hX, hbl, hlocks, hgv⟩ := id C0
  have hown : s.vm.findClass RL = some m.cls := hown
  have hb : c.code = cL_law := hb
  have hts : ∀ w ∈ lw_tbl, w.before #[Value.ref b] s = true := fun w h => hts0 w (wsL_law_in w h)
  have hA : ∀ q : Nat, s.heap.size ≤ q → A q := fun q h => by rw [hAe]; exact h
  have hbA : ¬ A b := by rw [hAe]; exact Nat.not_le.mpr hbl
  refine lv_aload_n hx hb dL_law_290 rfl (lv_at hl 1 rfl) ?_
  refine lv_aload_n hx hb dL_law_291 rfl (lv_at hl 0 rfl) ?_
  refine lv_iload_n hx hb dL_law_292 rfl (lv_at hl 3 rfl) ?_
  refine lv_iconst (v := 1) hx hb dL_law_293 (by decide) ?_
  refine lv_iadd hx hb dL_law_294 ?_
  refine qi_as (y := nI (i + 1)) (nI_add i 1) ?_
  refine va_sld hx hb hX hbl hbA hS (vp_in_nI (n := i + 1) (N := L) (by omega) (by omega)) dL_law_295 ?_
  refine qi_as (y := xs (i + 1)) (by rw [nI_clamp (by omega)]) ?_
  refine lx_i (va_runV (As := [.int (xs (i + 1))]) (rest := []) ⟨hx, hb, hml, hown, hts⟩ (w_told l dC dI gd kA ad cB bS sK sV Y ik vs kvs tl T h0 X (xs (i + 1)) H.size) (cwV 1 hts gL_law_X11_told rfl rfl rfl hd_yX11_told ⟨Nat.le_of_ble_eq_true rfl, Nat.le_of_ble_eq_true rfl⟩) ⟨fun a U g mk q => by obtain ⟨q0, q1, qX, qK, qY1, qY2, qG⟩ := q; exact ⟨q0, mvz g mk a q1, qX, mvK g mk a qK, qY1, qY2, qG.same rfl rfl⟩, hLS.1.recv hLS.2.2.1, fun U hU hW => ⟨rfl, by rw [hU], by rw [hU]; exact hLS.1, va_K.moved hW.alike hLS.2.2.1, hLS.2.2.2.2.2.2.1, fun q hq hy => absurd (hLS.2.2.2.2.2.2.2.2 q hy) (Nat.not_lt.mpr hq), hGA.call hS hU hW (bl_in hLS.2.2.2.2.1 hS hA)⟩⟩ rfl rfl hl.1 rfl (lv_room (Nat.le_of_ble_eq_true rfl)) dL_law_296 ⟨by show _ ≤ 600000; omega, by show _ ≤ 7302250; omega⟩) hLS hS hA (fun r1_ u_ H locs X T hp1 hLS hS => ?_)
  obtain ⟨e1_, rfl⟩ := hp1
  have hLS : Lst dC dI ad bS Y s A h0 m0 ik vs kvs tl im vm kvm tm X T M T2 H := hLS
  refine lv_pop hx hb dL_law_299 rfl ?_
  refine lv_aload_n hx hb dL_law_300 rfl (lv_at hl 2 rfl) ?_
  refine lv_aload_n hx hb dL_law_301 rfl (lv_at hl 0 rfl) ?_
  refine lv_iload_n hx hb dL_law_302 rfl (lv_at hl 3 rfl) ?_
  refine lv_iconst (v := 1) hx hb dL_law_303 (by decide) ?_
  refine lv_iadd hx hb dL_law_304 ?_
  refine qi_as (y := nI (i + 1)) (nI_add i 1) ?_
  refine va_sld hx hb hX hbl hbA hS (vp_in_nI (n := i + 1) (N := L) (by omega) (by omega)) dL_law_305 ?_
  refine qi_as (y := xs (i + 1)) (by rw [nI_clamp (by omega)]) ?_
  refine lm_i (va_runV (As := [.int (xs (i + 1))]) (rest := []) ⟨hx, hb, hml, hown, hts⟩ (v_told l dC dI sK sV im vm kvm tm T2 m0 M (xs (i + 1)) H.size) (cwV 1 hts gL_law_X12_told rfl rfl rfl hd_yX12_told ⟨Nat.le_of_ble_eq_true rfl, Nat.le_of_ble_eq_true rfl⟩) ⟨fun a U g mk q => by obtain ⟨q0, q1, qX, qK, qG⟩ := q; exact ⟨q0, mvz g mk a q1, qX, mvK g mk a qK, qG.same rfl rfl⟩, hLS.2.1.recv hLS.2.2.2.1, fun U hU hW => ⟨rfl, by rw [hU], by rw [hU]; exact hLS.2.1, va_K.moved hW.alike hLS.2.2.2.1, hGA.2.2.2.2.2.2.call hS hU hW (bl_in hLS.2.2.2.2.2.1 hS hA)⟩⟩ rfl rfl hl.1 rfl (lv_room (Nat.le_of_ble_eq_true rfl)) dL_law_306 ⟨by show _ ≤ 600000; omega, by show _ ≤ 7302250; omega⟩) hLS hS hA (fun r2_ u_ H locs M hp2 hLS hS => ?_)
  obtain ⟨e2_, rfl⟩ := hp2
  have hLS : Lst dC dI ad bS Y s A h0 m0 ik vs kvs tl im vm kvm tm X T M T2 H := hLS
  refine lv_pop hx hb dL_law_309 rfl ?_
  refine lv_goto (tgt := 1108) hx hb dL_law_310 (by decide) ?_
  refine W.widen (k := cells + 8) (n := slots + 200) (by omega) (by omega) ?_
  exact kk ik vs kvs tl im vm kvm tm X T M H locs hLS ⟨hcp.1, by rw [hcp.2.1], hcp.2.2⟩ hS

set_option maxHeartbeats 4000000 in
set_option maxRecDepth 100000 in
theorem lc_5 {p : Program} {l : Launch} {e : Env} {s : State} {m : MethodId} {below : List Frame} {meth : Method} {c : Code} {b L : Nat} {xs : Nat → Int32} {A : Nat → Prop} (hAe : A = fun q => s.heap.size ≤ q) (C0 : lw_At p s m meth c b L xs) (dC : Nat → ClassId) (dI : Nat → Nat → Nat) (gd : Nat → Nat) (kA : Nat) (ad : Nat → Nat) (cB bS : Nat) (sK sV : Nat → Nat) (Y : Nat → Prop) (h0 m0 : Nat) (ik : Int32) (vs kvs : VS) (tl : List Nat) (im : Int32) (vm kvm : VS) (tm : List Nat) (X : va_W) (T : List (ClassId × FieldType)) (M : va_W) (T2 : List (ClassId × FieldType)) (hGA : GA gd kA ad cB bS sK sV A s) (i : Nat) (hi : i + 5 ≤ L) (hL : L ≤ 320) (H : Heap) (locs : List Loc) (hLS : Lst dC dI ad bS Y s A h0 m0 ik vs kvs tl im vm kvm tm X T M T2 H) (cells slots : Nat) (hc0 : cells ≤ 590000) (hs0 : slots ≤ 7000000) (hS : va_S A s.heap H locs) (ls : Array Slot) (hl : lv_has ls 4 [(0, .ref b), (1, .ref h0), (2, .ref m0), (3, .int (nI i))]) (hcp : ik = im ∧ vs = vm ∧ (im = 0 ∨ kvs = kvm) ∧ tl = tm) (kk : ∀ (ik : Int32) (vs kvs : VS) (tl : List Nat) (im : Int32) (vm kvm : VS) (tm : List Nat) (X : va_W) (T : List (ClassId × FieldType)) (M : va_W) (H : Heap) (locs : List Loc), Lst dC dI ad bS Y s A h0 m0 ik vs kvs tl im vm kvm tm X T M T2 H → (ik = im ∧ vs = vm ∧ (im = 0 ∨ kvs = kvm) ∧ tl = tm) → va_S A s.heap H locs → W p l e room_1 s m #[Value.ref b] below meth c H locs (cells + 8) (slots + 200) (lw_Z below #[Value.ref b] s) (F0 m 1108 ls [])) : W p l e room_1 s m #[Value.ref b] below meth c H locs cells slots (lw_Z below #[Value.ref b] s) (F0 m 313 ls []) := by
  obtain ⟨hx, hb, hr, hml, hown, hts0, hX, hbl, hlocks, hgv⟩ := id C0
  have hown : s.vm.findClass RL = some m.cls := hown
  have hb : c.code = cL_law := hb
  have hts : ∀ w ∈ lw_tbl, w.before #[Value.ref b] s = true := fun w h => hts0 w (wsL_law_in w h)
  have hA : ∀ q : Nat, s.heap.size ≤ q → A q := fun q h => by rw [hAe]; exact h
  have hbA : ¬ A b := by rw [hAe]; exact Nat.not_le.mpr hbl
  refine lv_aload_n hx hb dL_law_313 rfl (lv_at hl 1 rfl) ?_
  refine lv_aload_n hx hb dL_law_314 rfl (lv_at hl 0 rfl) ?_
  refine lv_iload_n hx hb dL_law_315 rfl (lv_at hl 3 rfl) ?_
  refine lv_iconst (v := 1) hx hb dL_law_316 (by decide) ?_
  refine lv_iadd hx hb dL_law_317 ?_
  refine qi_as (y := nI (i + 1)) (nI_add i 1) ?_
  refine va_sld hx hb hX hbl hbA hS (vp_in_nI (n := i + 1) (N := L) (by omega) (by omega)) dL_law_318 ?_
  refine qi_as (y := xs (i + 1)) (by rw [nI_clamp (by omega)]) ?_
  refine lv_aload_n hx hb dL_law_319 rfl (lv_at hl 0 rfl) ?_
  refine lv_iload_n hx hb dL_law_320 rfl (lv_at hl 3 rfl) ?_
  refine lv_iconst (v := 2) hx hb dL_law_321 (by decide) ?_
  refine lv_iadd hx hb dL_law_322 ?_
  refine qi_as (y := nI (i + 2)) (nI_add i 2) ?_
  refine va_sld hx hb hX hbl hbA hS (vp_in_nI (n := i + 2) (N := L) (by omega) (by omega)) dL_law_323 ?_
  refine qi_as (y := xs (i + 2)) (by rw [nI_clamp (by omega)]) ?_
  refine lv_aload_n hx hb dL_law_324 rfl (lv_at hl 0 rfl) ?_
  refine lv_iload_n hx hb dL_law_325 rfl (lv_at hl 3 rfl) ?_
  refine lv_iconst (v := 3) hx hb dL_law_326 (by decide) ?_
  refine lv_iadd hx hb dL_law_327 ?_
  refine qi_as (y := nI (i + 3)) (nI_add i 3) ?_
  refine va_sld hx hb hX hbl hbA hS (vp_in_nI (n := i + 3) (N := L) (by omega) (by omega)) dL_law_328 ?_
  refine qi_as (y := xs (i + 3)) (by rw [nI_clamp (by omega)]) ?_
  refine lx_i (va_runV (As := [.int (xs (i + 1)), .int (xs (i + 2)), .int (xs (i + 3))]) (rest := []) ⟨hx, hb, hml, hown, hts⟩ (w_heap l dC dI gd kA ad cB bS sK sV Y ik vs kvs tl T h0 X (xs (i + 1)) (xs (i + 2)) (xs (i + 3)) H.size) (cwV 3 hts gL_law_X11_heap rfl rfl rfl hd_yX11_heap ⟨Nat.le_of_ble_eq_true rfl, Nat.le_of_ble_eq_true rfl⟩) ⟨fun a U g mk q => by obtain ⟨q0, q1, qX, qK, qY1, qY2, qG⟩ := q; exact ⟨q0, mvz g mk a q1, qX, mvK g mk a qK, qY1, qY2, qG.same rfl rfl⟩, hLS.1.recv hLS.2.2.1, fun U hU hW => ⟨rfl, by rw [hU], by rw [hU]; exact hLS.1, va_K.moved hW.alike hLS.2.2.1, hLS.2.2.2.2.2.2.1, fun q hq hy => absurd (hLS.2.2.2.2.2.2.2.2 q hy) (Nat.not_lt.mpr hq), hGA.call hS hU hW (bl_in hLS.2.2.2.2.1 hS hA)⟩⟩ rfl rfl hl.1 rfl (lv_room (Nat.le_of_ble_eq_true rfl)) dL_law_329 ⟨by show _ ≤ 600000; omega, by show _ ≤ 7302250; omega⟩) hLS hS hA (fun r1_ u_ H locs X T hp1 hLS hS => ?_)
  obtain ⟨e1_, rfl⟩ := hp1
  have hLS : Lst dC dI ad bS Y s A h0 m0 ik (hpF vs (xs (i + 1)) (xs (i + 2)) (xs (i + 3))) kvs tl im vm kvm tm X T M T2 H := hLS
  refine lv_pop hx hb dL_law_332 rfl ?_
  refine lv_aload_n hx hb dL_law_333 rfl (lv_at hl 2 rfl) ?_
  refine lv_aload_n hx hb dL_law_334 rfl (lv_at hl 0 rfl) ?_
  refine lv_iload_n hx hb dL_law_335 rfl (lv_at hl 3 rfl) ?_
  refine lv_iconst (v := 1) hx hb dL_law_336 (by decide) ?_
  refine lv_iadd hx hb dL_law_337 ?_
  refine qi_as (y := nI (i + 1)) (nI_add i 1) ?_
  refine va_sld hx hb hX hbl hbA hS (vp_in_nI (n := i + 1) (N := L) (by omega) (by omega)) dL_law_338 ?_
  refine qi_as (y := xs (i + 1)) (by rw [nI_clamp (by omega)]) ?_
  refine lv_aload_n hx hb dL_law_339 rfl (lv_at hl 0 rfl) ?_
  refine lv_iload_n hx hb dL_law_340 rfl (lv_at hl 3 rfl) ?_
  refine lv_iconst (v := 2) hx hb dL_law_341 (by decide) ?_
  refine lv_iadd hx hb dL_law_342 ?_
  refine qi_as (y := nI (i + 2)) (nI_add i 2) ?_
  refine va_sld hx hb hX hbl hbA hS (vp_in_nI (n := i + 2) (N := L) (by omega) (by omega)) dL_law_343 ?_
  refine qi_as (y := xs (i + 2)) (by rw [nI_clamp (by omega)]) ?_
  refine lv_aload_n hx hb dL_law_344 rfl (lv_at hl 0 rfl) ?_
  refine lv_iload_n hx hb dL_law_345 rfl (lv_at hl 3 rfl) ?_
  refine lv_iconst (v := 3) hx hb dL_law_346 (by decide) ?_
  refine lv_iadd hx hb dL_law_347 ?_
  refine qi_as (y := nI (i + 3)) (nI_add i 3) ?_
  refine va_sld hx hb hX hbl hbA hS (vp_in_nI (n := i + 3) (N := L) (by omega) (by omega)) dL_law_348 ?_
  refine qi_as (y := xs (i + 3)) (by rw [nI_clamp (by omega)]) ?_
  refine lm_i (va_runV (As := [.int (xs (i + 1)), .int (xs (i + 2)), .int (xs (i + 3))]) (rest := []) ⟨hx, hb, hml, hown, hts⟩ (v_heap l dC dI sK sV im vm kvm tm T2 m0 M (xs (i + 1)) (xs (i + 2)) (xs (i + 3)) H.size) (cwV 3 hts gL_law_X12_heap rfl rfl rfl hd_yX12_heap ⟨Nat.le_of_ble_eq_true rfl, Nat.le_of_ble_eq_true rfl⟩) ⟨fun a U g mk q => by obtain ⟨q0, q1, qX, qK, qG⟩ := q; exact ⟨q0, mvz g mk a q1, qX, mvK g mk a qK, qG.same rfl rfl⟩, hLS.2.1.recv hLS.2.2.2.1, fun U hU hW => ⟨rfl, by rw [hU], by rw [hU]; exact hLS.2.1, va_K.moved hW.alike hLS.2.2.2.1, hGA.2.2.2.2.2.2.call hS hU hW (bl_in hLS.2.2.2.2.2.1 hS hA)⟩⟩ rfl rfl hl.1 rfl (lv_room (Nat.le_of_ble_eq_true rfl)) dL_law_349 ⟨by show _ ≤ 600000; omega, by show _ ≤ 7302250; omega⟩) hLS hS hA (fun r2_ u_ H locs M hp2 hLS hS => ?_)
  obtain ⟨e2_, rfl⟩ := hp2
  have hLS : Lst dC dI ad bS Y s A h0 m0 ik (hpF vs (xs (i + 1)) (xs (i + 2)) (xs (i + 3))) kvs tl im (hpF vm (xs (i + 1)) (xs (i + 2)) (xs (i + 3))) kvm tm X T M T2 H := hLS
  refine lv_pop hx hb dL_law_352 rfl ?_
  refine lv_goto (tgt := 1108) hx hb dL_law_353 (by decide) ?_
  refine W.widen (k := cells + 8) (n := slots + 200) (by omega) (by omega) ?_
  exact kk ik (hpF vs (xs (i + 1)) (xs (i + 2)) (xs (i + 3))) kvs tl im (hpF vm (xs (i + 1)) (xs (i + 2)) (xs (i + 3))) kvm tm X T M H locs hLS ⟨hcp.1, by rw [hcp.2.1], hcp.2.2⟩ hS

set_option maxHeartbeats 4000000 in
set_option maxRecDepth 100000 in
theorem lc_6 {p : Program} {l : Launch} {e : Env} {s : State} {m : MethodId} {below : List Frame} {meth : Method} {c : Code} {b L : Nat} {xs : Nat → Int32} {A : Nat → Prop} (hAe : A = fun q => s.heap.size ≤ q) (C0 : lw_At p s m meth c b L xs) (dC : Nat → ClassId) (dI : Nat → Nat → Nat) (gd : Nat → Nat) (kA : Nat) (ad : Nat → Nat) (cB bS : Nat) (sK sV : Nat → Nat) (Y : Nat → Prop) (h0 m0 : Nat) (ik : Int32) (vs kvs : VS) (tl : List Nat) (im : Int32) (vm kvm : VS) (tm : List Nat) (X : va_W) (T : List (ClassId × FieldType)) (M : va_W) (T2 : List (ClassId × FieldType)) (hGA : GA gd kA ad cB bS sK sV A s) (i : Nat) (hi : i + 5 ≤ L) (hL : L ≤ 320) (H : Heap) (locs : List Loc) (hLS : Lst dC dI ad bS Y s A h0 m0 ik vs kvs tl im vm kvm tm X T M T2 H) (cells slots : Nat) (hc0 : cells ≤ 590000) (hs0 : slots ≤ 7000000) (hS : va_S A s.heap H locs) (ls : Array Slot) (hl : lv_has ls 4 [(0, .ref b), (1, .ref h0), (2, .ref m0), (3, .int (nI i))]) (hcp : ik = im ∧ vs = vm ∧ (im = 0 ∨ kvs = kvm) ∧ tl = tm) (kk : ∀ (ik : Int32) (vs kvs : VS) (tl : List Nat) (im : Int32) (vm kvm : VS) (tm : List Nat) (X : va_W) (T : List (ClassId × FieldType)) (M : va_W) (H : Heap) (locs : List Loc), Lst dC dI ad bS Y s A h0 m0 ik vs kvs tl im vm kvm tm X T M T2 H → (ik = im ∧ vs = vm ∧ (im = 0 ∨ kvs = kvm) ∧ tl = tm) → va_S A s.heap H locs → W p l e room_1 s m #[Value.ref b] below meth c H locs (cells + 8) (slots + 200) (lw_Z below #[Value.ref b] s) (F0 m 1108 ls [])) : W p l e room_1 s m #[Value.ref b] below meth c H locs cells slots (lw_Z below #[Value.ref b] s) (F0 m 356 ls []) := by
  obtain ⟨hx, hb, hr, hml, hown, hts0, hX, hbl, hlocks, hgv⟩ := id C0
  have hown : s.vm.findClass RL = some m.cls := hown
  have hb : c.code = cL_law := hb
  have hts : ∀ w ∈ lw_tbl, w.before #[Value.ref b] s = true := fun w h => hts0 w (wsL_law_in w h)
  have hA : ∀ q : Nat, s.heap.size ≤ q → A q := fun q h => by rw [hAe]; exact h
  have hbA : ¬ A b := by rw [hAe]; exact Nat.not_le.mpr hbl
  refine lv_aload_n hx hb dL_law_356 rfl (lv_at hl 1 rfl) ?_
  refine lv_aload_n hx hb dL_law_357 rfl (lv_at hl 0 rfl) ?_
  refine lv_iload_n hx hb dL_law_358 rfl (lv_at hl 3 rfl) ?_
  refine lv_iconst (v := 1) hx hb dL_law_359 (by decide) ?_
  refine lv_iadd hx hb dL_law_360 ?_
  refine qi_as (y := nI (i + 1)) (nI_add i 1) ?_
  refine va_sld hx hb hX hbl hbA hS (vp_in_nI (n := i + 1) (N := L) (by omega) (by omega)) dL_law_361 ?_
  refine qi_as (y := xs (i + 1)) (by rw [nI_clamp (by omega)]) ?_
  refine lv_aload_n hx hb dL_law_362 rfl (lv_at hl 0 rfl) ?_
  refine lv_iload_n hx hb dL_law_363 rfl (lv_at hl 3 rfl) ?_
  refine lv_iconst (v := 2) hx hb dL_law_364 (by decide) ?_
  refine lv_iadd hx hb dL_law_365 ?_
  refine qi_as (y := nI (i + 2)) (nI_add i 2) ?_
  refine va_sld hx hb hX hbl hbA hS (vp_in_nI (n := i + 2) (N := L) (by omega) (by omega)) dL_law_366 ?_
  refine qi_as (y := xs (i + 2)) (by rw [nI_clamp (by omega)]) ?_
  refine lx_i (va_runV (As := [.int (xs (i + 1)), .int (xs (i + 2))]) (rest := []) ⟨hx, hb, hml, hown, hts⟩ (w_of l dC dI gd kA ad cB bS sK sV Y ik vs kvs tl T h0 X (xs (i + 1)) (xs (i + 2)) H.size) (cwV 2 hts gL_law_X11_of rfl rfl rfl hd_yX11_of ⟨Nat.le_of_ble_eq_true rfl, Nat.le_of_ble_eq_true rfl⟩) ⟨fun a U g mk q => by obtain ⟨q0, q1, qX, qK, qY1, qY2, qG⟩ := q; exact ⟨q0, mvz g mk a q1, qX, mvK g mk a qK, qY1, qY2, qG.same rfl rfl⟩, hLS.1.recv hLS.2.2.1, fun U hU hW => ⟨rfl, by rw [hU], by rw [hU]; exact hLS.1, va_K.moved hW.alike hLS.2.2.1, hLS.2.2.2.2.2.2.1, fun q hq hy => absurd (hLS.2.2.2.2.2.2.2.2 q hy) (Nat.not_lt.mpr hq), hGA.call hS hU hW (bl_in hLS.2.2.2.2.1 hS hA)⟩⟩ rfl rfl hl.1 rfl (lv_room (Nat.le_of_ble_eq_true rfl)) dL_law_367 ⟨by show _ ≤ 600000; omega, by show _ ≤ 7302250; omega⟩) hLS hS hA (fun r1_ u_ H locs X T hp1 hLS hS => ?_)
  obtain ⟨e1_, rfl⟩ := hp1
  have hLS : Lst dC dI ad bS Y s A h0 m0 ik vs kvs tl im vm kvm tm X T M T2 H := hLS
  refine lv_pop hx hb dL_law_370 rfl ?_
  refine lv_aload_n hx hb dL_law_371 rfl (lv_at hl 2 rfl) ?_
  refine lv_aload_n hx hb dL_law_372 rfl (lv_at hl 0 rfl) ?_
  refine lv_iload_n hx hb dL_law_373 rfl (lv_at hl 3 rfl) ?_
  refine lv_iconst (v := 1) hx hb dL_law_374 (by decide) ?_
  refine lv_iadd hx hb dL_law_375 ?_
  refine qi_as (y := nI (i + 1)) (nI_add i 1) ?_
  refine va_sld hx hb hX hbl hbA hS (vp_in_nI (n := i + 1) (N := L) (by omega) (by omega)) dL_law_376 ?_
  refine qi_as (y := xs (i + 1)) (by rw [nI_clamp (by omega)]) ?_
  refine lv_aload_n hx hb dL_law_377 rfl (lv_at hl 0 rfl) ?_
  refine lv_iload_n hx hb dL_law_378 rfl (lv_at hl 3 rfl) ?_
  refine lv_iconst (v := 2) hx hb dL_law_379 (by decide) ?_
  refine lv_iadd hx hb dL_law_380 ?_
  refine qi_as (y := nI (i + 2)) (nI_add i 2) ?_
  refine va_sld hx hb hX hbl hbA hS (vp_in_nI (n := i + 2) (N := L) (by omega) (by omega)) dL_law_381 ?_
  refine qi_as (y := xs (i + 2)) (by rw [nI_clamp (by omega)]) ?_
  refine lm_i (va_runV (As := [.int (xs (i + 1)), .int (xs (i + 2))]) (rest := []) ⟨hx, hb, hml, hown, hts⟩ (v_of l dC dI sK sV im vm kvm tm T2 m0 M (xs (i + 1)) (xs (i + 2)) H.size) (cwV 2 hts gL_law_X12_of rfl rfl rfl hd_yX12_of ⟨Nat.le_of_ble_eq_true rfl, Nat.le_of_ble_eq_true rfl⟩) ⟨fun a U g mk q => by obtain ⟨q0, q1, qX, qK, qG⟩ := q; exact ⟨q0, mvz g mk a q1, qX, mvK g mk a qK, qG.same rfl rfl⟩, hLS.2.1.recv hLS.2.2.2.1, fun U hU hW => ⟨rfl, by rw [hU], by rw [hU]; exact hLS.2.1, va_K.moved hW.alike hLS.2.2.2.1, hGA.2.2.2.2.2.2.call hS hU hW (bl_in hLS.2.2.2.2.2.1 hS hA)⟩⟩ rfl rfl hl.1 rfl (lv_room (Nat.le_of_ble_eq_true rfl)) dL_law_382 ⟨by show _ ≤ 600000; omega, by show _ ≤ 7302250; omega⟩) hLS hS hA (fun r2_ u_ H locs M hp2 hLS hS => ?_)
  obtain ⟨e2_, rfl⟩ := hp2
  have hLS : Lst dC dI ad bS Y s A h0 m0 ik vs kvs tl im vm kvm tm X T M T2 H := hLS
  refine lv_pop hx hb dL_law_385 rfl ?_
  refine lv_goto (tgt := 1108) hx hb dL_law_386 (by decide) ?_
  refine W.widen (k := cells + 8) (n := slots + 200) (by omega) (by omega) ?_
  exact kk ik vs kvs tl im vm kvm tm X T M H locs hLS ⟨hcp.1, by rw [hcp.2.1], hcp.2.2⟩ hS
end mg22a
section mg22a
noncomputable def dk22ccase_cL_law_0 : List (Nat × List Nat) := [(389, [43]), (390, [42]), (391, [29]), (392, [4]), (393, [96]), (394, [46]), (395, [182, 0, 48]), (398, [87]), (399, [44]), (400, [42]), (401, [29]), (402, [4]), (403, [96]), (404, [46]), (405, [182, 0, 51]), (408, [87]), (409, [167, 2, 187]), (412, [43]), (413, [42]), (414, [29]), (415, [4]), (416, [96]), (417, [46]), (418, [182, 0, 52]), (421, [88]), (422, [44]), (423, [42]), (424, [29]), (425, [4]), (426, [96]), (427, [46]), (428, [182, 0, 56]), (431, [88]), (432, [167, 2, 164])]
set_option maxRecDepth 100000 in
theorem dk22ccase_cL_law_0_a : btA cL_law dk22ccase_cL_law_0 = true := by decide +kernel
theorem dL_law_389 : decode cL_law 389 = .ok (.aload_n 1, 1) := bd43 (btAt dk22ccase_cL_law_0_a 0 rfl)
theorem dL_law_390 : decode cL_law 390 = .ok (.aload_n 0, 1) := bd42 (btAt dk22ccase_cL_law_0_a 1 rfl)
theorem dL_law_391 : decode cL_law 391 = .ok (.iload_n 3, 1) := bd29 (btAt dk22ccase_cL_law_0_a 2 rfl)
theorem dL_law_392 : decode cL_law 392 = .ok (.iconst 1, 1) := bd4 (btAt dk22ccase_cL_law_0_a 3 rfl)
theorem dL_law_393 : decode cL_law 393 = .ok (.iadd, 1) := bd96 (btAt dk22ccase_cL_law_0_a 4 rfl)
theorem dL_law_394 : decode cL_law 394 = .ok (.iaload, 1) := bd46 (btAt dk22ccase_cL_law_0_a 5 rfl)
theorem dL_law_395 : decode cL_law 395 = .ok (.invokevirtual 48, 3) := bd182 (a := 0) (b := 48) (btAt dk22ccase_cL_law_0_a 6 rfl)
theorem dL_law_398 : decode cL_law 398 = .ok (.pop, 1) := bd87 (btAt dk22ccase_cL_law_0_a 7 rfl)
theorem dL_law_399 : decode cL_law 399 = .ok (.aload_n 2, 1) := bd44 (btAt dk22ccase_cL_law_0_a 8 rfl)
theorem dL_law_400 : decode cL_law 400 = .ok (.aload_n 0, 1) := bd42 (btAt dk22ccase_cL_law_0_a 9 rfl)
theorem dL_law_401 : decode cL_law 401 = .ok (.iload_n 3, 1) := bd29 (btAt dk22ccase_cL_law_0_a 10 rfl)
theorem dL_law_402 : decode cL_law 402 = .ok (.iconst 1, 1) := bd4 (btAt dk22ccase_cL_law_0_a 11 rfl)
theorem dL_law_403 : decode cL_law 403 = .ok (.iadd, 1) := bd96 (btAt dk22ccase_cL_law_0_a 12 rfl)
theorem dL_law_404 : decode cL_law 404 = .ok (.iaload, 1) := bd46 (btAt dk22ccase_cL_law_0_a 13 rfl)
theorem dL_law_405 : decode cL_law 405 = .ok (.invokevirtual 51, 3) := bd182 (a := 0) (b := 51) (btAt dk22ccase_cL_law_0_a 14 rfl)
theorem dL_law_408 : decode cL_law 408 = .ok (.pop, 1) := bd87 (btAt dk22ccase_cL_law_0_a 15 rfl)
theorem dL_law_409 : decode cL_law 409 = .ok (.goto 699, 3) := bd167 (a := 2) (b := 187) (btAt dk22ccase_cL_law_0_a 16 rfl)
theorem dL_law_412 : decode cL_law 412 = .ok (.aload_n 1, 1) := bd43 (btAt dk22ccase_cL_law_0_a 17 rfl)
theorem dL_law_413 : decode cL_law 413 = .ok (.aload_n 0, 1) := bd42 (btAt dk22ccase_cL_law_0_a 18 rfl)
theorem dL_law_414 : decode cL_law 414 = .ok (.iload_n 3, 1) := bd29 (btAt dk22ccase_cL_law_0_a 19 rfl)
theorem dL_law_415 : decode cL_law 415 = .ok (.iconst 1, 1) := bd4 (btAt dk22ccase_cL_law_0_a 20 rfl)
theorem dL_law_416 : decode cL_law 416 = .ok (.iadd, 1) := bd96 (btAt dk22ccase_cL_law_0_a 21 rfl)
theorem dL_law_417 : decode cL_law 417 = .ok (.iaload, 1) := bd46 (btAt dk22ccase_cL_law_0_a 22 rfl)
theorem dL_law_418 : decode cL_law 418 = .ok (.invokevirtual 52, 3) := bd182 (a := 0) (b := 52) (btAt dk22ccase_cL_law_0_a 23 rfl)
theorem dL_law_421 : decode cL_law 421 = .ok (.pop2, 1) := bd88 (btAt dk22ccase_cL_law_0_a 24 rfl)
theorem dL_law_422 : decode cL_law 422 = .ok (.aload_n 2, 1) := bd44 (btAt dk22ccase_cL_law_0_a 25 rfl)
theorem dL_law_423 : decode cL_law 423 = .ok (.aload_n 0, 1) := bd42 (btAt dk22ccase_cL_law_0_a 26 rfl)
theorem dL_law_424 : decode cL_law 424 = .ok (.iload_n 3, 1) := bd29 (btAt dk22ccase_cL_law_0_a 27 rfl)
theorem dL_law_425 : decode cL_law 425 = .ok (.iconst 1, 1) := bd4 (btAt dk22ccase_cL_law_0_a 28 rfl)
theorem dL_law_426 : decode cL_law 426 = .ok (.iadd, 1) := bd96 (btAt dk22ccase_cL_law_0_a 29 rfl)
theorem dL_law_427 : decode cL_law 427 = .ok (.iaload, 1) := bd46 (btAt dk22ccase_cL_law_0_a 30 rfl)
theorem dL_law_428 : decode cL_law 428 = .ok (.invokevirtual 56, 3) := bd182 (a := 0) (b := 56) (btAt dk22ccase_cL_law_0_a 31 rfl)
theorem dL_law_431 : decode cL_law 431 = .ok (.pop2, 1) := bd88 (btAt dk22ccase_cL_law_0_a 32 rfl)
theorem dL_law_432 : decode cL_law 432 = .ok (.goto 676, 3) := bd167 (a := 2) (b := 164) (btAt dk22ccase_cL_law_0_a 33 rfl)
set_option maxHeartbeats 4000000 in
set_option maxRecDepth 100000 in
theorem lc_7 {p : Program} {l : Launch} {e : Env} {s : State} {m : MethodId} {below : List Frame} {meth : Method} {c : Code} {b L : Nat} {xs : Nat → Int32} {A : Nat → Prop} (hAe : A = fun q => s.heap.size ≤ q) (C0 : lw_At p s m meth c b L xs) (dC : Nat → ClassId) (dI : Nat → Nat → Nat) (gd : Nat → Nat) (kA : Nat) (ad : Nat → Nat) (cB bS : Nat) (sK sV : Nat → Nat) (Y : Nat → Prop) (h0 m0 : Nat) (ik : Int32) (vs kvs : VS) (tl : List Nat) (im : Int32) (vm kvm : VS) (tm : List Nat) (X : va_W) (T : List (ClassId × FieldType)) (M : va_W) (T2 : List (ClassId × FieldType)) (hGA : GA gd kA ad cB bS sK sV A s) (i : Nat) (hi : i + 5 ≤ L) (hL : L ≤ 320) (H : Heap) (locs : List Loc) (hLS : Lst dC dI ad bS Y s A h0 m0 ik vs kvs tl im vm kvm tm X T M T2 H) (cells slots : Nat) (hc0 : cells ≤ 590000) (hs0 : slots ≤ 7000000) (hS : va_S A s.heap H locs) (ls : Array Slot) (hl : lv_has ls 4 [(0, .ref b), (1, .ref h0), (2, .ref m0), (3, .int (nI i))]) (hcp : ik = im ∧ vs = vm ∧ (im = 0 ∨ kvs = kvm) ∧ tl = tm) (kk : ∀ (ik : Int32) (vs kvs : VS) (tl : List Nat) (im : Int32) (vm kvm : VS) (tm : List Nat) (X : va_W) (T : List (ClassId × FieldType)) (M : va_W) (H : Heap) (locs : List Loc), Lst dC dI ad bS Y s A h0 m0 ik vs kvs tl im vm kvm tm X T M T2 H → (ik = im ∧ vs = vm ∧ (im = 0 ∨ kvs = kvm) ∧ tl = tm) → va_S A s.heap H locs → W p l e room_1 s m #[Value.ref b] below meth c H locs (cells + 8) (slots + 200) (lw_Z below #[Value.ref b] s) (F0 m 1108 ls [])) : W p l e room_1 s m #[Value.ref b] below meth c H locs cells slots (lw_Z below #[Value.ref b] s) (F0 m 389 ls []) := by
  obtain ⟨hx, hb, hr, hml, hown, hts0, hX, hbl, hlocks, hgv⟩ := id C0
  have hown : s.vm.findClass RL = some m.cls := hown
  have hb : c.code = cL_law := hb
  have hts : ∀ w ∈ lw_tbl, w.before #[Value.ref b] s = true := fun w h => hts0 w (wsL_law_in w h)
  have hA : ∀ q : Nat, s.heap.size ≤ q → A q := fun q h => by rw [hAe]; exact h
  have hbA : ¬ A b := by rw [hAe]; exact Nat.not_le.mpr hbl
  refine lv_aload_n hx hb dL_law_389 rfl (lv_at hl 1 rfl) ?_
  refine lv_aload_n hx hb dL_law_390 rfl (lv_at hl 0 rfl) ?_
  refine lv_iload_n hx hb dL_law_391 rfl (lv_at hl 3 rfl) ?_
  refine lv_iconst (v := 1) hx hb dL_law_392 (by decide) ?_
  refine lv_iadd hx hb dL_law_393 ?_
  refine qi_as (y := nI (i + 1)) (nI_add i 1) ?_
  refine va_sld hx hb hX hbl hbA hS (vp_in_nI (n := i + 1) (N := L) (by omega) (by omega)) dL_law_394 ?_
  refine qi_as (y := xs (i + 1)) (by rw [nI_clamp (by omega)]) ?_
  refine lx_i (va_runV (As := [.int (xs (i + 1))]) (rest := []) ⟨hx, hb, hml, hown, hts⟩ (w_sees l dC dI gd kA ad cB bS sK sV Y ik vs kvs tl T h0 X (xs (i + 1)) H.size) (cwV 1 hts gL_law_X11_sees rfl rfl rfl hd_yX11_sees ⟨Nat.le_of_ble_eq_true rfl, Nat.le_of_ble_eq_true rfl⟩) ⟨fun a U g mk q => by obtain ⟨q0, q1, qX, qK, qY1, qY2, qG⟩ := q; exact ⟨q0, mvz g mk a q1, qX, mvK g mk a qK, qY1, qY2, qG.same rfl rfl⟩, hLS.1.recv hLS.2.2.1, fun U hU hW => ⟨rfl, by rw [hU], by rw [hU]; exact hLS.1, va_K.moved hW.alike hLS.2.2.1, hLS.2.2.2.2.2.2.1, fun q hq hy => absurd (hLS.2.2.2.2.2.2.2.2 q hy) (Nat.not_lt.mpr hq), hGA.call hS hU hW (bl_in hLS.2.2.2.2.1 hS hA)⟩⟩ rfl rfl hl.1 rfl (lv_room (Nat.le_of_ble_eq_true rfl)) dL_law_395 ⟨by show _ ≤ 600000; omega, by show _ ≤ 7302250; omega⟩) hLS hS hA (fun r1_ u_ H locs X T hp1 hLS hS => ?_)
  obtain ⟨e1_, rfl⟩ := hp1
  have hLS : Lst dC dI ad bS Y s A h0 m0 ik vs kvs tl im vm kvm tm X T M T2 H := hLS
  refine lv_pop hx hb dL_law_398 rfl ?_
  refine lv_aload_n hx hb dL_law_399 rfl (lv_at hl 2 rfl) ?_
  refine lv_aload_n hx hb dL_law_400 rfl (lv_at hl 0 rfl) ?_
  refine lv_iload_n hx hb dL_law_401 rfl (lv_at hl 3 rfl) ?_
  refine lv_iconst (v := 1) hx hb dL_law_402 (by decide) ?_
  refine lv_iadd hx hb dL_law_403 ?_
  refine qi_as (y := nI (i + 1)) (nI_add i 1) ?_
  refine va_sld hx hb hX hbl hbA hS (vp_in_nI (n := i + 1) (N := L) (by omega) (by omega)) dL_law_404 ?_
  refine qi_as (y := xs (i + 1)) (by rw [nI_clamp (by omega)]) ?_
  refine lm_i (va_runV (As := [.int (xs (i + 1))]) (rest := []) ⟨hx, hb, hml, hown, hts⟩ (v_sees l dC dI sK sV im vm kvm tm T2 m0 M (xs (i + 1)) H.size) (cwV 1 hts gL_law_X12_sees rfl rfl rfl hd_yX12_sees ⟨Nat.le_of_ble_eq_true rfl, Nat.le_of_ble_eq_true rfl⟩) ⟨fun a U g mk q => by obtain ⟨q0, q1, qX, qK, qG⟩ := q; exact ⟨q0, mvz g mk a q1, qX, mvK g mk a qK, qG.same rfl rfl⟩, hLS.2.1.recv hLS.2.2.2.1, fun U hU hW => ⟨rfl, by rw [hU], by rw [hU]; exact hLS.2.1, va_K.moved hW.alike hLS.2.2.2.1, hGA.2.2.2.2.2.2.call hS hU hW (bl_in hLS.2.2.2.2.2.1 hS hA)⟩⟩ rfl rfl hl.1 rfl (lv_room (Nat.le_of_ble_eq_true rfl)) dL_law_405 ⟨by show _ ≤ 600000; omega, by show _ ≤ 7302250; omega⟩) hLS hS hA (fun r2_ u_ H locs M hp2 hLS hS => ?_)
  obtain ⟨e2_, rfl⟩ := hp2
  have hLS : Lst dC dI ad bS Y s A h0 m0 ik vs kvs tl im vm kvm tm X T M T2 H := hLS
  refine lv_pop hx hb dL_law_408 rfl ?_
  refine lv_goto (tgt := 1108) hx hb dL_law_409 (by decide) ?_
  refine W.widen (k := cells + 8) (n := slots + 200) (by omega) (by omega) ?_
  exact kk ik vs kvs tl im vm kvm tm X T M H locs hLS ⟨hcp.1, by rw [hcp.2.1], hcp.2.2⟩ hS

set_option maxHeartbeats 4000000 in
set_option maxRecDepth 100000 in
theorem lc_8 {p : Program} {l : Launch} {e : Env} {s : State} {m : MethodId} {below : List Frame} {meth : Method} {c : Code} {b L : Nat} {xs : Nat → Int32} {A : Nat → Prop} (hAe : A = fun q => s.heap.size ≤ q) (C0 : lw_At p s m meth c b L xs) (dC : Nat → ClassId) (dI : Nat → Nat → Nat) (gd : Nat → Nat) (kA : Nat) (ad : Nat → Nat) (cB bS : Nat) (sK sV : Nat → Nat) (Y : Nat → Prop) (h0 m0 : Nat) (ik : Int32) (vs kvs : VS) (tl : List Nat) (im : Int32) (vm kvm : VS) (tm : List Nat) (X : va_W) (T : List (ClassId × FieldType)) (M : va_W) (T2 : List (ClassId × FieldType)) (hGA : GA gd kA ad cB bS sK sV A s) (i : Nat) (hi : i + 5 ≤ L) (hL : L ≤ 320) (H : Heap) (locs : List Loc) (hLS : Lst dC dI ad bS Y s A h0 m0 ik vs kvs tl im vm kvm tm X T M T2 H) (cells slots : Nat) (hc0 : cells ≤ 590000) (hs0 : slots ≤ 7000000) (hS : va_S A s.heap H locs) (ls : Array Slot) (hl : lv_has ls 4 [(0, .ref b), (1, .ref h0), (2, .ref m0), (3, .int (nI i))]) (hcp : ik = im ∧ vs = vm ∧ (im = 0 ∨ kvs = kvm) ∧ tl = tm) (kk : ∀ (ik : Int32) (vs kvs : VS) (tl : List Nat) (im : Int32) (vm kvm : VS) (tm : List Nat) (X : va_W) (T : List (ClassId × FieldType)) (M : va_W) (H : Heap) (locs : List Loc), Lst dC dI ad bS Y s A h0 m0 ik vs kvs tl im vm kvm tm X T M T2 H → (ik = im ∧ vs = vm ∧ (im = 0 ∨ kvs = kvm) ∧ tl = tm) → va_S A s.heap H locs → W p l e room_1 s m #[Value.ref b] below meth c H locs (cells + 8) (slots + 200) (lw_Z below #[Value.ref b] s) (F0 m 1108 ls [])) : W p l e room_1 s m #[Value.ref b] below meth c H locs cells slots (lw_Z below #[Value.ref b] s) (F0 m 412 ls []) := by
  obtain ⟨hx, hb, hr, hml, hown, hts0, hX, hbl, hlocks, hgv⟩ := id C0
  have hown : s.vm.findClass RL = some m.cls := hown
  have hb : c.code = cL_law := hb
  have hts : ∀ w ∈ lw_tbl, w.before #[Value.ref b] s = true := fun w h => hts0 w (wsL_law_in w h)
  have hA : ∀ q : Nat, s.heap.size ≤ q → A q := fun q h => by rw [hAe]; exact h
  have hbA : ¬ A b := by rw [hAe]; exact Nat.not_le.mpr hbl
  refine lv_aload_n hx hb dL_law_412 rfl (lv_at hl 1 rfl) ?_
  refine lv_aload_n hx hb dL_law_413 rfl (lv_at hl 0 rfl) ?_
  refine lv_iload_n hx hb dL_law_414 rfl (lv_at hl 3 rfl) ?_
  refine lv_iconst (v := 1) hx hb dL_law_415 (by decide) ?_
  refine lv_iadd hx hb dL_law_416 ?_
  refine qi_as (y := nI (i + 1)) (nI_add i 1) ?_
  refine va_sld hx hb hX hbl hbA hS (vp_in_nI (n := i + 1) (N := L) (by omega) (by omega)) dL_law_417 ?_
  refine qi_as (y := xs (i + 1)) (by rw [nI_clamp (by omega)]) ?_
  refine lx_l (va_runV (As := [.int (xs (i + 1))]) (rest := []) ⟨hx, hb, hml, hown, hts⟩ (w_where l dC dI gd kA ad cB bS sK sV Y ik vs kvs tl T h0 X (xs (i + 1)) H.size) (cwV 1 hts gL_law_X11_where rfl rfl rfl hd_yX11_where ⟨Nat.le_of_ble_eq_true rfl, Nat.le_of_ble_eq_true rfl⟩) ⟨fun a U g mk q => by obtain ⟨q0, q1, qX, qK, qY1, qY2, qG⟩ := q; exact ⟨q0, mvz g mk a q1, qX, mvK g mk a qK, qY1, qY2, qG.same rfl rfl⟩, hLS.1.recv hLS.2.2.1, fun U hU hW => ⟨rfl, by rw [hU], by rw [hU]; exact hLS.1, va_K.moved hW.alike hLS.2.2.1, hLS.2.2.2.2.2.2.1, fun q hq hy => absurd (hLS.2.2.2.2.2.2.2.2 q hy) (Nat.not_lt.mpr hq), hGA.call hS hU hW (bl_in hLS.2.2.2.2.1 hS hA)⟩⟩ rfl rfl hl.1 rfl (lv_room (Nat.le_of_ble_eq_true rfl)) dL_law_418 ⟨by show _ ≤ 600000; omega, by show _ ≤ 7302250; omega⟩) hLS hS hA (fun r1_ u_ H locs X T hp1 hLS hS => ?_)
  obtain ⟨e1_, rfl⟩ := hp1
  have hLS : Lst dC dI ad bS Y s A h0 m0 ik vs kvs tl im vm kvm tm X T M T2 H := hLS
  refine lv_pop2_2 hx hb dL_law_421 rfl ?_
  refine lv_aload_n hx hb dL_law_422 rfl (lv_at hl 2 rfl) ?_
  refine lv_aload_n hx hb dL_law_423 rfl (lv_at hl 0 rfl) ?_
  refine lv_iload_n hx hb dL_law_424 rfl (lv_at hl 3 rfl) ?_
  refine lv_iconst (v := 1) hx hb dL_law_425 (by decide) ?_
  refine lv_iadd hx hb dL_law_426 ?_
  refine qi_as (y := nI (i + 1)) (nI_add i 1) ?_
  refine va_sld hx hb hX hbl hbA hS (vp_in_nI (n := i + 1) (N := L) (by omega) (by omega)) dL_law_427 ?_
  refine qi_as (y := xs (i + 1)) (by rw [nI_clamp (by omega)]) ?_
  refine lm_l (va_runV (As := [.int (xs (i + 1))]) (rest := []) ⟨hx, hb, hml, hown, hts⟩ (v_where l dC dI sK sV im vm kvm tm T2 m0 M (xs (i + 1)) H.size) (cwV 1 hts gL_law_X12_where rfl rfl rfl hd_yX12_where ⟨Nat.le_of_ble_eq_true rfl, Nat.le_of_ble_eq_true rfl⟩) ⟨fun a U g mk q => by obtain ⟨q0, q1, qX, qK, qG⟩ := q; exact ⟨q0, mvz g mk a q1, qX, mvK g mk a qK, qG.same rfl rfl⟩, hLS.2.1.recv hLS.2.2.2.1, fun U hU hW => ⟨rfl, by rw [hU], by rw [hU]; exact hLS.2.1, va_K.moved hW.alike hLS.2.2.2.1, hGA.2.2.2.2.2.2.call hS hU hW (bl_in hLS.2.2.2.2.2.1 hS hA)⟩⟩ rfl rfl hl.1 rfl (lv_room (Nat.le_of_ble_eq_true rfl)) dL_law_428 ⟨by show _ ≤ 600000; omega, by show _ ≤ 7302250; omega⟩) hLS hS hA (fun r2_ u_ H locs M hp2 hLS hS => ?_)
  obtain ⟨e2_, rfl⟩ := hp2
  have hLS : Lst dC dI ad bS Y s A h0 m0 ik vs kvs tl im vm kvm tm X T M T2 H := hLS
  refine lv_pop2_2 hx hb dL_law_431 rfl ?_
  refine lv_goto (tgt := 1108) hx hb dL_law_432 (by decide) ?_
  refine W.widen (k := cells + 8) (n := slots + 200) (by omega) (by omega) ?_
  exact kk ik vs kvs tl im vm kvm tm X T M H locs hLS ⟨hcp.1, by rw [hcp.2.1], hcp.2.2⟩ hS
end mg22a
section mg22a
noncomputable def dk22dcase_cL_law_0 : List (Nat × List Nat) := [(435, [43]), (436, [42]), (437, [29]), (438, [4]), (439, [96]), (440, [46]), (441, [42]), (442, [29]), (443, [5]), (444, [96]), (445, [46]), (446, [182, 0, 57]), (449, [87]), (450, [44]), (451, [42]), (452, [29]), (453, [4]), (454, [96]), (455, [46]), (456, [42]), (457, [29]), (458, [5]), (459, [96]), (460, [46]), (461, [182, 0, 60]), (464, [87]), (465, [167, 2, 131])]
set_option maxRecDepth 100000 in
theorem dk22dcase_cL_law_0_a : btA cL_law dk22dcase_cL_law_0 = true := by decide +kernel
theorem dL_law_435 : decode cL_law 435 = .ok (.aload_n 1, 1) := bd43 (btAt dk22dcase_cL_law_0_a 0 rfl)
theorem dL_law_436 : decode cL_law 436 = .ok (.aload_n 0, 1) := bd42 (btAt dk22dcase_cL_law_0_a 1 rfl)
theorem dL_law_437 : decode cL_law 437 = .ok (.iload_n 3, 1) := bd29 (btAt dk22dcase_cL_law_0_a 2 rfl)
theorem dL_law_438 : decode cL_law 438 = .ok (.iconst 1, 1) := bd4 (btAt dk22dcase_cL_law_0_a 3 rfl)
theorem dL_law_439 : decode cL_law 439 = .ok (.iadd, 1) := bd96 (btAt dk22dcase_cL_law_0_a 4 rfl)
theorem dL_law_440 : decode cL_law 440 = .ok (.iaload, 1) := bd46 (btAt dk22dcase_cL_law_0_a 5 rfl)
theorem dL_law_441 : decode cL_law 441 = .ok (.aload_n 0, 1) := bd42 (btAt dk22dcase_cL_law_0_a 6 rfl)
theorem dL_law_442 : decode cL_law 442 = .ok (.iload_n 3, 1) := bd29 (btAt dk22dcase_cL_law_0_a 7 rfl)
theorem dL_law_443 : decode cL_law 443 = .ok (.iconst 2, 1) := bd5 (btAt dk22dcase_cL_law_0_a 8 rfl)
theorem dL_law_444 : decode cL_law 444 = .ok (.iadd, 1) := bd96 (btAt dk22dcase_cL_law_0_a 9 rfl)
theorem dL_law_445 : decode cL_law 445 = .ok (.iaload, 1) := bd46 (btAt dk22dcase_cL_law_0_a 10 rfl)
theorem dL_law_446 : decode cL_law 446 = .ok (.invokevirtual 57, 3) := bd182 (a := 0) (b := 57) (btAt dk22dcase_cL_law_0_a 11 rfl)
theorem dL_law_449 : decode cL_law 449 = .ok (.pop, 1) := bd87 (btAt dk22dcase_cL_law_0_a 12 rfl)
theorem dL_law_450 : decode cL_law 450 = .ok (.aload_n 2, 1) := bd44 (btAt dk22dcase_cL_law_0_a 13 rfl)
theorem dL_law_451 : decode cL_law 451 = .ok (.aload_n 0, 1) := bd42 (btAt dk22dcase_cL_law_0_a 14 rfl)
theorem dL_law_452 : decode cL_law 452 = .ok (.iload_n 3, 1) := bd29 (btAt dk22dcase_cL_law_0_a 15 rfl)
theorem dL_law_453 : decode cL_law 453 = .ok (.iconst 1, 1) := bd4 (btAt dk22dcase_cL_law_0_a 16 rfl)
theorem dL_law_454 : decode cL_law 454 = .ok (.iadd, 1) := bd96 (btAt dk22dcase_cL_law_0_a 17 rfl)
theorem dL_law_455 : decode cL_law 455 = .ok (.iaload, 1) := bd46 (btAt dk22dcase_cL_law_0_a 18 rfl)
theorem dL_law_456 : decode cL_law 456 = .ok (.aload_n 0, 1) := bd42 (btAt dk22dcase_cL_law_0_a 19 rfl)
theorem dL_law_457 : decode cL_law 457 = .ok (.iload_n 3, 1) := bd29 (btAt dk22dcase_cL_law_0_a 20 rfl)
theorem dL_law_458 : decode cL_law 458 = .ok (.iconst 2, 1) := bd5 (btAt dk22dcase_cL_law_0_a 21 rfl)
theorem dL_law_459 : decode cL_law 459 = .ok (.iadd, 1) := bd96 (btAt dk22dcase_cL_law_0_a 22 rfl)
theorem dL_law_460 : decode cL_law 460 = .ok (.iaload, 1) := bd46 (btAt dk22dcase_cL_law_0_a 23 rfl)
theorem dL_law_461 : decode cL_law 461 = .ok (.invokevirtual 60, 3) := bd182 (a := 0) (b := 60) (btAt dk22dcase_cL_law_0_a 24 rfl)
theorem dL_law_464 : decode cL_law 464 = .ok (.pop, 1) := bd87 (btAt dk22dcase_cL_law_0_a 25 rfl)
theorem dL_law_465 : decode cL_law 465 = .ok (.goto 643, 3) := bd167 (a := 2) (b := 131) (btAt dk22dcase_cL_law_0_a 26 rfl)
set_option maxHeartbeats 4000000 in
set_option maxRecDepth 100000 in
theorem lc_9 {p : Program} {l : Launch} {e : Env} {s : State} {m : MethodId} {below : List Frame} {meth : Method} {c : Code} {b L : Nat} {xs : Nat → Int32} {A : Nat → Prop} (hAe : A = fun q => s.heap.size ≤ q) (C0 : lw_At p s m meth c b L xs) (dC : Nat → ClassId) (dI : Nat → Nat → Nat) (gd : Nat → Nat) (kA : Nat) (ad : Nat → Nat) (cB bS : Nat) (sK sV : Nat → Nat) (Y : Nat → Prop) (h0 m0 : Nat) (ik : Int32) (vs kvs : VS) (tl : List Nat) (im : Int32) (vm kvm : VS) (tm : List Nat) (X : va_W) (T : List (ClassId × FieldType)) (M : va_W) (T2 : List (ClassId × FieldType)) (hGA : GA gd kA ad cB bS sK sV A s) (i : Nat) (hi : i + 5 ≤ L) (hL : L ≤ 320) (H : Heap) (locs : List Loc) (hLS : Lst dC dI ad bS Y s A h0 m0 ik vs kvs tl im vm kvm tm X T M T2 H) (cells slots : Nat) (hc0 : cells ≤ 590000) (hs0 : slots ≤ 7000000) (hS : va_S A s.heap H locs) (ls : Array Slot) (hl : lv_has ls 4 [(0, .ref b), (1, .ref h0), (2, .ref m0), (3, .int (nI i))]) (hcp : ik = im ∧ vs = vm ∧ (im = 0 ∨ kvs = kvm) ∧ tl = tm) (kk : ∀ (ik : Int32) (vs kvs : VS) (tl : List Nat) (im : Int32) (vm kvm : VS) (tm : List Nat) (X : va_W) (T : List (ClassId × FieldType)) (M : va_W) (H : Heap) (locs : List Loc), Lst dC dI ad bS Y s A h0 m0 ik vs kvs tl im vm kvm tm X T M T2 H → (ik = im ∧ vs = vm ∧ (im = 0 ∨ kvs = kvm) ∧ tl = tm) → va_S A s.heap H locs → W p l e room_1 s m #[Value.ref b] below meth c H locs (cells + 8) (slots + 200) (lw_Z below #[Value.ref b] s) (F0 m 1108 ls [])) : W p l e room_1 s m #[Value.ref b] below meth c H locs cells slots (lw_Z below #[Value.ref b] s) (F0 m 435 ls []) := by
  obtain ⟨hx, hb, hr, hml, hown, hts0, hX, hbl, hlocks, hgv⟩ := id C0
  have hown : s.vm.findClass RL = some m.cls := hown
  have hb : c.code = cL_law := hb
  have hts : ∀ w ∈ lw_tbl, w.before #[Value.ref b] s = true := fun w h => hts0 w (wsL_law_in w h)
  have hA : ∀ q : Nat, s.heap.size ≤ q → A q := fun q h => by rw [hAe]; exact h
  have hbA : ¬ A b := by rw [hAe]; exact Nat.not_le.mpr hbl
  refine lv_aload_n hx hb dL_law_435 rfl (lv_at hl 1 rfl) ?_
  refine lv_aload_n hx hb dL_law_436 rfl (lv_at hl 0 rfl) ?_
  refine lv_iload_n hx hb dL_law_437 rfl (lv_at hl 3 rfl) ?_
  refine lv_iconst (v := 1) hx hb dL_law_438 (by decide) ?_
  refine lv_iadd hx hb dL_law_439 ?_
  refine qi_as (y := nI (i + 1)) (nI_add i 1) ?_
  refine va_sld hx hb hX hbl hbA hS (vp_in_nI (n := i + 1) (N := L) (by omega) (by omega)) dL_law_440 ?_
  refine qi_as (y := xs (i + 1)) (by rw [nI_clamp (by omega)]) ?_
  refine lv_aload_n hx hb dL_law_441 rfl (lv_at hl 0 rfl) ?_
  refine lv_iload_n hx hb dL_law_442 rfl (lv_at hl 3 rfl) ?_
  refine lv_iconst (v := 2) hx hb dL_law_443 (by decide) ?_
  refine lv_iadd hx hb dL_law_444 ?_
  refine qi_as (y := nI (i + 2)) (nI_add i 2) ?_
  refine va_sld hx hb hX hbl hbA hS (vp_in_nI (n := i + 2) (N := L) (by omega) (by omega)) dL_law_445 ?_
  refine qi_as (y := xs (i + 2)) (by rw [nI_clamp (by omega)]) ?_
  refine lx_i (va_runV (As := [.int (xs (i + 1)), .int (xs (i + 2))]) (rest := []) ⟨hx, hb, hml, hown, hts⟩ (w_steps l dC dI gd kA ad cB bS sK sV Y ik vs kvs tl T h0 X (xs (i + 1)) (xs (i + 2)) H.size) (cwV 2 hts gL_law_X11_steps rfl rfl rfl hd_yX11_steps ⟨Nat.le_of_ble_eq_true rfl, Nat.le_of_ble_eq_true rfl⟩) ⟨fun a U g mk q => by obtain ⟨q0, q1, qX, qK, qY1, qY2, qG⟩ := q; exact ⟨q0, mvz g mk a q1, qX, mvK g mk a qK, qY1, qY2, qG.same rfl rfl⟩, hLS.1.recv hLS.2.2.1, fun U hU hW => ⟨rfl, by rw [hU], by rw [hU]; exact hLS.1, va_K.moved hW.alike hLS.2.2.1, hLS.2.2.2.2.2.2.1, fun q hq hy => absurd (hLS.2.2.2.2.2.2.2.2 q hy) (Nat.not_lt.mpr hq), hGA.call hS hU hW (bl_in hLS.2.2.2.2.1 hS hA)⟩⟩ rfl rfl hl.1 rfl (lv_room (Nat.le_of_ble_eq_true rfl)) dL_law_446 ⟨by show _ ≤ 600000; omega, by show _ ≤ 7302250; omega⟩) hLS hS hA (fun r1_ u_ H locs X T hp1 hLS hS => ?_)
  obtain ⟨e1_, rfl⟩ := hp1
  have hLS : Lst dC dI ad bS Y s A h0 m0 ik vs kvs tl im vm kvm tm X T M T2 H := hLS
  refine lv_pop hx hb dL_law_449 rfl ?_
  refine lv_aload_n hx hb dL_law_450 rfl (lv_at hl 2 rfl) ?_
  refine lv_aload_n hx hb dL_law_451 rfl (lv_at hl 0 rfl) ?_
  refine lv_iload_n hx hb dL_law_452 rfl (lv_at hl 3 rfl) ?_
  refine lv_iconst (v := 1) hx hb dL_law_453 (by decide) ?_
  refine lv_iadd hx hb dL_law_454 ?_
  refine qi_as (y := nI (i + 1)) (nI_add i 1) ?_
  refine va_sld hx hb hX hbl hbA hS (vp_in_nI (n := i + 1) (N := L) (by omega) (by omega)) dL_law_455 ?_
  refine qi_as (y := xs (i + 1)) (by rw [nI_clamp (by omega)]) ?_
  refine lv_aload_n hx hb dL_law_456 rfl (lv_at hl 0 rfl) ?_
  refine lv_iload_n hx hb dL_law_457 rfl (lv_at hl 3 rfl) ?_
  refine lv_iconst (v := 2) hx hb dL_law_458 (by decide) ?_
  refine lv_iadd hx hb dL_law_459 ?_
  refine qi_as (y := nI (i + 2)) (nI_add i 2) ?_
  refine va_sld hx hb hX hbl hbA hS (vp_in_nI (n := i + 2) (N := L) (by omega) (by omega)) dL_law_460 ?_
  refine qi_as (y := xs (i + 2)) (by rw [nI_clamp (by omega)]) ?_
  refine lm_i (va_runV (As := [.int (xs (i + 1)), .int (xs (i + 2))]) (rest := []) ⟨hx, hb, hml, hown, hts⟩ (v_steps l dC dI sK sV im vm kvm tm T2 m0 M (xs (i + 1)) (xs (i + 2)) H.size) (cwV 2 hts gL_law_X12_steps rfl rfl rfl hd_yX12_steps ⟨Nat.le_of_ble_eq_true rfl, Nat.le_of_ble_eq_true rfl⟩) ⟨fun a U g mk q => by obtain ⟨q0, q1, qX, qK, qG⟩ := q; exact ⟨q0, mvz g mk a q1, qX, mvK g mk a qK, qG.same rfl rfl⟩, hLS.2.1.recv hLS.2.2.2.1, fun U hU hW => ⟨rfl, by rw [hU], by rw [hU]; exact hLS.2.1, va_K.moved hW.alike hLS.2.2.2.1, hGA.2.2.2.2.2.2.call hS hU hW (bl_in hLS.2.2.2.2.2.1 hS hA)⟩⟩ rfl rfl hl.1 rfl (lv_room (Nat.le_of_ble_eq_true rfl)) dL_law_461 ⟨by show _ ≤ 600000; omega, by show _ ≤ 7302250; omega⟩) hLS hS hA (fun r2_ u_ H locs M hp2 hLS hS => ?_)
  obtain ⟨e2_, rfl⟩ := hp2
  have hLS : Lst dC dI ad bS Y s A h0 m0 ik vs kvs tl im vm kvm tm X T M T2 H := hLS
  refine lv_pop hx hb dL_law_464 rfl ?_
  refine lv_goto (tgt := 1108) hx hb dL_law_465 (by decide) ?_
  refine W.widen (k := cells + 8) (n := slots + 200) (by omega) (by omega) ?_
  exact kk ik vs kvs tl im vm kvm tm X T M H locs hLS ⟨hcp.1, by rw [hcp.2.1], hcp.2.2⟩ hS
end mg22a
section mg22a
noncomputable def dk22ecase_cL_law_0 : List (Nat × List Nat) := [(468, [43]), (469, [42]), (470, [29]), (471, [4]), (472, [96]), (473, [46]), (474, [42]), (475, [29]), (476, [5]), (477, [96]), (478, [46]), (479, [182, 0, 61]), (482, [87]), (483, [44]), (484, [42]), (485, [29]), (486, [4]), (487, [96]), (488, [46]), (489, [42]), (490, [29]), (491, [5]), (492, [96]), (493, [46]), (494, [182, 0, 64]), (497, [87]), (498, [167, 2, 98])]
set_option maxRecDepth 100000 in
theorem dk22ecase_cL_law_0_a : btA cL_law dk22ecase_cL_law_0 = true := by decide +kernel
theorem dL_law_468 : decode cL_law 468 = .ok (.aload_n 1, 1) := bd43 (btAt dk22ecase_cL_law_0_a 0 rfl)
theorem dL_law_469 : decode cL_law 469 = .ok (.aload_n 0, 1) := bd42 (btAt dk22ecase_cL_law_0_a 1 rfl)
theorem dL_law_470 : decode cL_law 470 = .ok (.iload_n 3, 1) := bd29 (btAt dk22ecase_cL_law_0_a 2 rfl)
theorem dL_law_471 : decode cL_law 471 = .ok (.iconst 1, 1) := bd4 (btAt dk22ecase_cL_law_0_a 3 rfl)
theorem dL_law_472 : decode cL_law 472 = .ok (.iadd, 1) := bd96 (btAt dk22ecase_cL_law_0_a 4 rfl)
theorem dL_law_473 : decode cL_law 473 = .ok (.iaload, 1) := bd46 (btAt dk22ecase_cL_law_0_a 5 rfl)
theorem dL_law_474 : decode cL_law 474 = .ok (.aload_n 0, 1) := bd42 (btAt dk22ecase_cL_law_0_a 6 rfl)
theorem dL_law_475 : decode cL_law 475 = .ok (.iload_n 3, 1) := bd29 (btAt dk22ecase_cL_law_0_a 7 rfl)
theorem dL_law_476 : decode cL_law 476 = .ok (.iconst 2, 1) := bd5 (btAt dk22ecase_cL_law_0_a 8 rfl)
theorem dL_law_477 : decode cL_law 477 = .ok (.iadd, 1) := bd96 (btAt dk22ecase_cL_law_0_a 9 rfl)
theorem dL_law_478 : decode cL_law 478 = .ok (.iaload, 1) := bd46 (btAt dk22ecase_cL_law_0_a 10 rfl)
theorem dL_law_479 : decode cL_law 479 = .ok (.invokevirtual 61, 3) := bd182 (a := 0) (b := 61) (btAt dk22ecase_cL_law_0_a 11 rfl)
theorem dL_law_482 : decode cL_law 482 = .ok (.pop, 1) := bd87 (btAt dk22ecase_cL_law_0_a 12 rfl)
theorem dL_law_483 : decode cL_law 483 = .ok (.aload_n 2, 1) := bd44 (btAt dk22ecase_cL_law_0_a 13 rfl)
theorem dL_law_484 : decode cL_law 484 = .ok (.aload_n 0, 1) := bd42 (btAt dk22ecase_cL_law_0_a 14 rfl)
theorem dL_law_485 : decode cL_law 485 = .ok (.iload_n 3, 1) := bd29 (btAt dk22ecase_cL_law_0_a 15 rfl)
theorem dL_law_486 : decode cL_law 486 = .ok (.iconst 1, 1) := bd4 (btAt dk22ecase_cL_law_0_a 16 rfl)
theorem dL_law_487 : decode cL_law 487 = .ok (.iadd, 1) := bd96 (btAt dk22ecase_cL_law_0_a 17 rfl)
theorem dL_law_488 : decode cL_law 488 = .ok (.iaload, 1) := bd46 (btAt dk22ecase_cL_law_0_a 18 rfl)
theorem dL_law_489 : decode cL_law 489 = .ok (.aload_n 0, 1) := bd42 (btAt dk22ecase_cL_law_0_a 19 rfl)
theorem dL_law_490 : decode cL_law 490 = .ok (.iload_n 3, 1) := bd29 (btAt dk22ecase_cL_law_0_a 20 rfl)
theorem dL_law_491 : decode cL_law 491 = .ok (.iconst 2, 1) := bd5 (btAt dk22ecase_cL_law_0_a 21 rfl)
theorem dL_law_492 : decode cL_law 492 = .ok (.iadd, 1) := bd96 (btAt dk22ecase_cL_law_0_a 22 rfl)
theorem dL_law_493 : decode cL_law 493 = .ok (.iaload, 1) := bd46 (btAt dk22ecase_cL_law_0_a 23 rfl)
theorem dL_law_494 : decode cL_law 494 = .ok (.invokevirtual 64, 3) := bd182 (a := 0) (b := 64) (btAt dk22ecase_cL_law_0_a 24 rfl)
theorem dL_law_497 : decode cL_law 497 = .ok (.pop, 1) := bd87 (btAt dk22ecase_cL_law_0_a 25 rfl)
theorem dL_law_498 : decode cL_law 498 = .ok (.goto 610, 3) := bd167 (a := 2) (b := 98) (btAt dk22ecase_cL_law_0_a 26 rfl)
set_option maxHeartbeats 4000000 in
set_option maxRecDepth 100000 in
theorem lc_10 {p : Program} {l : Launch} {e : Env} {s : State} {m : MethodId} {below : List Frame} {meth : Method} {c : Code} {b L : Nat} {xs : Nat → Int32} {A : Nat → Prop} (hAe : A = fun q => s.heap.size ≤ q) (C0 : lw_At p s m meth c b L xs) (dC : Nat → ClassId) (dI : Nat → Nat → Nat) (gd : Nat → Nat) (kA : Nat) (ad : Nat → Nat) (cB bS : Nat) (sK sV : Nat → Nat) (Y : Nat → Prop) (h0 m0 : Nat) (ik : Int32) (vs kvs : VS) (tl : List Nat) (im : Int32) (vm kvm : VS) (tm : List Nat) (X : va_W) (T : List (ClassId × FieldType)) (M : va_W) (T2 : List (ClassId × FieldType)) (hGA : GA gd kA ad cB bS sK sV A s) (i : Nat) (hi : i + 5 ≤ L) (hL : L ≤ 320) (H : Heap) (locs : List Loc) (hLS : Lst dC dI ad bS Y s A h0 m0 ik vs kvs tl im vm kvm tm X T M T2 H) (cells slots : Nat) (hc0 : cells ≤ 590000) (hs0 : slots ≤ 7000000) (hS : va_S A s.heap H locs) (ls : Array Slot) (hl : lv_has ls 4 [(0, .ref b), (1, .ref h0), (2, .ref m0), (3, .int (nI i))]) (hcp : ik = im ∧ vs = vm ∧ (im = 0 ∨ kvs = kvm) ∧ tl = tm) (kk : ∀ (ik : Int32) (vs kvs : VS) (tl : List Nat) (im : Int32) (vm kvm : VS) (tm : List Nat) (X : va_W) (T : List (ClassId × FieldType)) (M : va_W) (H : Heap) (locs : List Loc), Lst dC dI ad bS Y s A h0 m0 ik vs kvs tl im vm kvm tm X T M T2 H → (ik = im ∧ vs = vm ∧ (im = 0 ∨ kvs = kvm) ∧ tl = tm) → va_S A s.heap H locs → W p l e room_1 s m #[Value.ref b] below meth c H locs (cells + 8) (slots + 200) (lw_Z below #[Value.ref b] s) (F0 m 1108 ls [])) : W p l e room_1 s m #[Value.ref b] below meth c H locs cells slots (lw_Z below #[Value.ref b] s) (F0 m 468 ls []) := by
  obtain ⟨hx, hb, hr, hml, hown, hts0, hX, hbl, hlocks, hgv⟩ := id C0
  have hown : s.vm.findClass RL = some m.cls := hown
  have hb : c.code = cL_law := hb
  have hts : ∀ w ∈ lw_tbl, w.before #[Value.ref b] s = true := fun w h => hts0 w (wsL_law_in w h)
  have hA : ∀ q : Nat, s.heap.size ≤ q → A q := fun q h => by rw [hAe]; exact h
  have hbA : ¬ A b := by rw [hAe]; exact Nat.not_le.mpr hbl
  refine lv_aload_n hx hb dL_law_468 rfl (lv_at hl 1 rfl) ?_
  refine lv_aload_n hx hb dL_law_469 rfl (lv_at hl 0 rfl) ?_
  refine lv_iload_n hx hb dL_law_470 rfl (lv_at hl 3 rfl) ?_
  refine lv_iconst (v := 1) hx hb dL_law_471 (by decide) ?_
  refine lv_iadd hx hb dL_law_472 ?_
  refine qi_as (y := nI (i + 1)) (nI_add i 1) ?_
  refine va_sld hx hb hX hbl hbA hS (vp_in_nI (n := i + 1) (N := L) (by omega) (by omega)) dL_law_473 ?_
  refine qi_as (y := xs (i + 1)) (by rw [nI_clamp (by omega)]) ?_
  refine lv_aload_n hx hb dL_law_474 rfl (lv_at hl 0 rfl) ?_
  refine lv_iload_n hx hb dL_law_475 rfl (lv_at hl 3 rfl) ?_
  refine lv_iconst (v := 2) hx hb dL_law_476 (by decide) ?_
  refine lv_iadd hx hb dL_law_477 ?_
  refine qi_as (y := nI (i + 2)) (nI_add i 2) ?_
  refine va_sld hx hb hX hbl hbA hS (vp_in_nI (n := i + 2) (N := L) (by omega) (by omega)) dL_law_478 ?_
  refine qi_as (y := xs (i + 2)) (by rw [nI_clamp (by omega)]) ?_
  refine lx_i (va_runV (As := [.int (xs (i + 1)), .int (xs (i + 2))]) (rest := []) ⟨hx, hb, hml, hown, hts⟩ (w_via l dC dI gd kA ad cB bS sK sV Y ik vs kvs tl T h0 X (xs (i + 1)) (xs (i + 2)) H.size) (cwV 2 hts gL_law_X11_via rfl rfl rfl hd_yX11_via ⟨Nat.le_of_ble_eq_true rfl, Nat.le_of_ble_eq_true rfl⟩) ⟨fun a U g mk q => by obtain ⟨q0, q1, qX, qK, qY1, qY2, qG⟩ := q; exact ⟨q0, mvz g mk a q1, qX, mvK g mk a qK, qY1, qY2, qG.same rfl rfl⟩, hLS.1.recv hLS.2.2.1, fun U hU hW => ⟨rfl, by rw [hU], by rw [hU]; exact hLS.1, va_K.moved hW.alike hLS.2.2.1, hLS.2.2.2.2.2.2.1, fun q hq hy => absurd (hLS.2.2.2.2.2.2.2.2 q hy) (Nat.not_lt.mpr hq), hGA.call hS hU hW (bl_in hLS.2.2.2.2.1 hS hA)⟩⟩ rfl rfl hl.1 rfl (lv_room (Nat.le_of_ble_eq_true rfl)) dL_law_479 ⟨by show _ ≤ 600000; omega, by show _ ≤ 7302250; omega⟩) hLS hS hA (fun r1_ u_ H locs X T hp1 hLS hS => ?_)
  obtain ⟨e1_, rfl⟩ := hp1
  have hLS : Lst dC dI ad bS Y s A h0 m0 ik vs kvs tl im vm kvm tm X T M T2 H := hLS
  refine lv_pop hx hb dL_law_482 rfl ?_
  refine lv_aload_n hx hb dL_law_483 rfl (lv_at hl 2 rfl) ?_
  refine lv_aload_n hx hb dL_law_484 rfl (lv_at hl 0 rfl) ?_
  refine lv_iload_n hx hb dL_law_485 rfl (lv_at hl 3 rfl) ?_
  refine lv_iconst (v := 1) hx hb dL_law_486 (by decide) ?_
  refine lv_iadd hx hb dL_law_487 ?_
  refine qi_as (y := nI (i + 1)) (nI_add i 1) ?_
  refine va_sld hx hb hX hbl hbA hS (vp_in_nI (n := i + 1) (N := L) (by omega) (by omega)) dL_law_488 ?_
  refine qi_as (y := xs (i + 1)) (by rw [nI_clamp (by omega)]) ?_
  refine lv_aload_n hx hb dL_law_489 rfl (lv_at hl 0 rfl) ?_
  refine lv_iload_n hx hb dL_law_490 rfl (lv_at hl 3 rfl) ?_
  refine lv_iconst (v := 2) hx hb dL_law_491 (by decide) ?_
  refine lv_iadd hx hb dL_law_492 ?_
  refine qi_as (y := nI (i + 2)) (nI_add i 2) ?_
  refine va_sld hx hb hX hbl hbA hS (vp_in_nI (n := i + 2) (N := L) (by omega) (by omega)) dL_law_493 ?_
  refine qi_as (y := xs (i + 2)) (by rw [nI_clamp (by omega)]) ?_
  refine lm_i (va_runV (As := [.int (xs (i + 1)), .int (xs (i + 2))]) (rest := []) ⟨hx, hb, hml, hown, hts⟩ (v_via l dC dI sK sV im vm kvm tm T2 m0 M (xs (i + 1)) (xs (i + 2)) H.size) (cwV 2 hts gL_law_X12_via rfl rfl rfl hd_yX12_via ⟨Nat.le_of_ble_eq_true rfl, Nat.le_of_ble_eq_true rfl⟩) ⟨fun a U g mk q => by obtain ⟨q0, q1, qX, qK, qG⟩ := q; exact ⟨q0, mvz g mk a q1, qX, mvK g mk a qK, qG.same rfl rfl⟩, hLS.2.1.recv hLS.2.2.2.1, fun U hU hW => ⟨rfl, by rw [hU], by rw [hU]; exact hLS.2.1, va_K.moved hW.alike hLS.2.2.2.1, hGA.2.2.2.2.2.2.call hS hU hW (bl_in hLS.2.2.2.2.2.1 hS hA)⟩⟩ rfl rfl hl.1 rfl (lv_room (Nat.le_of_ble_eq_true rfl)) dL_law_494 ⟨by show _ ≤ 600000; omega, by show _ ≤ 7302250; omega⟩) hLS hS hA (fun r2_ u_ H locs M hp2 hLS hS => ?_)
  obtain ⟨e2_, rfl⟩ := hp2
  have hLS : Lst dC dI ad bS Y s A h0 m0 ik vs kvs tl im vm kvm tm X T M T2 H := hLS
  refine lv_pop hx hb dL_law_497 rfl ?_
  refine lv_goto (tgt := 1108) hx hb dL_law_498 (by decide) ?_
  refine W.widen (k := cells + 8) (n := slots + 200) (by omega) (by omega) ?_
  exact kk ik vs kvs tl im vm kvm tm X T M H locs hLS ⟨hcp.1, by rw [hcp.2.1], hcp.2.2⟩ hS
end mg22a
section mg22a
noncomputable def dk22fcase_cL_law_0 : List (Nat × List Nat) := [(501, [43]), (502, [42]), (503, [29]), (504, [4]), (505, [96]), (506, [46]), (507, [42]), (508, [29]), (509, [5]), (510, [96]), (511, [46]), (512, [182, 0, 65]), (515, [87]), (516, [44]), (517, [42]), (518, [29]), (519, [4]), (520, [96]), (521, [46]), (522, [42]), (523, [29]), (524, [5]), (525, [96]), (526, [46]), (527, [182, 0, 68]), (530, [87]), (531, [167, 2, 65])]
set_option maxRecDepth 100000 in
theorem dk22fcase_cL_law_0_a : btA cL_law dk22fcase_cL_law_0 = true := by decide +kernel
theorem dL_law_501 : decode cL_law 501 = .ok (.aload_n 1, 1) := bd43 (btAt dk22fcase_cL_law_0_a 0 rfl)
theorem dL_law_502 : decode cL_law 502 = .ok (.aload_n 0, 1) := bd42 (btAt dk22fcase_cL_law_0_a 1 rfl)
theorem dL_law_503 : decode cL_law 503 = .ok (.iload_n 3, 1) := bd29 (btAt dk22fcase_cL_law_0_a 2 rfl)
theorem dL_law_504 : decode cL_law 504 = .ok (.iconst 1, 1) := bd4 (btAt dk22fcase_cL_law_0_a 3 rfl)
theorem dL_law_505 : decode cL_law 505 = .ok (.iadd, 1) := bd96 (btAt dk22fcase_cL_law_0_a 4 rfl)
theorem dL_law_506 : decode cL_law 506 = .ok (.iaload, 1) := bd46 (btAt dk22fcase_cL_law_0_a 5 rfl)
theorem dL_law_507 : decode cL_law 507 = .ok (.aload_n 0, 1) := bd42 (btAt dk22fcase_cL_law_0_a 6 rfl)
theorem dL_law_508 : decode cL_law 508 = .ok (.iload_n 3, 1) := bd29 (btAt dk22fcase_cL_law_0_a 7 rfl)
theorem dL_law_509 : decode cL_law 509 = .ok (.iconst 2, 1) := bd5 (btAt dk22fcase_cL_law_0_a 8 rfl)
theorem dL_law_510 : decode cL_law 510 = .ok (.iadd, 1) := bd96 (btAt dk22fcase_cL_law_0_a 9 rfl)
theorem dL_law_511 : decode cL_law 511 = .ok (.iaload, 1) := bd46 (btAt dk22fcase_cL_law_0_a 10 rfl)
theorem dL_law_512 : decode cL_law 512 = .ok (.invokevirtual 65, 3) := bd182 (a := 0) (b := 65) (btAt dk22fcase_cL_law_0_a 11 rfl)
theorem dL_law_515 : decode cL_law 515 = .ok (.pop, 1) := bd87 (btAt dk22fcase_cL_law_0_a 12 rfl)
theorem dL_law_516 : decode cL_law 516 = .ok (.aload_n 2, 1) := bd44 (btAt dk22fcase_cL_law_0_a 13 rfl)
theorem dL_law_517 : decode cL_law 517 = .ok (.aload_n 0, 1) := bd42 (btAt dk22fcase_cL_law_0_a 14 rfl)
theorem dL_law_518 : decode cL_law 518 = .ok (.iload_n 3, 1) := bd29 (btAt dk22fcase_cL_law_0_a 15 rfl)
theorem dL_law_519 : decode cL_law 519 = .ok (.iconst 1, 1) := bd4 (btAt dk22fcase_cL_law_0_a 16 rfl)
theorem dL_law_520 : decode cL_law 520 = .ok (.iadd, 1) := bd96 (btAt dk22fcase_cL_law_0_a 17 rfl)
theorem dL_law_521 : decode cL_law 521 = .ok (.iaload, 1) := bd46 (btAt dk22fcase_cL_law_0_a 18 rfl)
theorem dL_law_522 : decode cL_law 522 = .ok (.aload_n 0, 1) := bd42 (btAt dk22fcase_cL_law_0_a 19 rfl)
theorem dL_law_523 : decode cL_law 523 = .ok (.iload_n 3, 1) := bd29 (btAt dk22fcase_cL_law_0_a 20 rfl)
theorem dL_law_524 : decode cL_law 524 = .ok (.iconst 2, 1) := bd5 (btAt dk22fcase_cL_law_0_a 21 rfl)
theorem dL_law_525 : decode cL_law 525 = .ok (.iadd, 1) := bd96 (btAt dk22fcase_cL_law_0_a 22 rfl)
theorem dL_law_526 : decode cL_law 526 = .ok (.iaload, 1) := bd46 (btAt dk22fcase_cL_law_0_a 23 rfl)
theorem dL_law_527 : decode cL_law 527 = .ok (.invokevirtual 68, 3) := bd182 (a := 0) (b := 68) (btAt dk22fcase_cL_law_0_a 24 rfl)
theorem dL_law_530 : decode cL_law 530 = .ok (.pop, 1) := bd87 (btAt dk22fcase_cL_law_0_a 25 rfl)
theorem dL_law_531 : decode cL_law 531 = .ok (.goto 577, 3) := bd167 (a := 2) (b := 65) (btAt dk22fcase_cL_law_0_a 26 rfl)
set_option maxHeartbeats 4000000 in
set_option maxRecDepth 100000 in
theorem lc_11 {p : Program} {l : Launch} {e : Env} {s : State} {m : MethodId} {below : List Frame} {meth : Method} {c : Code} {b L : Nat} {xs : Nat → Int32} {A : Nat → Prop} (hAe : A = fun q => s.heap.size ≤ q) (C0 : lw_At p s m meth c b L xs) (dC : Nat → ClassId) (dI : Nat → Nat → Nat) (gd : Nat → Nat) (kA : Nat) (ad : Nat → Nat) (cB bS : Nat) (sK sV : Nat → Nat) (Y : Nat → Prop) (h0 m0 : Nat) (ik : Int32) (vs kvs : VS) (tl : List Nat) (im : Int32) (vm kvm : VS) (tm : List Nat) (X : va_W) (T : List (ClassId × FieldType)) (M : va_W) (T2 : List (ClassId × FieldType)) (hGA : GA gd kA ad cB bS sK sV A s) (i : Nat) (hi : i + 5 ≤ L) (hL : L ≤ 320) (H : Heap) (locs : List Loc) (hLS : Lst dC dI ad bS Y s A h0 m0 ik vs kvs tl im vm kvm tm X T M T2 H) (cells slots : Nat) (hc0 : cells ≤ 590000) (hs0 : slots ≤ 7000000) (hS : va_S A s.heap H locs) (ls : Array Slot) (hl : lv_has ls 4 [(0, .ref b), (1, .ref h0), (2, .ref m0), (3, .int (nI i))]) (hcp : ik = im ∧ vs = vm ∧ (im = 0 ∨ kvs = kvm) ∧ tl = tm) (kk : ∀ (ik : Int32) (vs kvs : VS) (tl : List Nat) (im : Int32) (vm kvm : VS) (tm : List Nat) (X : va_W) (T : List (ClassId × FieldType)) (M : va_W) (H : Heap) (locs : List Loc), Lst dC dI ad bS Y s A h0 m0 ik vs kvs tl im vm kvm tm X T M T2 H → (ik = im ∧ vs = vm ∧ (im = 0 ∨ kvs = kvm) ∧ tl = tm) → va_S A s.heap H locs → W p l e room_1 s m #[Value.ref b] below meth c H locs (cells + 8) (slots + 200) (lw_Z below #[Value.ref b] s) (F0 m 1108 ls [])) : W p l e room_1 s m #[Value.ref b] below meth c H locs cells slots (lw_Z below #[Value.ref b] s) (F0 m 501 ls []) := by
  obtain ⟨hx, hb, hr, hml, hown, hts0, hX, hbl, hlocks, hgv⟩ := id C0
  have hown : s.vm.findClass RL = some m.cls := hown
  have hb : c.code = cL_law := hb
  have hts : ∀ w ∈ lw_tbl, w.before #[Value.ref b] s = true := fun w h => hts0 w (wsL_law_in w h)
  have hA : ∀ q : Nat, s.heap.size ≤ q → A q := fun q h => by rw [hAe]; exact h
  have hbA : ¬ A b := by rw [hAe]; exact Nat.not_le.mpr hbl
  refine lv_aload_n hx hb dL_law_501 rfl (lv_at hl 1 rfl) ?_
  refine lv_aload_n hx hb dL_law_502 rfl (lv_at hl 0 rfl) ?_
  refine lv_iload_n hx hb dL_law_503 rfl (lv_at hl 3 rfl) ?_
  refine lv_iconst (v := 1) hx hb dL_law_504 (by decide) ?_
  refine lv_iadd hx hb dL_law_505 ?_
  refine qi_as (y := nI (i + 1)) (nI_add i 1) ?_
  refine va_sld hx hb hX hbl hbA hS (vp_in_nI (n := i + 1) (N := L) (by omega) (by omega)) dL_law_506 ?_
  refine qi_as (y := xs (i + 1)) (by rw [nI_clamp (by omega)]) ?_
  refine lv_aload_n hx hb dL_law_507 rfl (lv_at hl 0 rfl) ?_
  refine lv_iload_n hx hb dL_law_508 rfl (lv_at hl 3 rfl) ?_
  refine lv_iconst (v := 2) hx hb dL_law_509 (by decide) ?_
  refine lv_iadd hx hb dL_law_510 ?_
  refine qi_as (y := nI (i + 2)) (nI_add i 2) ?_
  refine va_sld hx hb hX hbl hbA hS (vp_in_nI (n := i + 2) (N := L) (by omega) (by omega)) dL_law_511 ?_
  refine qi_as (y := xs (i + 2)) (by rw [nI_clamp (by omega)]) ?_
  refine lx_i (va_runV (As := [.int (xs (i + 1)), .int (xs (i + 2))]) (rest := []) ⟨hx, hb, hml, hown, hts⟩ (w_cuts l dC dI gd kA ad cB bS sK sV Y ik vs kvs tl T h0 X (xs (i + 1)) (xs (i + 2)) H.size) (cwV 2 hts gL_law_X11_cuts rfl rfl rfl hd_yX11_cuts ⟨Nat.le_of_ble_eq_true rfl, Nat.le_of_ble_eq_true rfl⟩) ⟨fun a U g mk q => by obtain ⟨q0, q1, qX, qK, qY1, qY2, qG⟩ := q; exact ⟨q0, mvz g mk a q1, qX, mvK g mk a qK, qY1, qY2, qG.same rfl rfl⟩, hLS.1.recv hLS.2.2.1, fun U hU hW => ⟨rfl, by rw [hU], by rw [hU]; exact hLS.1, va_K.moved hW.alike hLS.2.2.1, hLS.2.2.2.2.2.2.1, fun q hq hy => absurd (hLS.2.2.2.2.2.2.2.2 q hy) (Nat.not_lt.mpr hq), hGA.call hS hU hW (bl_in hLS.2.2.2.2.1 hS hA)⟩⟩ rfl rfl hl.1 rfl (lv_room (Nat.le_of_ble_eq_true rfl)) dL_law_512 ⟨by show _ ≤ 600000; omega, by show _ ≤ 7302250; omega⟩) hLS hS hA (fun r1_ u_ H locs X T hp1 hLS hS => ?_)
  obtain ⟨e1_, rfl⟩ := hp1
  have hLS : Lst dC dI ad bS Y s A h0 m0 ik vs kvs tl im vm kvm tm X T M T2 H := hLS
  refine lv_pop hx hb dL_law_515 rfl ?_
  refine lv_aload_n hx hb dL_law_516 rfl (lv_at hl 2 rfl) ?_
  refine lv_aload_n hx hb dL_law_517 rfl (lv_at hl 0 rfl) ?_
  refine lv_iload_n hx hb dL_law_518 rfl (lv_at hl 3 rfl) ?_
  refine lv_iconst (v := 1) hx hb dL_law_519 (by decide) ?_
  refine lv_iadd hx hb dL_law_520 ?_
  refine qi_as (y := nI (i + 1)) (nI_add i 1) ?_
  refine va_sld hx hb hX hbl hbA hS (vp_in_nI (n := i + 1) (N := L) (by omega) (by omega)) dL_law_521 ?_
  refine qi_as (y := xs (i + 1)) (by rw [nI_clamp (by omega)]) ?_
  refine lv_aload_n hx hb dL_law_522 rfl (lv_at hl 0 rfl) ?_
  refine lv_iload_n hx hb dL_law_523 rfl (lv_at hl 3 rfl) ?_
  refine lv_iconst (v := 2) hx hb dL_law_524 (by decide) ?_
  refine lv_iadd hx hb dL_law_525 ?_
  refine qi_as (y := nI (i + 2)) (nI_add i 2) ?_
  refine va_sld hx hb hX hbl hbA hS (vp_in_nI (n := i + 2) (N := L) (by omega) (by omega)) dL_law_526 ?_
  refine qi_as (y := xs (i + 2)) (by rw [nI_clamp (by omega)]) ?_
  refine lm_i (va_runV (As := [.int (xs (i + 1)), .int (xs (i + 2))]) (rest := []) ⟨hx, hb, hml, hown, hts⟩ (v_cuts l dC dI sK sV im vm kvm tm T2 m0 M (xs (i + 1)) (xs (i + 2)) H.size) (cwV 2 hts gL_law_X12_cuts rfl rfl rfl hd_yX12_cuts ⟨Nat.le_of_ble_eq_true rfl, Nat.le_of_ble_eq_true rfl⟩) ⟨fun a U g mk q => by obtain ⟨q0, q1, qX, qK, qG⟩ := q; exact ⟨q0, mvz g mk a q1, qX, mvK g mk a qK, qG.same rfl rfl⟩, hLS.2.1.recv hLS.2.2.2.1, fun U hU hW => ⟨rfl, by rw [hU], by rw [hU]; exact hLS.2.1, va_K.moved hW.alike hLS.2.2.2.1, hGA.2.2.2.2.2.2.call hS hU hW (bl_in hLS.2.2.2.2.2.1 hS hA)⟩⟩ rfl rfl hl.1 rfl (lv_room (Nat.le_of_ble_eq_true rfl)) dL_law_527 ⟨by show _ ≤ 600000; omega, by show _ ≤ 7302250; omega⟩) hLS hS hA (fun r2_ u_ H locs M hp2 hLS hS => ?_)
  obtain ⟨e2_, rfl⟩ := hp2
  have hLS : Lst dC dI ad bS Y s A h0 m0 ik vs kvs tl im vm kvm tm X T M T2 H := hLS
  refine lv_pop hx hb dL_law_530 rfl ?_
  refine lv_goto (tgt := 1108) hx hb dL_law_531 (by decide) ?_
  refine W.widen (k := cells + 8) (n := slots + 200) (by omega) (by omega) ?_
  exact kk ik vs kvs tl im vm kvm tm X T M H locs hLS ⟨hcp.1, by rw [hcp.2.1], hcp.2.2⟩ hS
end mg22a
section mg22a
noncomputable def dk22gcase_cL_law_0 : List (Nat × List Nat) := [(534, [43]), (535, [42]), (536, [29]), (537, [4]), (538, [96]), (539, [46]), (540, [42]), (541, [29]), (542, [5]), (543, [96]), (544, [46]), (545, [182, 0, 69]), (548, [87]), (549, [44]), (550, [42]), (551, [29]), (552, [4]), (553, [96]), (554, [46]), (555, [42]), (556, [29]), (557, [5]), (558, [96]), (559, [46]), (560, [182, 0, 72]), (563, [87]), (564, [167, 2, 32])]
set_option maxRecDepth 100000 in
theorem dk22gcase_cL_law_0_a : btA cL_law dk22gcase_cL_law_0 = true := by decide +kernel
theorem dL_law_534 : decode cL_law 534 = .ok (.aload_n 1, 1) := bd43 (btAt dk22gcase_cL_law_0_a 0 rfl)
theorem dL_law_535 : decode cL_law 535 = .ok (.aload_n 0, 1) := bd42 (btAt dk22gcase_cL_law_0_a 1 rfl)
theorem dL_law_536 : decode cL_law 536 = .ok (.iload_n 3, 1) := bd29 (btAt dk22gcase_cL_law_0_a 2 rfl)
theorem dL_law_537 : decode cL_law 537 = .ok (.iconst 1, 1) := bd4 (btAt dk22gcase_cL_law_0_a 3 rfl)
theorem dL_law_538 : decode cL_law 538 = .ok (.iadd, 1) := bd96 (btAt dk22gcase_cL_law_0_a 4 rfl)
theorem dL_law_539 : decode cL_law 539 = .ok (.iaload, 1) := bd46 (btAt dk22gcase_cL_law_0_a 5 rfl)
theorem dL_law_540 : decode cL_law 540 = .ok (.aload_n 0, 1) := bd42 (btAt dk22gcase_cL_law_0_a 6 rfl)
theorem dL_law_541 : decode cL_law 541 = .ok (.iload_n 3, 1) := bd29 (btAt dk22gcase_cL_law_0_a 7 rfl)
theorem dL_law_542 : decode cL_law 542 = .ok (.iconst 2, 1) := bd5 (btAt dk22gcase_cL_law_0_a 8 rfl)
theorem dL_law_543 : decode cL_law 543 = .ok (.iadd, 1) := bd96 (btAt dk22gcase_cL_law_0_a 9 rfl)
theorem dL_law_544 : decode cL_law 544 = .ok (.iaload, 1) := bd46 (btAt dk22gcase_cL_law_0_a 10 rfl)
theorem dL_law_545 : decode cL_law 545 = .ok (.invokevirtual 69, 3) := bd182 (a := 0) (b := 69) (btAt dk22gcase_cL_law_0_a 11 rfl)
theorem dL_law_548 : decode cL_law 548 = .ok (.pop, 1) := bd87 (btAt dk22gcase_cL_law_0_a 12 rfl)
theorem dL_law_549 : decode cL_law 549 = .ok (.aload_n 2, 1) := bd44 (btAt dk22gcase_cL_law_0_a 13 rfl)
theorem dL_law_550 : decode cL_law 550 = .ok (.aload_n 0, 1) := bd42 (btAt dk22gcase_cL_law_0_a 14 rfl)
theorem dL_law_551 : decode cL_law 551 = .ok (.iload_n 3, 1) := bd29 (btAt dk22gcase_cL_law_0_a 15 rfl)
theorem dL_law_552 : decode cL_law 552 = .ok (.iconst 1, 1) := bd4 (btAt dk22gcase_cL_law_0_a 16 rfl)
theorem dL_law_553 : decode cL_law 553 = .ok (.iadd, 1) := bd96 (btAt dk22gcase_cL_law_0_a 17 rfl)
theorem dL_law_554 : decode cL_law 554 = .ok (.iaload, 1) := bd46 (btAt dk22gcase_cL_law_0_a 18 rfl)
theorem dL_law_555 : decode cL_law 555 = .ok (.aload_n 0, 1) := bd42 (btAt dk22gcase_cL_law_0_a 19 rfl)
theorem dL_law_556 : decode cL_law 556 = .ok (.iload_n 3, 1) := bd29 (btAt dk22gcase_cL_law_0_a 20 rfl)
theorem dL_law_557 : decode cL_law 557 = .ok (.iconst 2, 1) := bd5 (btAt dk22gcase_cL_law_0_a 21 rfl)
theorem dL_law_558 : decode cL_law 558 = .ok (.iadd, 1) := bd96 (btAt dk22gcase_cL_law_0_a 22 rfl)
theorem dL_law_559 : decode cL_law 559 = .ok (.iaload, 1) := bd46 (btAt dk22gcase_cL_law_0_a 23 rfl)
theorem dL_law_560 : decode cL_law 560 = .ok (.invokevirtual 72, 3) := bd182 (a := 0) (b := 72) (btAt dk22gcase_cL_law_0_a 24 rfl)
theorem dL_law_563 : decode cL_law 563 = .ok (.pop, 1) := bd87 (btAt dk22gcase_cL_law_0_a 25 rfl)
theorem dL_law_564 : decode cL_law 564 = .ok (.goto 544, 3) := bd167 (a := 2) (b := 32) (btAt dk22gcase_cL_law_0_a 26 rfl)
set_option maxHeartbeats 4000000 in
set_option maxRecDepth 100000 in
theorem lc_12 {p : Program} {l : Launch} {e : Env} {s : State} {m : MethodId} {below : List Frame} {meth : Method} {c : Code} {b L : Nat} {xs : Nat → Int32} {A : Nat → Prop} (hAe : A = fun q => s.heap.size ≤ q) (C0 : lw_At p s m meth c b L xs) (dC : Nat → ClassId) (dI : Nat → Nat → Nat) (gd : Nat → Nat) (kA : Nat) (ad : Nat → Nat) (cB bS : Nat) (sK sV : Nat → Nat) (Y : Nat → Prop) (h0 m0 : Nat) (ik : Int32) (vs kvs : VS) (tl : List Nat) (im : Int32) (vm kvm : VS) (tm : List Nat) (X : va_W) (T : List (ClassId × FieldType)) (M : va_W) (T2 : List (ClassId × FieldType)) (hGA : GA gd kA ad cB bS sK sV A s) (i : Nat) (hi : i + 5 ≤ L) (hL : L ≤ 320) (H : Heap) (locs : List Loc) (hLS : Lst dC dI ad bS Y s A h0 m0 ik vs kvs tl im vm kvm tm X T M T2 H) (cells slots : Nat) (hc0 : cells ≤ 590000) (hs0 : slots ≤ 7000000) (hS : va_S A s.heap H locs) (ls : Array Slot) (hl : lv_has ls 4 [(0, .ref b), (1, .ref h0), (2, .ref m0), (3, .int (nI i))]) (hcp : ik = im ∧ vs = vm ∧ (im = 0 ∨ kvs = kvm) ∧ tl = tm) (kk : ∀ (ik : Int32) (vs kvs : VS) (tl : List Nat) (im : Int32) (vm kvm : VS) (tm : List Nat) (X : va_W) (T : List (ClassId × FieldType)) (M : va_W) (H : Heap) (locs : List Loc), Lst dC dI ad bS Y s A h0 m0 ik vs kvs tl im vm kvm tm X T M T2 H → (ik = im ∧ vs = vm ∧ (im = 0 ∨ kvs = kvm) ∧ tl = tm) → va_S A s.heap H locs → W p l e room_1 s m #[Value.ref b] below meth c H locs (cells + 8) (slots + 200) (lw_Z below #[Value.ref b] s) (F0 m 1108 ls [])) : W p l e room_1 s m #[Value.ref b] below meth c H locs cells slots (lw_Z below #[Value.ref b] s) (F0 m 534 ls []) := by
  obtain ⟨hx, hb, hr, hml, hown, hts0, hX, hbl, hlocks, hgv⟩ := id C0
  have hown : s.vm.findClass RL = some m.cls := hown
  have hb : c.code = cL_law := hb
  have hts : ∀ w ∈ lw_tbl, w.before #[Value.ref b] s = true := fun w h => hts0 w (wsL_law_in w h)
  have hA : ∀ q : Nat, s.heap.size ≤ q → A q := fun q h => by rw [hAe]; exact h
  have hbA : ¬ A b := by rw [hAe]; exact Nat.not_le.mpr hbl
  refine lv_aload_n hx hb dL_law_534 rfl (lv_at hl 1 rfl) ?_
  refine lv_aload_n hx hb dL_law_535 rfl (lv_at hl 0 rfl) ?_
  refine lv_iload_n hx hb dL_law_536 rfl (lv_at hl 3 rfl) ?_
  refine lv_iconst (v := 1) hx hb dL_law_537 (by decide) ?_
  refine lv_iadd hx hb dL_law_538 ?_
  refine qi_as (y := nI (i + 1)) (nI_add i 1) ?_
  refine va_sld hx hb hX hbl hbA hS (vp_in_nI (n := i + 1) (N := L) (by omega) (by omega)) dL_law_539 ?_
  refine qi_as (y := xs (i + 1)) (by rw [nI_clamp (by omega)]) ?_
  refine lv_aload_n hx hb dL_law_540 rfl (lv_at hl 0 rfl) ?_
  refine lv_iload_n hx hb dL_law_541 rfl (lv_at hl 3 rfl) ?_
  refine lv_iconst (v := 2) hx hb dL_law_542 (by decide) ?_
  refine lv_iadd hx hb dL_law_543 ?_
  refine qi_as (y := nI (i + 2)) (nI_add i 2) ?_
  refine va_sld hx hb hX hbl hbA hS (vp_in_nI (n := i + 2) (N := L) (by omega) (by omega)) dL_law_544 ?_
  refine qi_as (y := xs (i + 2)) (by rw [nI_clamp (by omega)]) ?_
  refine lx_i (va_runV (As := [.int (xs (i + 1)), .int (xs (i + 2))]) (rest := []) ⟨hx, hb, hml, hown, hts⟩ (w_bears l dC dI gd kA ad cB bS sK sV Y ik vs kvs tl T h0 X (xs (i + 1)) (xs (i + 2)) H.size) (cwV 2 hts gL_law_X11_bears rfl rfl rfl hd_yX11_bears ⟨Nat.le_of_ble_eq_true rfl, Nat.le_of_ble_eq_true rfl⟩) ⟨fun a U g mk q => by obtain ⟨q0, q1, qX, qK, qY1, qY2, qG⟩ := q; exact ⟨q0, mvz g mk a q1, qX, mvK g mk a qK, qY1, qY2, qG.same rfl rfl⟩, hLS.1.recv hLS.2.2.1, fun U hU hW => ⟨rfl, by rw [hU], by rw [hU]; exact hLS.1, va_K.moved hW.alike hLS.2.2.1, hLS.2.2.2.2.2.2.1, fun q hq hy => absurd (hLS.2.2.2.2.2.2.2.2 q hy) (Nat.not_lt.mpr hq), hGA.call hS hU hW (bl_in hLS.2.2.2.2.1 hS hA)⟩⟩ rfl rfl hl.1 rfl (lv_room (Nat.le_of_ble_eq_true rfl)) dL_law_545 ⟨by show _ ≤ 600000; omega, by show _ ≤ 7302250; omega⟩) hLS hS hA (fun r1_ u_ H locs X T hp1 hLS hS => ?_)
  obtain ⟨e1_, rfl⟩ := hp1
  have hLS : Lst dC dI ad bS Y s A h0 m0 ik vs kvs tl im vm kvm tm X T M T2 H := hLS
  refine lv_pop hx hb dL_law_548 rfl ?_
  refine lv_aload_n hx hb dL_law_549 rfl (lv_at hl 2 rfl) ?_
  refine lv_aload_n hx hb dL_law_550 rfl (lv_at hl 0 rfl) ?_
  refine lv_iload_n hx hb dL_law_551 rfl (lv_at hl 3 rfl) ?_
  refine lv_iconst (v := 1) hx hb dL_law_552 (by decide) ?_
  refine lv_iadd hx hb dL_law_553 ?_
  refine qi_as (y := nI (i + 1)) (nI_add i 1) ?_
  refine va_sld hx hb hX hbl hbA hS (vp_in_nI (n := i + 1) (N := L) (by omega) (by omega)) dL_law_554 ?_
  refine qi_as (y := xs (i + 1)) (by rw [nI_clamp (by omega)]) ?_
  refine lv_aload_n hx hb dL_law_555 rfl (lv_at hl 0 rfl) ?_
  refine lv_iload_n hx hb dL_law_556 rfl (lv_at hl 3 rfl) ?_
  refine lv_iconst (v := 2) hx hb dL_law_557 (by decide) ?_
  refine lv_iadd hx hb dL_law_558 ?_
  refine qi_as (y := nI (i + 2)) (nI_add i 2) ?_
  refine va_sld hx hb hX hbl hbA hS (vp_in_nI (n := i + 2) (N := L) (by omega) (by omega)) dL_law_559 ?_
  refine qi_as (y := xs (i + 2)) (by rw [nI_clamp (by omega)]) ?_
  refine lm_i (va_runV (As := [.int (xs (i + 1)), .int (xs (i + 2))]) (rest := []) ⟨hx, hb, hml, hown, hts⟩ (v_bears l dC dI sK sV im vm kvm tm T2 m0 M (xs (i + 1)) (xs (i + 2)) H.size) (cwV 2 hts gL_law_X12_bears rfl rfl rfl hd_yX12_bears ⟨Nat.le_of_ble_eq_true rfl, Nat.le_of_ble_eq_true rfl⟩) ⟨fun a U g mk q => by obtain ⟨q0, q1, qX, qK, qG⟩ := q; exact ⟨q0, mvz g mk a q1, qX, mvK g mk a qK, qG.same rfl rfl⟩, hLS.2.1.recv hLS.2.2.2.1, fun U hU hW => ⟨rfl, by rw [hU], by rw [hU]; exact hLS.2.1, va_K.moved hW.alike hLS.2.2.2.1, hGA.2.2.2.2.2.2.call hS hU hW (bl_in hLS.2.2.2.2.2.1 hS hA)⟩⟩ rfl rfl hl.1 rfl (lv_room (Nat.le_of_ble_eq_true rfl)) dL_law_560 ⟨by show _ ≤ 600000; omega, by show _ ≤ 7302250; omega⟩) hLS hS hA (fun r2_ u_ H locs M hp2 hLS hS => ?_)
  obtain ⟨e2_, rfl⟩ := hp2
  have hLS : Lst dC dI ad bS Y s A h0 m0 ik vs kvs tl im vm kvm tm X T M T2 H := hLS
  refine lv_pop hx hb dL_law_563 rfl ?_
  refine lv_goto (tgt := 1108) hx hb dL_law_564 (by decide) ?_
  refine W.widen (k := cells + 8) (n := slots + 200) (by omega) (by omega) ?_
  exact kk ik vs kvs tl im vm kvm tm X T M H locs hLS ⟨hcp.1, by rw [hcp.2.1], hcp.2.2⟩ hS
end mg22a
section mg22a
noncomputable def dk22hcase_cL_law_0 : List (Nat × List Nat) := [(567, [43]), (568, [42]), (569, [29]), (570, [4]), (571, [96]), (572, [46]), (573, [42]), (574, [29]), (575, [5]), (576, [96]), (577, [46]), (578, [42]), (579, [29]), (580, [6]), (581, [96]), (582, [46]), (583, [182, 0, 73]), (586, [87]), (587, [44]), (588, [42]), (589, [29]), (590, [4]), (591, [96]), (592, [46]), (593, [42]), (594, [29]), (595, [5]), (596, [96]), (597, [46]), (598, [42]), (599, [29]), (600, [6]), (601, [96]), (602, [46]), (603, [182, 0, 76]), (606, [87]), (607, [167, 1, 245])]
set_option maxRecDepth 100000 in
theorem dk22hcase_cL_law_0_a : btA cL_law dk22hcase_cL_law_0 = true := by decide +kernel
theorem dL_law_567 : decode cL_law 567 = .ok (.aload_n 1, 1) := bd43 (btAt dk22hcase_cL_law_0_a 0 rfl)
theorem dL_law_568 : decode cL_law 568 = .ok (.aload_n 0, 1) := bd42 (btAt dk22hcase_cL_law_0_a 1 rfl)
theorem dL_law_569 : decode cL_law 569 = .ok (.iload_n 3, 1) := bd29 (btAt dk22hcase_cL_law_0_a 2 rfl)
theorem dL_law_570 : decode cL_law 570 = .ok (.iconst 1, 1) := bd4 (btAt dk22hcase_cL_law_0_a 3 rfl)
theorem dL_law_571 : decode cL_law 571 = .ok (.iadd, 1) := bd96 (btAt dk22hcase_cL_law_0_a 4 rfl)
theorem dL_law_572 : decode cL_law 572 = .ok (.iaload, 1) := bd46 (btAt dk22hcase_cL_law_0_a 5 rfl)
theorem dL_law_573 : decode cL_law 573 = .ok (.aload_n 0, 1) := bd42 (btAt dk22hcase_cL_law_0_a 6 rfl)
theorem dL_law_574 : decode cL_law 574 = .ok (.iload_n 3, 1) := bd29 (btAt dk22hcase_cL_law_0_a 7 rfl)
theorem dL_law_575 : decode cL_law 575 = .ok (.iconst 2, 1) := bd5 (btAt dk22hcase_cL_law_0_a 8 rfl)
theorem dL_law_576 : decode cL_law 576 = .ok (.iadd, 1) := bd96 (btAt dk22hcase_cL_law_0_a 9 rfl)
theorem dL_law_577 : decode cL_law 577 = .ok (.iaload, 1) := bd46 (btAt dk22hcase_cL_law_0_a 10 rfl)
theorem dL_law_578 : decode cL_law 578 = .ok (.aload_n 0, 1) := bd42 (btAt dk22hcase_cL_law_0_a 11 rfl)
theorem dL_law_579 : decode cL_law 579 = .ok (.iload_n 3, 1) := bd29 (btAt dk22hcase_cL_law_0_a 12 rfl)
theorem dL_law_580 : decode cL_law 580 = .ok (.iconst 3, 1) := bd6 (btAt dk22hcase_cL_law_0_a 13 rfl)
theorem dL_law_581 : decode cL_law 581 = .ok (.iadd, 1) := bd96 (btAt dk22hcase_cL_law_0_a 14 rfl)
theorem dL_law_582 : decode cL_law 582 = .ok (.iaload, 1) := bd46 (btAt dk22hcase_cL_law_0_a 15 rfl)
theorem dL_law_583 : decode cL_law 583 = .ok (.invokevirtual 73, 3) := bd182 (a := 0) (b := 73) (btAt dk22hcase_cL_law_0_a 16 rfl)
theorem dL_law_586 : decode cL_law 586 = .ok (.pop, 1) := bd87 (btAt dk22hcase_cL_law_0_a 17 rfl)
theorem dL_law_587 : decode cL_law 587 = .ok (.aload_n 2, 1) := bd44 (btAt dk22hcase_cL_law_0_a 18 rfl)
theorem dL_law_588 : decode cL_law 588 = .ok (.aload_n 0, 1) := bd42 (btAt dk22hcase_cL_law_0_a 19 rfl)
theorem dL_law_589 : decode cL_law 589 = .ok (.iload_n 3, 1) := bd29 (btAt dk22hcase_cL_law_0_a 20 rfl)
theorem dL_law_590 : decode cL_law 590 = .ok (.iconst 1, 1) := bd4 (btAt dk22hcase_cL_law_0_a 21 rfl)
theorem dL_law_591 : decode cL_law 591 = .ok (.iadd, 1) := bd96 (btAt dk22hcase_cL_law_0_a 22 rfl)
theorem dL_law_592 : decode cL_law 592 = .ok (.iaload, 1) := bd46 (btAt dk22hcase_cL_law_0_a 23 rfl)
theorem dL_law_593 : decode cL_law 593 = .ok (.aload_n 0, 1) := bd42 (btAt dk22hcase_cL_law_0_a 24 rfl)
theorem dL_law_594 : decode cL_law 594 = .ok (.iload_n 3, 1) := bd29 (btAt dk22hcase_cL_law_0_a 25 rfl)
theorem dL_law_595 : decode cL_law 595 = .ok (.iconst 2, 1) := bd5 (btAt dk22hcase_cL_law_0_a 26 rfl)
theorem dL_law_596 : decode cL_law 596 = .ok (.iadd, 1) := bd96 (btAt dk22hcase_cL_law_0_a 27 rfl)
theorem dL_law_597 : decode cL_law 597 = .ok (.iaload, 1) := bd46 (btAt dk22hcase_cL_law_0_a 28 rfl)
theorem dL_law_598 : decode cL_law 598 = .ok (.aload_n 0, 1) := bd42 (btAt dk22hcase_cL_law_0_a 29 rfl)
theorem dL_law_599 : decode cL_law 599 = .ok (.iload_n 3, 1) := bd29 (btAt dk22hcase_cL_law_0_a 30 rfl)
theorem dL_law_600 : decode cL_law 600 = .ok (.iconst 3, 1) := bd6 (btAt dk22hcase_cL_law_0_a 31 rfl)
theorem dL_law_601 : decode cL_law 601 = .ok (.iadd, 1) := bd96 (btAt dk22hcase_cL_law_0_a 32 rfl)
theorem dL_law_602 : decode cL_law 602 = .ok (.iaload, 1) := bd46 (btAt dk22hcase_cL_law_0_a 33 rfl)
theorem dL_law_603 : decode cL_law 603 = .ok (.invokevirtual 76, 3) := bd182 (a := 0) (b := 76) (btAt dk22hcase_cL_law_0_a 34 rfl)
theorem dL_law_606 : decode cL_law 606 = .ok (.pop, 1) := bd87 (btAt dk22hcase_cL_law_0_a 35 rfl)
theorem dL_law_607 : decode cL_law 607 = .ok (.goto 501, 3) := bd167 (a := 1) (b := 245) (btAt dk22hcase_cL_law_0_a 36 rfl)
set_option maxHeartbeats 4000000 in
set_option maxRecDepth 100000 in
theorem lc_13 {p : Program} {l : Launch} {e : Env} {s : State} {m : MethodId} {below : List Frame} {meth : Method} {c : Code} {b L : Nat} {xs : Nat → Int32} {A : Nat → Prop} (hAe : A = fun q => s.heap.size ≤ q) (C0 : lw_At p s m meth c b L xs) (dC : Nat → ClassId) (dI : Nat → Nat → Nat) (gd : Nat → Nat) (kA : Nat) (ad : Nat → Nat) (cB bS : Nat) (sK sV : Nat → Nat) (Y : Nat → Prop) (h0 m0 : Nat) (ik : Int32) (vs kvs : VS) (tl : List Nat) (im : Int32) (vm kvm : VS) (tm : List Nat) (X : va_W) (T : List (ClassId × FieldType)) (M : va_W) (T2 : List (ClassId × FieldType)) (hGA : GA gd kA ad cB bS sK sV A s) (i : Nat) (hi : i + 5 ≤ L) (hL : L ≤ 320) (H : Heap) (locs : List Loc) (hLS : Lst dC dI ad bS Y s A h0 m0 ik vs kvs tl im vm kvm tm X T M T2 H) (cells slots : Nat) (hc0 : cells ≤ 590000) (hs0 : slots ≤ 7000000) (hS : va_S A s.heap H locs) (ls : Array Slot) (hl : lv_has ls 4 [(0, .ref b), (1, .ref h0), (2, .ref m0), (3, .int (nI i))]) (hcp : ik = im ∧ vs = vm ∧ (im = 0 ∨ kvs = kvm) ∧ tl = tm) (kk : ∀ (ik : Int32) (vs kvs : VS) (tl : List Nat) (im : Int32) (vm kvm : VS) (tm : List Nat) (X : va_W) (T : List (ClassId × FieldType)) (M : va_W) (H : Heap) (locs : List Loc), Lst dC dI ad bS Y s A h0 m0 ik vs kvs tl im vm kvm tm X T M T2 H → (ik = im ∧ vs = vm ∧ (im = 0 ∨ kvs = kvm) ∧ tl = tm) → va_S A s.heap H locs → W p l e room_1 s m #[Value.ref b] below meth c H locs (cells + 8) (slots + 200) (lw_Z below #[Value.ref b] s) (F0 m 1108 ls [])) : W p l e room_1 s m #[Value.ref b] below meth c H locs cells slots (lw_Z below #[Value.ref b] s) (F0 m 567 ls []) := by
  obtain ⟨hx, hb, hr, hml, hown, hts0, hX, hbl, hlocks, hgv⟩ := id C0
  have hown : s.vm.findClass RL = some m.cls := hown
  have hb : c.code = cL_law := hb
  have hts : ∀ w ∈ lw_tbl, w.before #[Value.ref b] s = true := fun w h => hts0 w (wsL_law_in w h)
  have hA : ∀ q : Nat, s.heap.size ≤ q → A q := fun q h => by rw [hAe]; exact h
  have hbA : ¬ A b := by rw [hAe]; exact Nat.not_le.mpr hbl
  refine lv_aload_n hx hb dL_law_567 rfl (lv_at hl 1 rfl) ?_
  refine lv_aload_n hx hb dL_law_568 rfl (lv_at hl 0 rfl) ?_
  refine lv_iload_n hx hb dL_law_569 rfl (lv_at hl 3 rfl) ?_
  refine lv_iconst (v := 1) hx hb dL_law_570 (by decide) ?_
  refine lv_iadd hx hb dL_law_571 ?_
  refine qi_as (y := nI (i + 1)) (nI_add i 1) ?_
  refine va_sld hx hb hX hbl hbA hS (vp_in_nI (n := i + 1) (N := L) (by omega) (by omega)) dL_law_572 ?_
  refine qi_as (y := xs (i + 1)) (by rw [nI_clamp (by omega)]) ?_
  refine lv_aload_n hx hb dL_law_573 rfl (lv_at hl 0 rfl) ?_
  refine lv_iload_n hx hb dL_law_574 rfl (lv_at hl 3 rfl) ?_
  refine lv_iconst (v := 2) hx hb dL_law_575 (by decide) ?_
  refine lv_iadd hx hb dL_law_576 ?_
  refine qi_as (y := nI (i + 2)) (nI_add i 2) ?_
  refine va_sld hx hb hX hbl hbA hS (vp_in_nI (n := i + 2) (N := L) (by omega) (by omega)) dL_law_577 ?_
  refine qi_as (y := xs (i + 2)) (by rw [nI_clamp (by omega)]) ?_
  refine lv_aload_n hx hb dL_law_578 rfl (lv_at hl 0 rfl) ?_
  refine lv_iload_n hx hb dL_law_579 rfl (lv_at hl 3 rfl) ?_
  refine lv_iconst (v := 3) hx hb dL_law_580 (by decide) ?_
  refine lv_iadd hx hb dL_law_581 ?_
  refine qi_as (y := nI (i + 3)) (nI_add i 3) ?_
  refine va_sld hx hb hX hbl hbA hS (vp_in_nI (n := i + 3) (N := L) (by omega) (by omega)) dL_law_582 ?_
  refine qi_as (y := xs (i + 3)) (by rw [nI_clamp (by omega)]) ?_
  refine lx_i (va_runV (As := [.int (xs (i + 1)), .int (xs (i + 2)), .int (xs (i + 3))]) (rest := []) ⟨hx, hb, hml, hown, hts⟩ (w_build l dC dI gd kA ad cB bS sK sV Y ik vs kvs tl T h0 X (xs (i + 1)) (xs (i + 2)) (xs (i + 3)) H.size) (cwV 3 hts gL_law_X11_build rfl rfl rfl hd_yX11_build ⟨Nat.le_of_ble_eq_true rfl, Nat.le_of_ble_eq_true rfl⟩) ⟨fun a U g mk q => by obtain ⟨q0, q1, qX, qK, qY1, qY2, qG⟩ := q; exact ⟨q0, mvz g mk a q1, qX, mvK g mk a qK, qY1, qY2, qG.same rfl rfl⟩, hLS.1.recv hLS.2.2.1, fun U hU hW => ⟨rfl, by rw [hU], by rw [hU]; exact hLS.1, va_K.moved hW.alike hLS.2.2.1, hLS.2.2.2.2.2.2.1, fun q hq hy => absurd (hLS.2.2.2.2.2.2.2.2 q hy) (Nat.not_lt.mpr hq), hGA.call hS hU hW (bl_in hLS.2.2.2.2.1 hS hA)⟩⟩ rfl rfl hl.1 rfl (lv_room (Nat.le_of_ble_eq_true rfl)) dL_law_583 ⟨by show _ ≤ 600000; omega, by show _ ≤ 7302250; omega⟩) hLS hS hA (fun r1_ u_ H locs X T hp1 hLS hS => ?_)
  obtain ⟨e1_, rfl⟩ := hp1
  have hLS : Lst dC dI ad bS Y s A h0 m0 ik vs kvs tl im vm kvm tm X T M T2 H := hLS
  refine lv_pop hx hb dL_law_586 rfl ?_
  refine lv_aload_n hx hb dL_law_587 rfl (lv_at hl 2 rfl) ?_
  refine lv_aload_n hx hb dL_law_588 rfl (lv_at hl 0 rfl) ?_
  refine lv_iload_n hx hb dL_law_589 rfl (lv_at hl 3 rfl) ?_
  refine lv_iconst (v := 1) hx hb dL_law_590 (by decide) ?_
  refine lv_iadd hx hb dL_law_591 ?_
  refine qi_as (y := nI (i + 1)) (nI_add i 1) ?_
  refine va_sld hx hb hX hbl hbA hS (vp_in_nI (n := i + 1) (N := L) (by omega) (by omega)) dL_law_592 ?_
  refine qi_as (y := xs (i + 1)) (by rw [nI_clamp (by omega)]) ?_
  refine lv_aload_n hx hb dL_law_593 rfl (lv_at hl 0 rfl) ?_
  refine lv_iload_n hx hb dL_law_594 rfl (lv_at hl 3 rfl) ?_
  refine lv_iconst (v := 2) hx hb dL_law_595 (by decide) ?_
  refine lv_iadd hx hb dL_law_596 ?_
  refine qi_as (y := nI (i + 2)) (nI_add i 2) ?_
  refine va_sld hx hb hX hbl hbA hS (vp_in_nI (n := i + 2) (N := L) (by omega) (by omega)) dL_law_597 ?_
  refine qi_as (y := xs (i + 2)) (by rw [nI_clamp (by omega)]) ?_
  refine lv_aload_n hx hb dL_law_598 rfl (lv_at hl 0 rfl) ?_
  refine lv_iload_n hx hb dL_law_599 rfl (lv_at hl 3 rfl) ?_
  refine lv_iconst (v := 3) hx hb dL_law_600 (by decide) ?_
  refine lv_iadd hx hb dL_law_601 ?_
  refine qi_as (y := nI (i + 3)) (nI_add i 3) ?_
  refine va_sld hx hb hX hbl hbA hS (vp_in_nI (n := i + 3) (N := L) (by omega) (by omega)) dL_law_602 ?_
  refine qi_as (y := xs (i + 3)) (by rw [nI_clamp (by omega)]) ?_
  refine lm_i (va_runV (As := [.int (xs (i + 1)), .int (xs (i + 2)), .int (xs (i + 3))]) (rest := []) ⟨hx, hb, hml, hown, hts⟩ (v_build l dC dI sK sV im vm kvm tm T2 m0 M (xs (i + 1)) (xs (i + 2)) (xs (i + 3)) H.size) (cwV 3 hts gL_law_X12_build rfl rfl rfl hd_yX12_build ⟨Nat.le_of_ble_eq_true rfl, Nat.le_of_ble_eq_true rfl⟩) ⟨fun a U g mk q => by obtain ⟨q0, q1, qX, qK, qG⟩ := q; exact ⟨q0, mvz g mk a q1, qX, mvK g mk a qK, qG.same rfl rfl⟩, hLS.2.1.recv hLS.2.2.2.1, fun U hU hW => ⟨rfl, by rw [hU], by rw [hU]; exact hLS.2.1, va_K.moved hW.alike hLS.2.2.2.1, hGA.2.2.2.2.2.2.call hS hU hW (bl_in hLS.2.2.2.2.2.1 hS hA)⟩⟩ rfl rfl hl.1 rfl (lv_room (Nat.le_of_ble_eq_true rfl)) dL_law_603 ⟨by show _ ≤ 600000; omega, by show _ ≤ 7302250; omega⟩) hLS hS hA (fun r2_ u_ H locs M hp2 hLS hS => ?_)
  obtain ⟨e2_, rfl⟩ := hp2
  have hLS : Lst dC dI ad bS Y s A h0 m0 ik vs kvs tl im vm kvm tm X T M T2 H := hLS
  refine lv_pop hx hb dL_law_606 rfl ?_
  refine lv_goto (tgt := 1108) hx hb dL_law_607 (by decide) ?_
  refine W.widen (k := cells + 8) (n := slots + 200) (by omega) (by omega) ?_
  exact kk ik vs kvs tl im vm kvm tm X T M H locs hLS ⟨hcp.1, by rw [hcp.2.1], hcp.2.2⟩ hS
end mg22a
section mg22a
noncomputable def dk22icase_cL_law_0 : List (Nat × List Nat) := [(610, [43]), (611, [42]), (612, [29]), (613, [4]), (614, [96]), (615, [46]), (616, [182, 0, 77]), (619, [87]), (620, [44]), (621, [42]), (622, [29]), (623, [4]), (624, [96]), (625, [46]), (626, [182, 0, 80]), (629, [87]), (630, [167, 1, 222]), (633, [43]), (634, [42]), (635, [29]), (636, [4]), (637, [96]), (638, [46]), (639, [182, 0, 81]), (642, [87]), (643, [44]), (644, [42]), (645, [29]), (646, [4]), (647, [96]), (648, [46]), (649, [182, 0, 84]), (652, [87]), (653, [167, 1, 199])]
set_option maxRecDepth 100000 in
theorem dk22icase_cL_law_0_a : btA cL_law dk22icase_cL_law_0 = true := by decide +kernel
theorem dL_law_610 : decode cL_law 610 = .ok (.aload_n 1, 1) := bd43 (btAt dk22icase_cL_law_0_a 0 rfl)
theorem dL_law_611 : decode cL_law 611 = .ok (.aload_n 0, 1) := bd42 (btAt dk22icase_cL_law_0_a 1 rfl)
theorem dL_law_612 : decode cL_law 612 = .ok (.iload_n 3, 1) := bd29 (btAt dk22icase_cL_law_0_a 2 rfl)
theorem dL_law_613 : decode cL_law 613 = .ok (.iconst 1, 1) := bd4 (btAt dk22icase_cL_law_0_a 3 rfl)
theorem dL_law_614 : decode cL_law 614 = .ok (.iadd, 1) := bd96 (btAt dk22icase_cL_law_0_a 4 rfl)
theorem dL_law_615 : decode cL_law 615 = .ok (.iaload, 1) := bd46 (btAt dk22icase_cL_law_0_a 5 rfl)
theorem dL_law_616 : decode cL_law 616 = .ok (.invokevirtual 77, 3) := bd182 (a := 0) (b := 77) (btAt dk22icase_cL_law_0_a 6 rfl)
theorem dL_law_619 : decode cL_law 619 = .ok (.pop, 1) := bd87 (btAt dk22icase_cL_law_0_a 7 rfl)
theorem dL_law_620 : decode cL_law 620 = .ok (.aload_n 2, 1) := bd44 (btAt dk22icase_cL_law_0_a 8 rfl)
theorem dL_law_621 : decode cL_law 621 = .ok (.aload_n 0, 1) := bd42 (btAt dk22icase_cL_law_0_a 9 rfl)
theorem dL_law_622 : decode cL_law 622 = .ok (.iload_n 3, 1) := bd29 (btAt dk22icase_cL_law_0_a 10 rfl)
theorem dL_law_623 : decode cL_law 623 = .ok (.iconst 1, 1) := bd4 (btAt dk22icase_cL_law_0_a 11 rfl)
theorem dL_law_624 : decode cL_law 624 = .ok (.iadd, 1) := bd96 (btAt dk22icase_cL_law_0_a 12 rfl)
theorem dL_law_625 : decode cL_law 625 = .ok (.iaload, 1) := bd46 (btAt dk22icase_cL_law_0_a 13 rfl)
theorem dL_law_626 : decode cL_law 626 = .ok (.invokevirtual 80, 3) := bd182 (a := 0) (b := 80) (btAt dk22icase_cL_law_0_a 14 rfl)
theorem dL_law_629 : decode cL_law 629 = .ok (.pop, 1) := bd87 (btAt dk22icase_cL_law_0_a 15 rfl)
theorem dL_law_630 : decode cL_law 630 = .ok (.goto 478, 3) := bd167 (a := 1) (b := 222) (btAt dk22icase_cL_law_0_a 16 rfl)
theorem dL_law_633 : decode cL_law 633 = .ok (.aload_n 1, 1) := bd43 (btAt dk22icase_cL_law_0_a 17 rfl)
theorem dL_law_634 : decode cL_law 634 = .ok (.aload_n 0, 1) := bd42 (btAt dk22icase_cL_law_0_a 18 rfl)
theorem dL_law_635 : decode cL_law 635 = .ok (.iload_n 3, 1) := bd29 (btAt dk22icase_cL_law_0_a 19 rfl)
theorem dL_law_636 : decode cL_law 636 = .ok (.iconst 1, 1) := bd4 (btAt dk22icase_cL_law_0_a 20 rfl)
theorem dL_law_637 : decode cL_law 637 = .ok (.iadd, 1) := bd96 (btAt dk22icase_cL_law_0_a 21 rfl)
theorem dL_law_638 : decode cL_law 638 = .ok (.iaload, 1) := bd46 (btAt dk22icase_cL_law_0_a 22 rfl)
theorem dL_law_639 : decode cL_law 639 = .ok (.invokevirtual 81, 3) := bd182 (a := 0) (b := 81) (btAt dk22icase_cL_law_0_a 23 rfl)
theorem dL_law_642 : decode cL_law 642 = .ok (.pop, 1) := bd87 (btAt dk22icase_cL_law_0_a 24 rfl)
theorem dL_law_643 : decode cL_law 643 = .ok (.aload_n 2, 1) := bd44 (btAt dk22icase_cL_law_0_a 25 rfl)
theorem dL_law_644 : decode cL_law 644 = .ok (.aload_n 0, 1) := bd42 (btAt dk22icase_cL_law_0_a 26 rfl)
theorem dL_law_645 : decode cL_law 645 = .ok (.iload_n 3, 1) := bd29 (btAt dk22icase_cL_law_0_a 27 rfl)
theorem dL_law_646 : decode cL_law 646 = .ok (.iconst 1, 1) := bd4 (btAt dk22icase_cL_law_0_a 28 rfl)
theorem dL_law_647 : decode cL_law 647 = .ok (.iadd, 1) := bd96 (btAt dk22icase_cL_law_0_a 29 rfl)
theorem dL_law_648 : decode cL_law 648 = .ok (.iaload, 1) := bd46 (btAt dk22icase_cL_law_0_a 30 rfl)
theorem dL_law_649 : decode cL_law 649 = .ok (.invokevirtual 84, 3) := bd182 (a := 0) (b := 84) (btAt dk22icase_cL_law_0_a 31 rfl)
theorem dL_law_652 : decode cL_law 652 = .ok (.pop, 1) := bd87 (btAt dk22icase_cL_law_0_a 32 rfl)
theorem dL_law_653 : decode cL_law 653 = .ok (.goto 455, 3) := bd167 (a := 1) (b := 199) (btAt dk22icase_cL_law_0_a 33 rfl)
set_option maxHeartbeats 4000000 in
set_option maxRecDepth 100000 in
theorem lc_14 {p : Program} {l : Launch} {e : Env} {s : State} {m : MethodId} {below : List Frame} {meth : Method} {c : Code} {b L : Nat} {xs : Nat → Int32} {A : Nat → Prop} (hAe : A = fun q => s.heap.size ≤ q) (C0 : lw_At p s m meth c b L xs) (dC : Nat → ClassId) (dI : Nat → Nat → Nat) (gd : Nat → Nat) (kA : Nat) (ad : Nat → Nat) (cB bS : Nat) (sK sV : Nat → Nat) (Y : Nat → Prop) (h0 m0 : Nat) (ik : Int32) (vs kvs : VS) (tl : List Nat) (im : Int32) (vm kvm : VS) (tm : List Nat) (X : va_W) (T : List (ClassId × FieldType)) (M : va_W) (T2 : List (ClassId × FieldType)) (hGA : GA gd kA ad cB bS sK sV A s) (i : Nat) (hi : i + 5 ≤ L) (hL : L ≤ 320) (H : Heap) (locs : List Loc) (hLS : Lst dC dI ad bS Y s A h0 m0 ik vs kvs tl im vm kvm tm X T M T2 H) (cells slots : Nat) (hc0 : cells ≤ 590000) (hs0 : slots ≤ 7000000) (hS : va_S A s.heap H locs) (ls : Array Slot) (hl : lv_has ls 4 [(0, .ref b), (1, .ref h0), (2, .ref m0), (3, .int (nI i))]) (hcp : ik = im ∧ vs = vm ∧ (im = 0 ∨ kvs = kvm) ∧ tl = tm) (kk : ∀ (ik : Int32) (vs kvs : VS) (tl : List Nat) (im : Int32) (vm kvm : VS) (tm : List Nat) (X : va_W) (T : List (ClassId × FieldType)) (M : va_W) (H : Heap) (locs : List Loc), Lst dC dI ad bS Y s A h0 m0 ik vs kvs tl im vm kvm tm X T M T2 H → (ik = im ∧ vs = vm ∧ (im = 0 ∨ kvs = kvm) ∧ tl = tm) → va_S A s.heap H locs → W p l e room_1 s m #[Value.ref b] below meth c H locs (cells + 8) (slots + 200) (lw_Z below #[Value.ref b] s) (F0 m 1108 ls [])) : W p l e room_1 s m #[Value.ref b] below meth c H locs cells slots (lw_Z below #[Value.ref b] s) (F0 m 610 ls []) := by
  obtain ⟨hx, hb, hr, hml, hown, hts0, hX, hbl, hlocks, hgv⟩ := id C0
  have hown : s.vm.findClass RL = some m.cls := hown
  have hb : c.code = cL_law := hb
  have hts : ∀ w ∈ lw_tbl, w.before #[Value.ref b] s = true := fun w h => hts0 w (wsL_law_in w h)
  have hA : ∀ q : Nat, s.heap.size ≤ q → A q := fun q h => by rw [hAe]; exact h
  have hbA : ¬ A b := by rw [hAe]; exact Nat.not_le.mpr hbl
  refine lv_aload_n hx hb dL_law_610 rfl (lv_at hl 1 rfl) ?_
  refine lv_aload_n hx hb dL_law_611 rfl (lv_at hl 0 rfl) ?_
  refine lv_iload_n hx hb dL_law_612 rfl (lv_at hl 3 rfl) ?_
  refine lv_iconst (v := 1) hx hb dL_law_613 (by decide) ?_
  refine lv_iadd hx hb dL_law_614 ?_
  refine qi_as (y := nI (i + 1)) (nI_add i 1) ?_
  refine va_sld hx hb hX hbl hbA hS (vp_in_nI (n := i + 1) (N := L) (by omega) (by omega)) dL_law_615 ?_
  refine qi_as (y := xs (i + 1)) (by rw [nI_clamp (by omega)]) ?_
  refine lx_i (va_runV (As := [.int (xs (i + 1))]) (rest := []) ⟨hx, hb, hml, hown, hts⟩ (w_drift l dC dI gd kA ad cB bS sK sV Y ik vs kvs tl T h0 X (xs (i + 1)) H.size) (cwV 1 hts gL_law_X11_drift rfl rfl rfl hd_yX11_drift ⟨Nat.le_of_ble_eq_true rfl, Nat.le_of_ble_eq_true rfl⟩) ⟨fun a U g mk q => by obtain ⟨q0, q1, qX, qK, qY1, qY2, qG⟩ := q; exact ⟨q0, mvz g mk a q1, qX, mvK g mk a qK, qY1, qY2, qG.same rfl rfl⟩, hLS.1.recv hLS.2.2.1, fun U hU hW => ⟨rfl, by rw [hU], by rw [hU]; exact hLS.1, va_K.moved hW.alike hLS.2.2.1, hLS.2.2.2.2.2.2.1, fun q hq hy => absurd (hLS.2.2.2.2.2.2.2.2 q hy) (Nat.not_lt.mpr hq), hGA.call hS hU hW (bl_in hLS.2.2.2.2.1 hS hA)⟩⟩ rfl rfl hl.1 rfl (lv_room (Nat.le_of_ble_eq_true rfl)) dL_law_616 ⟨by show _ ≤ 600000; omega, by show _ ≤ 7302250; omega⟩) hLS hS hA (fun r1_ u_ H locs X T hp1 hLS hS => ?_)
  obtain ⟨e1_, rfl⟩ := hp1
  have hLS : Lst dC dI ad bS Y s A h0 m0 ik vs kvs tl im vm kvm tm X T M T2 H := hLS
  refine lv_pop hx hb dL_law_619 rfl ?_
  refine lv_aload_n hx hb dL_law_620 rfl (lv_at hl 2 rfl) ?_
  refine lv_aload_n hx hb dL_law_621 rfl (lv_at hl 0 rfl) ?_
  refine lv_iload_n hx hb dL_law_622 rfl (lv_at hl 3 rfl) ?_
  refine lv_iconst (v := 1) hx hb dL_law_623 (by decide) ?_
  refine lv_iadd hx hb dL_law_624 ?_
  refine qi_as (y := nI (i + 1)) (nI_add i 1) ?_
  refine va_sld hx hb hX hbl hbA hS (vp_in_nI (n := i + 1) (N := L) (by omega) (by omega)) dL_law_625 ?_
  refine qi_as (y := xs (i + 1)) (by rw [nI_clamp (by omega)]) ?_
  refine lm_i (va_runV (As := [.int (xs (i + 1))]) (rest := []) ⟨hx, hb, hml, hown, hts⟩ (v_drift l dC dI sK sV im vm kvm tm T2 m0 M (xs (i + 1)) H.size) (cwV 1 hts gL_law_X12_drift rfl rfl rfl hd_yX12_drift ⟨Nat.le_of_ble_eq_true rfl, Nat.le_of_ble_eq_true rfl⟩) ⟨fun a U g mk q => by obtain ⟨q0, q1, qX, qK, qG⟩ := q; exact ⟨q0, mvz g mk a q1, qX, mvK g mk a qK, qG.same rfl rfl⟩, hLS.2.1.recv hLS.2.2.2.1, fun U hU hW => ⟨rfl, by rw [hU], by rw [hU]; exact hLS.2.1, va_K.moved hW.alike hLS.2.2.2.1, hGA.2.2.2.2.2.2.call hS hU hW (bl_in hLS.2.2.2.2.2.1 hS hA)⟩⟩ rfl rfl hl.1 rfl (lv_room (Nat.le_of_ble_eq_true rfl)) dL_law_626 ⟨by show _ ≤ 600000; omega, by show _ ≤ 7302250; omega⟩) hLS hS hA (fun r2_ u_ H locs M hp2 hLS hS => ?_)
  obtain ⟨e2_, rfl⟩ := hp2
  have hLS : Lst dC dI ad bS Y s A h0 m0 ik vs kvs tl im vm kvm tm X T M T2 H := hLS
  refine lv_pop hx hb dL_law_629 rfl ?_
  refine lv_goto (tgt := 1108) hx hb dL_law_630 (by decide) ?_
  refine W.widen (k := cells + 8) (n := slots + 200) (by omega) (by omega) ?_
  exact kk ik vs kvs tl im vm kvm tm X T M H locs hLS ⟨hcp.1, by rw [hcp.2.1], hcp.2.2⟩ hS

set_option maxHeartbeats 4000000 in
set_option maxRecDepth 100000 in
theorem lc_15 {p : Program} {l : Launch} {e : Env} {s : State} {m : MethodId} {below : List Frame} {meth : Method} {c : Code} {b L : Nat} {xs : Nat → Int32} {A : Nat → Prop} (hAe : A = fun q => s.heap.size ≤ q) (C0 : lw_At p s m meth c b L xs) (dC : Nat → ClassId) (dI : Nat → Nat → Nat) (gd : Nat → Nat) (kA : Nat) (ad : Nat → Nat) (cB bS : Nat) (sK sV : Nat → Nat) (Y : Nat → Prop) (h0 m0 : Nat) (ik : Int32) (vs kvs : VS) (tl : List Nat) (im : Int32) (vm kvm : VS) (tm : List Nat) (X : va_W) (T : List (ClassId × FieldType)) (M : va_W) (T2 : List (ClassId × FieldType)) (hGA : GA gd kA ad cB bS sK sV A s) (i : Nat) (hi : i + 5 ≤ L) (hL : L ≤ 320) (H : Heap) (locs : List Loc) (hLS : Lst dC dI ad bS Y s A h0 m0 ik vs kvs tl im vm kvm tm X T M T2 H) (cells slots : Nat) (hc0 : cells ≤ 590000) (hs0 : slots ≤ 7000000) (hS : va_S A s.heap H locs) (ls : Array Slot) (hl : lv_has ls 4 [(0, .ref b), (1, .ref h0), (2, .ref m0), (3, .int (nI i))]) (hcp : ik = im ∧ vs = vm ∧ (im = 0 ∨ kvs = kvm) ∧ tl = tm) (kk : ∀ (ik : Int32) (vs kvs : VS) (tl : List Nat) (im : Int32) (vm kvm : VS) (tm : List Nat) (X : va_W) (T : List (ClassId × FieldType)) (M : va_W) (H : Heap) (locs : List Loc), Lst dC dI ad bS Y s A h0 m0 ik vs kvs tl im vm kvm tm X T M T2 H → (ik = im ∧ vs = vm ∧ (im = 0 ∨ kvs = kvm) ∧ tl = tm) → va_S A s.heap H locs → W p l e room_1 s m #[Value.ref b] below meth c H locs (cells + 8) (slots + 200) (lw_Z below #[Value.ref b] s) (F0 m 1108 ls [])) : W p l e room_1 s m #[Value.ref b] below meth c H locs cells slots (lw_Z below #[Value.ref b] s) (F0 m 633 ls []) := by
  obtain ⟨hx, hb, hr, hml, hown, hts0, hX, hbl, hlocks, hgv⟩ := id C0
  have hown : s.vm.findClass RL = some m.cls := hown
  have hb : c.code = cL_law := hb
  have hts : ∀ w ∈ lw_tbl, w.before #[Value.ref b] s = true := fun w h => hts0 w (wsL_law_in w h)
  have hA : ∀ q : Nat, s.heap.size ≤ q → A q := fun q h => by rw [hAe]; exact h
  have hbA : ¬ A b := by rw [hAe]; exact Nat.not_le.mpr hbl
  refine lv_aload_n hx hb dL_law_633 rfl (lv_at hl 1 rfl) ?_
  refine lv_aload_n hx hb dL_law_634 rfl (lv_at hl 0 rfl) ?_
  refine lv_iload_n hx hb dL_law_635 rfl (lv_at hl 3 rfl) ?_
  refine lv_iconst (v := 1) hx hb dL_law_636 (by decide) ?_
  refine lv_iadd hx hb dL_law_637 ?_
  refine qi_as (y := nI (i + 1)) (nI_add i 1) ?_
  refine va_sld hx hb hX hbl hbA hS (vp_in_nI (n := i + 1) (N := L) (by omega) (by omega)) dL_law_638 ?_
  refine qi_as (y := xs (i + 1)) (by rw [nI_clamp (by omega)]) ?_
  refine lx_i (va_runV (As := [.int (xs (i + 1))]) (rest := []) ⟨hx, hb, hml, hown, hts⟩ (w_walk l dC dI gd kA ad cB bS sK sV Y ik vs kvs tl T h0 X (xs (i + 1)) H.size) (cwV 1 hts gL_law_X11_walk rfl rfl rfl hd_yX11_walk ⟨Nat.le_of_ble_eq_true rfl, Nat.le_of_ble_eq_true rfl⟩) ⟨fun a U g mk q => by obtain ⟨q0, q1, qX, qK, qY1, qY2, qG⟩ := q; exact ⟨q0, mvz g mk a q1, qX, mvK g mk a qK, qY1, qY2, qG.same rfl rfl⟩, hLS.1.recv hLS.2.2.1, fun U hU hW => ⟨rfl, by rw [hU], by rw [hU]; exact hLS.1, va_K.moved hW.alike hLS.2.2.1, hLS.2.2.2.2.2.2.1, fun q hq hy => absurd (hLS.2.2.2.2.2.2.2.2 q hy) (Nat.not_lt.mpr hq), hGA.call hS hU hW (bl_in hLS.2.2.2.2.1 hS hA)⟩⟩ rfl rfl hl.1 rfl (lv_room (Nat.le_of_ble_eq_true rfl)) dL_law_639 ⟨by show _ ≤ 600000; omega, by show _ ≤ 7302250; omega⟩) hLS hS hA (fun r1_ u_ H locs X T hp1 hLS hS => ?_)
  obtain ⟨e1_, rfl⟩ := hp1
  have hLS : Lst dC dI ad bS Y s A h0 m0 ik (vs.1, wkN vs.2.1 (xs (i + 1)), vs.2.2.1, vs.2.2.2.1, vs.2.2.2.2.1, vs.2.2.2.2.2.1, vs.2.2.2.2.2.2.1, vs.2.2.2.2.2.2.2.1, vs.2.2.2.2.2.2.2.2.1, vs.2.2.2.2.2.2.2.2.2.1, vs.2.2.2.2.2.2.2.2.2.2.1, vs.2.2.2.2.2.2.2.2.2.2.2.1, vs.2.2.2.2.2.2.2.2.2.2.2.2.1, wkW vs.2.1 vs.2.2.2.2.2.2.2.2.2.2.2.2.2 (xs (i + 1))) kvs tl im vm kvm tm X T M T2 H := hLS
  refine lv_pop hx hb dL_law_642 rfl ?_
  refine lv_aload_n hx hb dL_law_643 rfl (lv_at hl 2 rfl) ?_
  refine lv_aload_n hx hb dL_law_644 rfl (lv_at hl 0 rfl) ?_
  refine lv_iload_n hx hb dL_law_645 rfl (lv_at hl 3 rfl) ?_
  refine lv_iconst (v := 1) hx hb dL_law_646 (by decide) ?_
  refine lv_iadd hx hb dL_law_647 ?_
  refine qi_as (y := nI (i + 1)) (nI_add i 1) ?_
  refine va_sld hx hb hX hbl hbA hS (vp_in_nI (n := i + 1) (N := L) (by omega) (by omega)) dL_law_648 ?_
  refine qi_as (y := xs (i + 1)) (by rw [nI_clamp (by omega)]) ?_
  refine lm_i (va_runV (As := [.int (xs (i + 1))]) (rest := []) ⟨hx, hb, hml, hown, hts⟩ (v_walk l dC dI sK sV im vm kvm tm T2 m0 M (xs (i + 1)) H.size) (cwV 1 hts gL_law_X12_walk rfl rfl rfl hd_yX12_walk ⟨Nat.le_of_ble_eq_true rfl, Nat.le_of_ble_eq_true rfl⟩) ⟨fun a U g mk q => by obtain ⟨q0, q1, qX, qK, qG⟩ := q; exact ⟨q0, mvz g mk a q1, qX, mvK g mk a qK, qG.same rfl rfl⟩, hLS.2.1.recv hLS.2.2.2.1, fun U hU hW => ⟨rfl, by rw [hU], by rw [hU]; exact hLS.2.1, va_K.moved hW.alike hLS.2.2.2.1, hGA.2.2.2.2.2.2.call hS hU hW (bl_in hLS.2.2.2.2.2.1 hS hA)⟩⟩ rfl rfl hl.1 rfl (lv_room (Nat.le_of_ble_eq_true rfl)) dL_law_649 ⟨by show _ ≤ 600000; omega, by show _ ≤ 7302250; omega⟩) hLS hS hA (fun r2_ u_ H locs M hp2 hLS hS => ?_)
  obtain ⟨e2_, rfl⟩ := hp2
  have hLS : Lst dC dI ad bS Y s A h0 m0 ik (vs.1, wkN vs.2.1 (xs (i + 1)), vs.2.2.1, vs.2.2.2.1, vs.2.2.2.2.1, vs.2.2.2.2.2.1, vs.2.2.2.2.2.2.1, vs.2.2.2.2.2.2.2.1, vs.2.2.2.2.2.2.2.2.1, vs.2.2.2.2.2.2.2.2.2.1, vs.2.2.2.2.2.2.2.2.2.2.1, vs.2.2.2.2.2.2.2.2.2.2.2.1, vs.2.2.2.2.2.2.2.2.2.2.2.2.1, wkW vs.2.1 vs.2.2.2.2.2.2.2.2.2.2.2.2.2 (xs (i + 1))) kvs tl im (vm.1, wkN vm.2.1 (xs (i + 1)), vm.2.2.1, vm.2.2.2.1, vm.2.2.2.2.1, vm.2.2.2.2.2.1, vm.2.2.2.2.2.2.1, vm.2.2.2.2.2.2.2.1, vm.2.2.2.2.2.2.2.2.1, vm.2.2.2.2.2.2.2.2.2.1, vm.2.2.2.2.2.2.2.2.2.2.1, vm.2.2.2.2.2.2.2.2.2.2.2.1, vm.2.2.2.2.2.2.2.2.2.2.2.2.1, wkW vm.2.1 vm.2.2.2.2.2.2.2.2.2.2.2.2.2 (xs (i + 1))) kvm tm X T M T2 H := hLS
  refine lv_pop hx hb dL_law_652 rfl ?_
  refine lv_goto (tgt := 1108) hx hb dL_law_653 (by decide) ?_
  refine W.widen (k := cells + 8) (n := slots + 200) (by omega) (by omega) ?_
  exact kk ik (vs.1, wkN vs.2.1 (xs (i + 1)), vs.2.2.1, vs.2.2.2.1, vs.2.2.2.2.1, vs.2.2.2.2.2.1, vs.2.2.2.2.2.2.1, vs.2.2.2.2.2.2.2.1, vs.2.2.2.2.2.2.2.2.1, vs.2.2.2.2.2.2.2.2.2.1, vs.2.2.2.2.2.2.2.2.2.2.1, vs.2.2.2.2.2.2.2.2.2.2.2.1, vs.2.2.2.2.2.2.2.2.2.2.2.2.1, wkW vs.2.1 vs.2.2.2.2.2.2.2.2.2.2.2.2.2 (xs (i + 1))) kvs tl im (vm.1, wkN vm.2.1 (xs (i + 1)), vm.2.2.1, vm.2.2.2.1, vm.2.2.2.2.1, vm.2.2.2.2.2.1, vm.2.2.2.2.2.2.1, vm.2.2.2.2.2.2.2.1, vm.2.2.2.2.2.2.2.2.1, vm.2.2.2.2.2.2.2.2.2.1, vm.2.2.2.2.2.2.2.2.2.2.1, vm.2.2.2.2.2.2.2.2.2.2.2.1, vm.2.2.2.2.2.2.2.2.2.2.2.2.1, wkW vm.2.1 vm.2.2.2.2.2.2.2.2.2.2.2.2.2 (xs (i + 1))) kvm tm X T M H locs hLS ⟨hcp.1, by rw [hcp.2.1], hcp.2.2⟩ hS
end mg22a
