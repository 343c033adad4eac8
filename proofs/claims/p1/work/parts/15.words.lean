
theorem in_wsL_law_r1 : ∀ w ∈ wsL_law_r1, w ∈ lw_tbl := fun w h => (goodIn_p wsL_law_r1 [97, 100] (by decide +kernel) (by decide +kernel) w h).1
theorem in_wsL_law_r2 : ∀ w ∈ wsL_law_r2, w ∈ lw_tbl := fun w h => (goodIn_p wsL_law_r2 [105] (by decide +kernel) (by decide +kernel) w h).1
theorem in_wsL_law_r3 : ∀ w ∈ wsL_law_r3, w ∈ lw_tbl := fun w h => (goodIn_p wsL_law_r3 [111, 220, 226] (by decide +kernel) (by decide +kernel) w h).1
theorem in_wsL_law_r4 : ∀ w ∈ wsL_law_r4, w ∈ lw_tbl := fun w h => (goodIn_p wsL_law_r4 [278, 306, 309] (by decide +kernel) (by decide +kernel) w h).1
theorem in_wsL_law_r5 : ∀ w ∈ wsL_law_r5, w ∈ lw_tbl := fun w h => (goodIn_p wsL_law_r5 [312, 1139, 353] (by decide +kernel) (by decide +kernel) w h).1
theorem in_wsL_law_r6 : ∀ w ∈ wsL_law_r6, w ∈ lw_tbl := fun w h => (goodIn_p wsL_law_r6 [1214, 1217, 357, 361] (by decide +kernel) (by decide +kernel) w h).1
theorem in_wsL_law_r7 : ∀ w ∈ wsL_law_r7, w ∈ lw_tbl := fun w h => (goodIn_p wsL_law_r7 [365, 427, 368, 376, 380] (by decide +kernel) (by decide +kernel) w h).1
theorem in_wsL_law_r8 : ∀ w ∈ wsL_law_r8, w ∈ lw_tbl := fun w h => (goodIn_p wsL_law_r8 [384, 390, 394, 397, 400, 405] (by decide +kernel) (by decide +kernel) w h).1
theorem in_wsL_law_r9 : ∀ w ∈ wsL_law_r9, w ∈ lw_tbl := fun w h => (goodIn_p wsL_law_r9 [408, 411, 414, 418, 431, 435] (by decide +kernel) (by decide +kernel) w h).1
theorem in_wsL_law_r10 : ∀ w ∈ wsL_law_r10, w ∈ lw_tbl := fun w h => (goodIn_p wsL_law_r10 [438, 442, 446, 521, 450, 454] (by decide +kernel) (by decide +kernel) w h).1
theorem in_wsL_law_r11 : ∀ w ∈ wsL_law_r11, w ∈ lw_tbl := fun w h => (goodIn_p wsL_law_r11 [458, 463, 467, 471, 478, 474] (by decide +kernel) (by decide +kernel) w h).1
theorem in_wsL_law_r12 : ∀ w ∈ wsL_law_r12, w ∈ lw_tbl := fun w h => (goodIn_p wsL_law_r12 [481, 484, 490, 493, 496, 499, 502] (by decide +kernel) (by decide +kernel) w h).1
theorem in_wsL_law_r13 : ∀ w ∈ wsL_law_r13, w ∈ lw_tbl := fun w h => (goodIn_p wsL_law_r13 [505, 508, 511, 515, 1221] (by decide +kernel) (by decide +kernel) w h).1
theorem in_wsL_law_r14 : ∀ w ∈ wsL_law_r14, w ∈ lw_tbl := fun w h => (goodIn_p wsL_law_r14 [1225, 1229, 1233, 1237, 1242, 1246] (by decide +kernel) (by decide +kernel) w h).1
theorem in_wsL_law_r15 : ∀ w ∈ wsL_law_r15, w ∈ lw_tbl := fun w h => (goodIn_p wsL_law_r15 [1252, 1256, 1268, 1260, 1264, 1273] (by decide +kernel) (by decide +kernel) w h).1
theorem in_wsL_law_r16 : ∀ w ∈ wsL_law_r16, w ∈ lw_tbl := fun w h => (goodIn_p wsL_law_r16 [526, 530, 1281, 1285] (by decide +kernel) (by decide +kernel) w h).1
theorem in_wsL_law_r17 : ∀ w ∈ wsL_law_r17, w ∈ lw_tbl := fun w h => (goodIn_p wsL_law_r17 [537, 541, 1289, 1293, 1297] (by decide +kernel) (by decide +kernel) w h).1
theorem in_wsL_law_r18 : ∀ w ∈ wsL_law_r18, w ∈ lw_tbl := fun w h => (goodIn_p wsL_law_r18 [546, 549, 553, 556] (by decide +kernel) (by decide +kernel) w h).1
theorem in_wsL_law_r19 : ∀ w ∈ wsL_law_r19, w ∈ lw_tbl := fun w h => (goodIn_p wsL_law_r19 [561, 572, 583] (by decide +kernel) (by decide +kernel) w h).1
theorem in_wsL_law_r20 : ∀ w ∈ wsL_law_r20, w ∈ lw_tbl := fun w h => (goodIn_p wsL_law_r20 [594, 605, 616, 1301, 1304, 1308] (by decide +kernel) (by decide +kernel) w h).1
theorem in_wsL_law_r21 : ∀ w ∈ wsL_law_r21, w ∈ lw_tbl := fun w h => (goodIn_p wsL_law_r21 [1312, 628, 632, 636] (by decide +kernel) (by decide +kernel) w h).1
theorem in_wsL_law_r22 : ∀ w ∈ wsL_law_r22, w ∈ lw_tbl := fun w h => (goodIn_p wsL_law_r22 [640, 643, 646, 650, 654, 657, 683] (by decide +kernel) (by decide +kernel) w h).1
theorem in_wsL_law_r23 : ∀ w ∈ wsL_law_r23, w ∈ lw_tbl := fun w h => (goodIn_p wsL_law_r23 [665, 669, 673, 680] (by decide +kernel) (by decide +kernel) w h).1
theorem in_wsL_law_r24 : ∀ w ∈ wsL_law_r24, w ∈ lw_tbl := fun w h => (goodIn_p wsL_law_r24 [1316, 1320, 1324, 1328, 688] (by decide +kernel) (by decide +kernel) w h).1
theorem in_wsL_law_r25 : ∀ w ∈ wsL_law_r25, w ∈ lw_tbl := fun w h => (goodIn_p wsL_law_r25 [692, 697, 700, 704, 1332] (by decide +kernel) (by decide +kernel) w h).1
theorem in_wsL_law_r26 : ∀ w ∈ wsL_law_r26, w ∈ lw_tbl := fun w h => (goodIn_p wsL_law_r26 [1336, 1340, 1343, 1346, 710, 1350] (by decide +kernel) (by decide +kernel) w h).1
theorem in_wsL_law_r27 : ∀ w ∈ wsL_law_r27, w ∈ lw_tbl := fun w h => (goodIn_p wsL_law_r27 [715, 719, 724, 729] (by decide +kernel) (by decide +kernel) w h).1
theorem in_wsL_law_r28 : ∀ w ∈ wsL_law_r28, w ∈ lw_tbl := fun w h => (goodIn_p wsL_law_r28 [736, 753, 743, 749, 757] (by decide +kernel) (by decide +kernel) w h).1
theorem in_wsL_law_r29 : ∀ w ∈ wsL_law_r29, w ∈ lw_tbl := fun w h => (goodIn_p wsL_law_r29 [761, 1355, 1359, 1363, 1367, 1370] (by decide +kernel) (by decide +kernel) w h).1
theorem in_wsL_law_r30 : ∀ w ∈ wsL_law_r30, w ∈ lw_tbl := fun w h => (goodIn_p wsL_law_r30 [1373, 1376, 1380, 1384, 765, 769] (by decide +kernel) (by decide +kernel) w h).1
theorem in_wsL_law_r31 : ∀ w ∈ wsL_law_r31, w ∈ lw_tbl := fun w h => (goodIn_p wsL_law_r31 [774, 1388, 778, 782, 1392, 786] (by decide +kernel) (by decide +kernel) w h).1
theorem in_wsL_law_r32 : ∀ w ∈ wsL_law_r32, w ∈ lw_tbl := fun w h => (goodIn_p wsL_law_r32 [1396, 790, 794, 800, 1400] (by decide +kernel) (by decide +kernel) w h).1
theorem in_wsL_law_r33 : ∀ w ∈ wsL_law_r33, w ∈ lw_tbl := fun w h => (goodIn_p wsL_law_r33 [805, 809, 1404, 1408, 814] (by decide +kernel) (by decide +kernel) w h).1
theorem in_wsL_law_r34 : ∀ w ∈ wsL_law_r34, w ∈ lw_tbl := fun w h => (goodIn_p wsL_law_r34 [1412, 818, 822, 829, 833] (by decide +kernel) (by decide +kernel) w h).1
theorem in_wsL_law_r35 : ∀ w ∈ wsL_law_r35, w ∈ lw_tbl := fun w h => (goodIn_p wsL_law_r35 [838, 841, 845, 850, 853, 856, 859] (by decide +kernel) (by decide +kernel) w h).1
theorem in_wsL_law_r36 : ∀ w ∈ wsL_law_r36, w ∈ lw_tbl := fun w h => (goodIn_p wsL_law_r36 [1416, 1420, 1424, 1428, 1432, 1436] (by decide +kernel) (by decide +kernel) w h).1
theorem in_wsL_law_r37 : ∀ w ∈ wsL_law_r37, w ∈ lw_tbl := fun w h => (goodIn_p wsL_law_r37 [1440, 1443, 1446, 863, 867, 871] (by decide +kernel) (by decide +kernel) w h).1
theorem in_wsL_law_r38 : ∀ w ∈ wsL_law_r38, w ∈ lw_tbl := fun w h => (goodIn_p wsL_law_r38 [874, 879, 883, 1450, 1454, 1458] (by decide +kernel) (by decide +kernel) w h).1
theorem in_wsL_law_r39 : ∀ w ∈ wsL_law_r39, w ∈ lw_tbl := fun w h => (goodIn_p wsL_law_r39 [1461, 887, 1465, 891, 1469] (by decide +kernel) (by decide +kernel) w h).1
theorem in_wsL_law_r40 : ∀ w ∈ wsL_law_r40, w ∈ lw_tbl := fun w h => (goodIn_p wsL_law_r40 [896, 1473, 901, 1477, 905, 1481] (by decide +kernel) (by decide +kernel) w h).1
theorem in_wsL_law_r41 : ∀ w ∈ wsL_law_r41, w ∈ lw_tbl := fun w h => (goodIn_p wsL_law_r41 [909, 1485, 914, 918] (by decide +kernel) (by decide +kernel) w h).1
theorem in_wsL_law_r42 : ∀ w ∈ wsL_law_r42, w ∈ lw_tbl := fun w h => (goodIn_p wsL_law_r42 [1025, 930, 934, 937, 946, 949] (by decide +kernel) (by decide +kernel) w h).1
theorem in_wsL_law_r43 : ∀ w ∈ wsL_law_r43, w ∈ lw_tbl := fun w h => (goodIn_p wsL_law_r43 [958, 962, 966, 970, 973] (by decide +kernel) (by decide +kernel) w h).1
theorem in_wsL_law_r44 : ∀ w ∈ wsL_law_r44, w ∈ lw_tbl := fun w h => (goodIn_p wsL_law_r44 [978, 981, 1003] (by decide +kernel) (by decide +kernel) w h).1
theorem in_wsL_law_r45 : ∀ w ∈ wsL_law_r45, w ∈ lw_tbl := fun w h => (goodIn_p wsL_law_r45 [926, 1018, 1049] (by decide +kernel) (by decide +kernel) w h).1
theorem in_wsL_law_r46 : ∀ w ∈ wsL_law_r46, w ∈ lw_tbl := fun w h => (goodIn_p wsL_law_r46 [1035, 1041, 1057, 1077] (by decide +kernel) (by decide +kernel) w h).1
theorem in_wsL_law_r47 : ∀ w ∈ wsL_law_r47, w ∈ lw_tbl := fun w h => (goodIn_p wsL_law_r47 [1067, 1489, 1493] (by decide +kernel) (by decide +kernel) w h).1
theorem in_wsL_law_r48 : ∀ w ∈ wsL_law_r48, w ∈ lw_tbl := fun w h => (goodIn_p wsL_law_r48 [1496, 1500, 1504, 1508, 1512, 1516] (by decide +kernel) (by decide +kernel) w h).1
theorem in_wsL_law_r49 : ∀ w ∈ wsL_law_r49, w ∈ lw_tbl := fun w h => (goodIn_p wsL_law_r49 [1520, 1082, 1087, 1090, 1095] (by decide +kernel) (by decide +kernel) w h).1
theorem in_wsL_law_r50 : ∀ w ∈ wsL_law_r50, w ∈ lw_tbl := fun w h => (goodIn_p wsL_law_r50 [1100, 1524, 1104, 1115] (by decide +kernel) (by decide +kernel) w h).1
theorem in_wsL_law_r51 : ∀ w ∈ wsL_law_r51, w ∈ lw_tbl := fun w h => (goodIn_p wsL_law_r51 [1528, 1121, 1125, 1532, 1130] (by decide +kernel) (by decide +kernel) w h).1
theorem in_wsL_law_r52 : ∀ w ∈ wsL_law_r52, w ∈ lw_tbl := fun w h => (goodIn_p wsL_law_r52 [1536, 1134, 1540] (by decide +kernel) (by decide +kernel) w h).1
set_option maxRecDepth 20000 in
theorem in_wsX110 : ∀ w ∈ wsX110, w ∈ lw_tbl := by decide +kernel
set_option maxRecDepth 20000 in
theorem in_wsX120 : ∀ w ∈ wsX120, w ∈ lw_tbl := by decide +kernel
set_option maxRecDepth 20000 in
theorem in_wsX80 : ∀ w ∈ wsX80, w ∈ lw_tbl := by decide +kernel
set_option maxRecDepth 20000 in
theorem in_wsX50 : ∀ w ∈ wsX50, w ∈ lw_tbl := by decide +kernel
set_option maxRecDepth 20000 in
theorem in_wsX20 : ∀ w ∈ wsX20, w ∈ lw_tbl := by decide +kernel
set_option maxRecDepth 20000 in
theorem in_wsX00 : ∀ w ∈ wsX00, w ∈ lw_tbl := by decide +kernel
set_option maxRecDepth 20000 in
theorem in_wsJx4a65c0 : ∀ w ∈ wsJx4a65c0, w ∈ lw_tbl := by decide +kernel
set_option maxRecDepth 20000 in
theorem in_wsX30 : ∀ w ∈ wsX30, w ∈ lw_tbl := by decide +kernel
set_option maxRecDepth 20000 in
theorem in_wsX10 : ∀ w ∈ wsX10, w ∈ lw_tbl := by decide +kernel
set_option maxRecDepth 20000 in
theorem in_wsX40 : ∀ w ∈ wsX40, w ∈ lw_tbl := by decide +kernel
set_option maxRecDepth 20000 in
theorem in_wsX60 : ∀ w ∈ wsX60, w ∈ lw_tbl := by decide +kernel
set_option maxRecDepth 20000 in
theorem in_wsX70 : ∀ w ∈ wsX70, w ∈ lw_tbl := by decide +kernel
set_option maxRecDepth 20000 in
theorem in_wsX90 : ∀ w ∈ wsX90, w ∈ lw_tbl := by decide +kernel
set_option maxRecDepth 20000 in
theorem in_wsX100 : ∀ w ∈ wsX100, w ∈ lw_tbl := by decide +kernel
set_option maxRecDepth 20000 in
theorem in_wsJ60 : ∀ w ∈ wsJ60, w ∈ lw_tbl := by decide +kernel
theorem wsL_law_in : ∀ w ∈ wsL_law, w ∈ lw_tbl := by
  unfold wsL_law
  exact List.forall_mem_append.mpr ⟨List.forall_mem_append.mpr ⟨List.forall_mem_append.mpr ⟨List.forall_mem_append.mpr ⟨List.forall_mem_append.mpr ⟨List.forall_mem_append.mpr ⟨List.forall_mem_append.mpr ⟨List.forall_mem_append.mpr ⟨List.forall_mem_append.mpr ⟨List.forall_mem_append.mpr ⟨List.forall_mem_append.mpr ⟨List.forall_mem_append.mpr ⟨List.forall_mem_append.mpr ⟨List.forall_mem_append.mpr ⟨List.forall_mem_append.mpr ⟨List.forall_mem_append.mpr ⟨List.forall_mem_append.mpr ⟨in_wsL_law_r1, List.forall_mem_append.mpr ⟨in_wsL_law_r2, List.forall_mem_append.mpr ⟨in_wsL_law_r3, List.forall_mem_append.mpr ⟨in_wsL_law_r4, List.forall_mem_append.mpr ⟨in_wsL_law_r5, List.forall_mem_append.mpr ⟨in_wsL_law_r6, List.forall_mem_append.mpr ⟨in_wsL_law_r7, List.forall_mem_append.mpr ⟨in_wsL_law_r8, List.forall_mem_append.mpr ⟨in_wsL_law_r9, List.forall_mem_append.mpr ⟨in_wsL_law_r10, List.forall_mem_append.mpr ⟨in_wsL_law_r11, List.forall_mem_append.mpr ⟨in_wsL_law_r12, List.forall_mem_append.mpr ⟨in_wsL_law_r13, List.forall_mem_append.mpr ⟨in_wsL_law_r14, List.forall_mem_append.mpr ⟨in_wsL_law_r15, List.forall_mem_append.mpr ⟨in_wsL_law_r16, List.forall_mem_append.mpr ⟨in_wsL_law_r17, List.forall_mem_append.mpr ⟨in_wsL_law_r18, List.forall_mem_append.mpr ⟨in_wsL_law_r19, List.forall_mem_append.mpr ⟨in_wsL_law_r20, List.forall_mem_append.mpr ⟨in_wsL_law_r21, List.forall_mem_append.mpr ⟨in_wsL_law_r22, List.forall_mem_append.mpr ⟨in_wsL_law_r23, List.forall_mem_append.mpr ⟨in_wsL_law_r24, List.forall_mem_append.mpr ⟨in_wsL_law_r25, List.forall_mem_append.mpr ⟨in_wsL_law_r26, List.forall_mem_append.mpr ⟨in_wsL_law_r27, List.forall_mem_append.mpr ⟨in_wsL_law_r28, List.forall_mem_append.mpr ⟨in_wsL_law_r29, List.forall_mem_append.mpr ⟨in_wsL_law_r30, List.forall_mem_append.mpr ⟨in_wsL_law_r31, List.forall_mem_append.mpr ⟨in_wsL_law_r32, List.forall_mem_append.mpr ⟨in_wsL_law_r33, List.forall_mem_append.mpr ⟨in_wsL_law_r34, List.forall_mem_append.mpr ⟨in_wsL_law_r35, List.forall_mem_append.mpr ⟨in_wsL_law_r36, List.forall_mem_append.mpr ⟨in_wsL_law_r37, List.forall_mem_append.mpr ⟨in_wsL_law_r38, List.forall_mem_append.mpr ⟨in_wsL_law_r39, List.forall_mem_append.mpr ⟨in_wsL_law_r40, List.forall_mem_append.mpr ⟨in_wsL_law_r41, List.forall_mem_append.mpr ⟨in_wsL_law_r42, List.forall_mem_append.mpr ⟨in_wsL_law_r43, List.forall_mem_append.mpr ⟨in_wsL_law_r44, List.forall_mem_append.mpr ⟨in_wsL_law_r45, List.forall_mem_append.mpr ⟨in_wsL_law_r46, List.forall_mem_append.mpr ⟨in_wsL_law_r47, List.forall_mem_append.mpr ⟨in_wsL_law_r48, List.forall_mem_append.mpr ⟨in_wsL_law_r49, List.forall_mem_append.mpr ⟨in_wsL_law_r50, List.forall_mem_append.mpr ⟨in_wsL_law_r51, in_wsL_law_r52⟩⟩⟩⟩⟩⟩⟩⟩⟩⟩⟩⟩⟩⟩⟩⟩⟩⟩⟩⟩⟩⟩⟩⟩⟩⟩⟩⟩⟩⟩⟩⟩⟩⟩⟩⟩⟩⟩⟩⟩⟩⟩⟩⟩⟩⟩⟩⟩⟩⟩⟩, in_wsX110⟩, in_wsX120⟩, in_wsX80⟩, in_wsX50⟩, in_wsX20⟩, in_wsX00⟩, in_wsJx4a65c0⟩, in_wsX30⟩, in_wsX10⟩, in_wsX40⟩, in_wsX60⟩, in_wsX70⟩, in_wsX90⟩, in_wsX100⟩, in_wsJ60⟩, (fun _ h => absurd h List.not_mem_nil)⟩
/-! THE CLAIM OUT OF ONE WALK OF THE LAW'S BODY. Your part is whole_start (and what it stands on); all else here is the same for every law, but numbers. -/
def R_law : String := "MistHeapsLaw"
def lw_P (b : Addr) (xs : List Int32) (args : Array Value) (s : State) : Prop := args = #[.ref b] ∧ s.IntsAt b xs ∧ xs.length ≤ 5 ∧ (Jvm.Cond.and given_1 narrow_1).before args s = true
def lw_Q (_ : Array Value) (s : State) (o : Outcome) (t : State) : Prop := o = .returned (some (.int 1)) ∧ Framed s o t [] 600000 7302250
def lw_Z (below : List Frame) (a : Array Value) (s : State) : State → Prop := fun t => ∃ o, t.status = .running ∧ Ended t below o ∧ lw_Q a s o t
/-- the law's own end, with 1 on the stack, nothing written that was there before, its room as the claim has it -/
theorem lw_ret {p : Program} {l : Launch} {e : Env} {s : State} {m : MethodId} {below : List Frame} {meth : Method} {c : Code} {b : Nat} (hx : p.tables.exec = Jvm.exec) (hb : c.code = code) (hr : meth.sig.returnType = ret) (hlocks : meth.locks = false) {pc : Nat} {H : Heap} {ls : Array Slot} (hdg : decode code pc = .ok (.ireturn, 1)) : W p l e room_1 s m #[Value.ref b] below meth c H [] 600000 7302250 (lw_Z below #[Value.ref b] s) (F0 m pc ls [.int 1]) := by
  intro T hT X
  obtain ⟨fs, hret, hrun, hended, hW, hframe⟩ := X.leave (v := some (.int 1)) (hlocks := hlocks) (fun h => by rw [hr] at h; cases h)
  have hmeth' : T.vm.method? m = some meth := X.method'
  refine ⟨T.setFrames fs, ?_, .returned (some (.int 1)), hrun, hended, rfl, ⟨_, rfl⟩, hW, hframe⟩
  jvm_step X.here [X.here.top, hx, hb, hdg, hmeth', hr, ret, narrow_b1]
  (try refine ⟨rfl, ?_⟩); (try refine ⟨rfl, ?_⟩)
  first | (intro acts; rw [hret _ acts rfl rfl rfl]) | rw [hret _ _ rfl rfl rfl]
  exact Steps.refl _
/-- what holds at the law's entry: the machine, the code, the tables' words (any of lw_tbl by 'hts w (by decide +kernel)'), the script of L ints xs at the cell b, what the Statement gives of the start (any of its parts by flat_of_before) -/
def lw_At (p : Program) (s : State) (m : MethodId) (meth : Method) (c : Code) (b L : Nat) (xs : Nat → Int32) : Prop :=
  p.tables.exec = Jvm.exec ∧ c.code = code ∧ meth.sig.returnType = ret ∧ c.maxLocals = 4 ∧ s.vm.findClass R_law = some m.cls ∧ (∀ w ∈ lw_tbl, w.before #[Value.ref b] s = true) ∧ va_X b L xs s s.heap ∧ b < s.heap.size ∧ meth.locks = false ∧ (Jvm.Cond.and given_1 narrow_1).before #[Value.ref b] s = true