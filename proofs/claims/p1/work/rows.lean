section
-- ===== PART A: goes FIRST, ahead of the names: the tables' words, and 'selects' of the private methods out of them =====
/-- a private method of a class that the tables say can be made, by its rows of tables_1 -/
def lw_okq (q : MethodName × Nat) : Prop := (q.1.cls ≠ "java/lang/invoke/MethodHandle" ∧ q.1.cls ≠ "java/lang/invoke/VarHandle") ∧ Cond.instantiable q.1.cls q.2 ∈ tables_1 ∧ Cond.privateMethod q.1 ∈ tables_1 ∧ Cond.instanceMethod q.1 ∈ tables_1
theorem lw_p0 : lw_okq (⟨"MistHeaps$Hill", "readWord", "()I"⟩, 11) := ⟨⟨by decide +kernel, by decide +kernel⟩, List.mem_of_getElem? (i := 46) (by decide +kernel), List.mem_of_getElem? (i := 301) (by decide +kernel), List.mem_of_getElem? (i := 302) (by decide +kernel)⟩
theorem lw_p1 : lw_okq (⟨"MistHeaps$Hill", "sameSigns", "(Ljava/lang/String;)I"⟩, 11) := ⟨⟨by decide +kernel, by decide +kernel⟩, List.mem_of_getElem? (i := 46) (by decide +kernel), List.mem_of_getElem? (i := 312) (by decide +kernel), List.mem_of_getElem? (i := 313) (by decide +kernel)⟩
theorem lw_p2 : lw_okq (⟨"MistHeaps$Hill", "readNumber", "()Z"⟩, 11) := ⟨⟨by decide +kernel, by decide +kernel⟩, List.mem_of_getElem? (i := 46) (by decide +kernel), List.mem_of_getElem? (i := 367) (by decide +kernel), List.mem_of_getElem? (i := 368) (by decide +kernel)⟩
theorem lw_p3 : lw_okq (⟨"MistHeaps$Hill", "sign", "()I"⟩, 11) := ⟨⟨by decide +kernel, by decide +kernel⟩, List.mem_of_getElem? (i := 46) (by decide +kernel), List.mem_of_getElem? (i := 371) (by decide +kernel), List.mem_of_getElem? (i := 372) (by decide +kernel)⟩
theorem lw_p4 : lw_okq (⟨"MistHeaps$Hill", "readSign", "(C)Z"⟩, 11) := ⟨⟨by decide +kernel, by decide +kernel⟩, List.mem_of_getElem? (i := 46) (by decide +kernel), List.mem_of_getElem? (i := 378) (by decide +kernel), List.mem_of_getElem? (i := 379) (by decide +kernel)⟩
theorem lw_p5 : lw_okq (⟨"MistHeaps$Hill", "readEither", "(I)Z"⟩, 11) := ⟨⟨by decide +kernel, by decide +kernel⟩, List.mem_of_getElem? (i := 46) (by decide +kernel), List.mem_of_getElem? (i := 382) (by decide +kernel), List.mem_of_getElem? (i := 383) (by decide +kernel)⟩
theorem lw_p6 : lw_okq (⟨"MistHeaps$Hill", "readBoth", "(I)Z"⟩, 11) := ⟨⟨by decide +kernel, by decide +kernel⟩, List.mem_of_getElem? (i := 46) (by decide +kernel), List.mem_of_getElem? (i := 386) (by decide +kernel), List.mem_of_getElem? (i := 387) (by decide +kernel)⟩
theorem lw_p7 : lw_okq (⟨"MistHeaps$Hill", "readPlain", "(I)Z"⟩, 11) := ⟨⟨by decide +kernel, by decide +kernel⟩, List.mem_of_getElem? (i := 46) (by decide +kernel), List.mem_of_getElem? (i := 390) (by decide +kernel), List.mem_of_getElem? (i := 391) (by decide +kernel)⟩
theorem lw_p8 : lw_okq (⟨"MistHeaps$Hill", "readTest", "()Z"⟩, 11) := ⟨⟨by decide +kernel, by decide +kernel⟩, List.mem_of_getElem? (i := 46) (by decide +kernel), List.mem_of_getElem? (i := 394) (by decide +kernel), List.mem_of_getElem? (i := 395) (by decide +kernel)⟩
theorem lw_p9 : lw_okq (⟨"MistHeaps$Hill", "code", "(I)V"⟩, 11) := ⟨⟨by decide +kernel, by decide +kernel⟩, List.mem_of_getElem? (i := 46) (by decide +kernel), List.mem_of_getElem? (i := 457) (by decide +kernel), List.mem_of_getElem? (i := 458) (by decide +kernel)⟩
theorem lw_p10 : lw_okq (⟨"MistHeaps$Scene", "tellFacts", "(IIII)V"⟩, 14) := ⟨⟨by decide +kernel, by decide +kernel⟩, List.mem_of_getElem? (i := 40) (by decide +kernel), List.mem_of_getElem? (i := 576) (by decide +kernel), List.mem_of_getElem? (i := 577) (by decide +kernel)⟩
theorem lw_p11 : lw_okq (⟨"MistHeaps$Hill", "holds", "(I[I)Z"⟩, 11) := ⟨⟨by decide +kernel, by decide +kernel⟩, List.mem_of_getElem? (i := 46) (by decide +kernel), List.mem_of_getElem? (i := 590) (by decide +kernel), List.mem_of_getElem? (i := 591) (by decide +kernel)⟩
theorem lw_p12 : lw_okq (⟨"MistHeaps$Goings", "tellGoing", "(LMistHeaps$Heap;LMistHeaps$Heap;)V"⟩, 4) := ⟨⟨by decide +kernel, by decide +kernel⟩, List.mem_of_getElem? (i := 155) (by decide +kernel), List.mem_of_getElem? (i := 665) (by decide +kernel), List.mem_of_getElem? (i := 666) (by decide +kernel)⟩
theorem lw_p13 : lw_okq (⟨"MistHeaps$Goings", "onwardFrom", "(I)I"⟩, 4) := ⟨⟨by decide +kernel, by decide +kernel⟩, List.mem_of_getElem? (i := 155) (by decide +kernel), List.mem_of_getElem? (i := 697) (by decide +kernel), List.mem_of_getElem? (i := 698) (by decide +kernel)⟩
theorem lw_p14 : lw_okq (⟨"MistHeaps$Chances", "begin", "(LMistHeaps$Scene;I)V"⟩, 5) := ⟨⟨by decide +kernel, by decide +kernel⟩, List.mem_of_getElem? (i := 213) (by decide +kernel), List.mem_of_getElem? (i := 769) (by decide +kernel), List.mem_of_getElem? (i := 770) (by decide +kernel)⟩
theorem lw_p15 : lw_okq (⟨"MistHeaps$Chances", "spread", "(LMistHeaps$Scene;[JI[J)V"⟩, 5) := ⟨⟨by decide +kernel, by decide +kernel⟩, List.mem_of_getElem? (i := 213) (by decide +kernel), List.mem_of_getElem? (i := 774) (by decide +kernel), List.mem_of_getElem? (i := 775) (by decide +kernel)⟩
def lw_privs_1 : List (MethodName × Nat) := [(⟨"MistHeaps$Hill", "readWord", "()I"⟩, 11), (⟨"MistHeaps$Hill", "sameSigns", "(Ljava/lang/String;)I"⟩, 11), (⟨"MistHeaps$Hill", "readNumber", "()Z"⟩, 11), (⟨"MistHeaps$Hill", "sign", "()I"⟩, 11), (⟨"MistHeaps$Hill", "readSign", "(C)Z"⟩, 11), (⟨"MistHeaps$Hill", "readEither", "(I)Z"⟩, 11), (⟨"MistHeaps$Hill", "readBoth", "(I)Z"⟩, 11), (⟨"MistHeaps$Hill", "readPlain", "(I)Z"⟩, 11), (⟨"MistHeaps$Hill", "readTest", "()Z"⟩, 11), (⟨"MistHeaps$Hill", "code", "(I)V"⟩, 11), (⟨"MistHeaps$Scene", "tellFacts", "(IIII)V"⟩, 14), (⟨"MistHeaps$Hill", "holds", "(I[I)Z"⟩, 11), (⟨"MistHeaps$Goings", "tellGoing", "(LMistHeaps$Heap;LMistHeaps$Heap;)V"⟩, 4), (⟨"MistHeaps$Goings", "onwardFrom", "(I)I"⟩, 4), (⟨"MistHeaps$Chances", "begin", "(LMistHeaps$Scene;I)V"⟩, 5), (⟨"MistHeaps$Chances", "spread", "(LMistHeaps$Scene;[JI[J)V"⟩, 5)]
theorem lw_r1 : ∀ q ∈ lw_privs_1, lw_okq q := List.forall_mem_cons.mpr ⟨lw_p0, List.forall_mem_cons.mpr ⟨lw_p1, List.forall_mem_cons.mpr ⟨lw_p2, List.forall_mem_cons.mpr ⟨lw_p3, List.forall_mem_cons.mpr ⟨lw_p4, List.forall_mem_cons.mpr ⟨lw_p5, List.forall_mem_cons.mpr ⟨lw_p6, List.forall_mem_cons.mpr ⟨lw_p7, List.forall_mem_cons.mpr ⟨lw_p8, List.forall_mem_cons.mpr ⟨lw_p9, List.forall_mem_cons.mpr ⟨lw_p10, List.forall_mem_cons.mpr ⟨lw_p11, List.forall_mem_cons.mpr ⟨lw_p12, List.forall_mem_cons.mpr ⟨lw_p13, List.forall_mem_cons.mpr ⟨lw_p14, List.forall_mem_cons.mpr ⟨lw_p15, fun _ h => absurd h List.not_mem_nil⟩⟩⟩⟩⟩⟩⟩⟩⟩⟩⟩⟩⟩⟩⟩⟩
theorem lw_p16 : lw_okq (⟨"MistHeaps$Chances", "tellHits", "(LMistHeaps$Scene;J)V"⟩, 5) := ⟨⟨by decide +kernel, by decide +kernel⟩, List.mem_of_getElem? (i := 213) (by decide +kernel), List.mem_of_getElem? (i := 807) (by decide +kernel), List.mem_of_getElem? (i := 808) (by decide +kernel)⟩
theorem lw_p17 : lw_okq (⟨"MistHeaps$Chances", "tryLast", "([JI)V"⟩, 5) := ⟨⟨by decide +kernel, by decide +kernel⟩, List.mem_of_getElem? (i := 213) (by decide +kernel), List.mem_of_getElem? (i := 815) (by decide +kernel), List.mem_of_getElem? (i := 816) (by decide +kernel)⟩
theorem lw_p18 : lw_okq (⟨"java/util/ArrayList", "add", "(Ljava/lang/Object;[Ljava/lang/Object;I)V"⟩, 3) := ⟨⟨by decide +kernel, by decide +kernel⟩, List.mem_of_getElem? (i := 241) (by decide +kernel), List.mem_of_getElem? (i := 898) (by decide +kernel), List.mem_of_getElem? (i := 899) (by decide +kernel)⟩
theorem lw_p19 : lw_okq (⟨"java/util/ArrayList", "grow", "()[Ljava/lang/Object;"⟩, 3) := ⟨⟨by decide +kernel, by decide +kernel⟩, List.mem_of_getElem? (i := 241) (by decide +kernel), List.mem_of_getElem? (i := 902) (by decide +kernel), List.mem_of_getElem? (i := 903) (by decide +kernel)⟩
theorem lw_p20 : lw_okq (⟨"java/util/ArrayList", "grow", "(I)[Ljava/lang/Object;"⟩, 3) := ⟨⟨by decide +kernel, by decide +kernel⟩, List.mem_of_getElem? (i := 241) (by decide +kernel), List.mem_of_getElem? (i := 906) (by decide +kernel), List.mem_of_getElem? (i := 907) (by decide +kernel)⟩
theorem lw_p21 : lw_okq (⟨"MistHeapsModel", "clauseHere", "()V"⟩, 23) := ⟨⟨by decide +kernel, by decide +kernel⟩, List.mem_of_getElem? (i := 1074) (by decide +kernel), List.mem_of_getElem? (i := 1161) (by decide +kernel), List.mem_of_getElem? (i := 1162) (by decide +kernel)⟩
theorem lw_p22 : lw_okq (⟨"MistHeapsModel", "here", "()I"⟩, 23) := ⟨⟨by decide +kernel, by decide +kernel⟩, List.mem_of_getElem? (i := 1074) (by decide +kernel), List.mem_of_getElem? (i := 1165) (by decide +kernel), List.mem_of_getElem? (i := 1166) (by decide +kernel)⟩
theorem lw_p23 : lw_okq (⟨"MistHeapsModel", "clauseOfS", "()V"⟩, 23) := ⟨⟨by decide +kernel, by decide +kernel⟩, List.mem_of_getElem? (i := 1074) (by decide +kernel), List.mem_of_getElem? (i := 1169) (by decide +kernel), List.mem_of_getElem? (i := 1170) (by decide +kernel)⟩
theorem lw_p24 : lw_okq (⟨"MistHeapsModel", "must", "(I)V"⟩, 23) := ⟨⟨by decide +kernel, by decide +kernel⟩, List.mem_of_getElem? (i := 1074) (by decide +kernel), List.mem_of_getElem? (i := 1173) (by decide +kernel), List.mem_of_getElem? (i := 1174) (by decide +kernel)⟩
theorem lw_p25 : lw_okq (⟨"MistHeapsModel", "much", "(ILjava/lang/String;)V"⟩, 23) := ⟨⟨by decide +kernel, by decide +kernel⟩, List.mem_of_getElem? (i := 1074) (by decide +kernel), List.mem_of_getElem? (i := 1178) (by decide +kernel), List.mem_of_getElem? (i := 1179) (by decide +kernel)⟩
theorem lw_p26 : lw_okq (⟨"MistHeapsModel", "spells", "(Ljava/lang/String;)V"⟩, 23) := ⟨⟨by decide +kernel, by decide +kernel⟩, List.mem_of_getElem? (i := 1074) (by decide +kernel), List.mem_of_getElem? (i := 1182) (by decide +kernel), List.mem_of_getElem? (i := 1183) (by decide +kernel)⟩
theorem lw_p27 : lw_okq (⟨"MistHeapsModel", "figures", "()I"⟩, 23) := ⟨⟨by decide +kernel, by decide +kernel⟩, List.mem_of_getElem? (i := 1074) (by decide +kernel), List.mem_of_getElem? (i := 1188) (by decide +kernel), List.mem_of_getElem? (i := 1189) (by decide +kernel)⟩
theorem lw_p28 : lw_okq (⟨"MistHeapsModel", "some", "()V"⟩, 23) := ⟨⟨by decide +kernel, by decide +kernel⟩, List.mem_of_getElem? (i := 1074) (by decide +kernel), List.mem_of_getElem? (i := 1192) (by decide +kernel), List.mem_of_getElem? (i := 1193) (by decide +kernel)⟩
theorem lw_p29 : lw_okq (⟨"MistHeapsModel", "every", "()V"⟩, 23) := ⟨⟨by decide +kernel, by decide +kernel⟩, List.mem_of_getElem? (i := 1074) (by decide +kernel), List.mem_of_getElem? (i := 1196) (by decide +kernel), List.mem_of_getElem? (i := 1197) (by decide +kernel)⟩
theorem lw_p30 : lw_okq (⟨"MistHeapsModel", "factor", "()V"⟩, 23) := ⟨⟨by decide +kernel, by decide +kernel⟩, List.mem_of_getElem? (i := 1074) (by decide +kernel), List.mem_of_getElem? (i := 1200) (by decide +kernel), List.mem_of_getElem? (i := 1201) (by decide +kernel)⟩
theorem lw_p31 : lw_okq (⟨"MistHeapsModel", "emits", "(I)V"⟩, 23) := ⟨⟨by decide +kernel, by decide +kernel⟩, List.mem_of_getElem? (i := 1074) (by decide +kernel), List.mem_of_getElem? (i := 1204) (by decide +kernel), List.mem_of_getElem? (i := 1205) (by decide +kernel)⟩
def lw_privs_2 : List (MethodName × Nat) := [(⟨"MistHeaps$Chances", "tellHits", "(LMistHeaps$Scene;J)V"⟩, 5), (⟨"MistHeaps$Chances", "tryLast", "([JI)V"⟩, 5), (⟨"java/util/ArrayList", "add", "(Ljava/lang/Object;[Ljava/lang/Object;I)V"⟩, 3), (⟨"java/util/ArrayList", "grow", "()[Ljava/lang/Object;"⟩, 3), (⟨"java/util/ArrayList", "grow", "(I)[Ljava/lang/Object;"⟩, 3), (⟨"MistHeapsModel", "clauseHere", "()V"⟩, 23), (⟨"MistHeapsModel", "here", "()I"⟩, 23), (⟨"MistHeapsModel", "clauseOfS", "()V"⟩, 23), (⟨"MistHeapsModel", "must", "(I)V"⟩, 23), (⟨"MistHeapsModel", "much", "(ILjava/lang/String;)V"⟩, 23), (⟨"MistHeapsModel", "spells", "(Ljava/lang/String;)V"⟩, 23), (⟨"MistHeapsModel", "figures", "()I"⟩, 23), (⟨"MistHeapsModel", "some", "()V"⟩, 23), (⟨"MistHeapsModel", "every", "()V"⟩, 23), (⟨"MistHeapsModel", "factor", "()V"⟩, 23), (⟨"MistHeapsModel", "emits", "(I)V"⟩, 23)]
theorem lw_r2 : ∀ q ∈ lw_privs_2, lw_okq q := List.forall_mem_cons.mpr ⟨lw_p16, List.forall_mem_cons.mpr ⟨lw_p17, List.forall_mem_cons.mpr ⟨lw_p18, List.forall_mem_cons.mpr ⟨lw_p19, List.forall_mem_cons.mpr ⟨lw_p20, List.forall_mem_cons.mpr ⟨lw_p21, List.forall_mem_cons.mpr ⟨lw_p22, List.forall_mem_cons.mpr ⟨lw_p23, List.forall_mem_cons.mpr ⟨lw_p24, List.forall_mem_cons.mpr ⟨lw_p25, List.forall_mem_cons.mpr ⟨lw_p26, List.forall_mem_cons.mpr ⟨lw_p27, List.forall_mem_cons.mpr ⟨lw_p28, List.forall_mem_cons.mpr ⟨lw_p29, List.forall_mem_cons.mpr ⟨lw_p30, List.forall_mem_cons.mpr ⟨lw_p31, fun _ h => absurd h List.not_mem_nil⟩⟩⟩⟩⟩⟩⟩⟩⟩⟩⟩⟩⟩⟩⟩⟩
theorem lw_p32 : lw_okq (⟨"MistHeapsModel", "among", "(Ljava/lang/String;)I"⟩, 23) := ⟨⟨by decide +kernel, by decide +kernel⟩, List.mem_of_getElem? (i := 1074) (by decide +kernel), List.mem_of_getElem? (i := 1209) (by decide +kernel), List.mem_of_getElem? (i := 1210) (by decide +kernel)⟩
theorem lw_p33 : lw_okq (⟨"MistHeapsModel", "edgesMany", "()I"⟩, 23) := ⟨⟨by decide +kernel, by decide +kernel⟩, List.mem_of_getElem? (i := 1074) (by decide +kernel), List.mem_of_getElem? (i := 1221) (by decide +kernel), List.mem_of_getElem? (i := 1222) (by decide +kernel)⟩
theorem lw_p34 : lw_okq (⟨"MistHeapsModel", "sight", "()I"⟩, 23) := ⟨⟨by decide +kernel, by decide +kernel⟩, List.mem_of_getElem? (i := 1074) (by decide +kernel), List.mem_of_getElem? (i := 1233) (by decide +kernel), List.mem_of_getElem? (i := 1234) (by decide +kernel)⟩
theorem lw_p35 : lw_okq (⟨"MistHeapsModel", "heapOn", "(I)I"⟩, 23) := ⟨⟨by decide +kernel, by decide +kernel⟩, List.mem_of_getElem? (i := 1074) (by decide +kernel), List.mem_of_getElem? (i := 1244) (by decide +kernel), List.mem_of_getElem? (i := 1245) (by decide +kernel)⟩
theorem lw_p36 : lw_okq (⟨"MistHeapsModel", "puts", "(III)I"⟩, 23) := ⟨⟨by decide +kernel, by decide +kernel⟩, List.mem_of_getElem? (i := 1074) (by decide +kernel), List.mem_of_getElem? (i := 1248) (by decide +kernel), List.mem_of_getElem? (i := 1249) (by decide +kernel)⟩
theorem lw_p37 : lw_okq (⟨"MistHeapsModel", "isHeap", "(I)Z"⟩, 23) := ⟨⟨by decide +kernel, by decide +kernel⟩, List.mem_of_getElem? (i := 1074) (by decide +kernel), List.mem_of_getElem? (i := 1256) (by decide +kernel), List.mem_of_getElem? (i := 1257) (by decide +kernel)⟩
theorem lw_p38 : lw_okq (⟨"MistHeapsModel", "reachOf", "(I)I"⟩, 23) := ⟨⟨by decide +kernel, by decide +kernel⟩, List.mem_of_getElem? (i := 1074) (by decide +kernel), List.mem_of_getElem? (i := 1260) (by decide +kernel), List.mem_of_getElem? (i := 1261) (by decide +kernel)⟩
theorem lw_p39 : lw_okq (⟨"MistHeapsModel", "looks", "(III)V"⟩, 23) := ⟨⟨by decide +kernel, by decide +kernel⟩, List.mem_of_getElem? (i := 1074) (by decide +kernel), List.mem_of_getElem? (i := 1264) (by decide +kernel), List.mem_of_getElem? (i := 1265) (by decide +kernel)⟩
theorem lw_p40 : lw_okq (⟨"MistHeapsModel", "seesOf", "(I)I"⟩, 23) := ⟨⟨by decide +kernel, by decide +kernel⟩, List.mem_of_getElem? (i := 1074) (by decide +kernel), List.mem_of_getElem? (i := 1272) (by decide +kernel), List.mem_of_getElem? (i := 1273) (by decide +kernel)⟩
theorem lw_p41 : lw_okq (⟨"MistHeapsModel", "isSeen", "(II)Z"⟩, 23) := ⟨⟨by decide +kernel, by decide +kernel⟩, List.mem_of_getElem? (i := 1074) (by decide +kernel), List.mem_of_getElem? (i := 1276) (by decide +kernel), List.mem_of_getElem? (i := 1277) (by decide +kernel)⟩
theorem lw_p42 : lw_okq (⟨"MistHeapsModel", "stepsOf", "(II)I"⟩, 23) := ⟨⟨by decide +kernel, by decide +kernel⟩, List.mem_of_getElem? (i := 1074) (by decide +kernel), List.mem_of_getElem? (i := 1295) (by decide +kernel), List.mem_of_getElem? (i := 1296) (by decide +kernel)⟩
theorem lw_p43 : lw_okq (⟨"MistHeapsModel", "looksForGoings", "()V"⟩, 23) := ⟨⟨by decide +kernel, by decide +kernel⟩, List.mem_of_getElem? (i := 1074) (by decide +kernel), List.mem_of_getElem? (i := 1299) (by decide +kernel), List.mem_of_getElem? (i := 1300) (by decide +kernel)⟩
theorem lw_p44 : lw_okq (⟨"MistHeapsModel", "doesGo", "(II)Z"⟩, 23) := ⟨⟨by decide +kernel, by decide +kernel⟩, List.mem_of_getElem? (i := 1074) (by decide +kernel), List.mem_of_getElem? (i := 1303) (by decide +kernel), List.mem_of_getElem? (i := 1304) (by decide +kernel)⟩
theorem lw_p45 : lw_okq (⟨"MistHeapsModel", "stepsBut", "(III)I"⟩, 23) := ⟨⟨by decide +kernel, by decide +kernel⟩, List.mem_of_getElem? (i := 1074) (by decide +kernel), List.mem_of_getElem? (i := 1316) (by decide +kernel), List.mem_of_getElem? (i := 1317) (by decide +kernel)⟩
theorem lw_p46 : lw_okq (⟨"MistHeapsModel", "spread", "(I)I"⟩, 23) := ⟨⟨by decide +kernel, by decide +kernel⟩, List.mem_of_getElem? (i := 1074) (by decide +kernel), List.mem_of_getElem? (i := 1320) (by decide +kernel), List.mem_of_getElem? (i := 1321) (by decide +kernel)⟩
theorem lw_p47 : lw_okq (⟨"MistHeapsModel", "driftOf", "(I)I"⟩, 23) := ⟨⟨by decide +kernel, by decide +kernel⟩, List.mem_of_getElem? (i := 1074) (by decide +kernel), List.mem_of_getElem? (i := 1344) (by decide +kernel), List.mem_of_getElem? (i := 1345) (by decide +kernel)⟩
def lw_privs_3 : List (MethodName × Nat) := [(⟨"MistHeapsModel", "among", "(Ljava/lang/String;)I"⟩, 23), (⟨"MistHeapsModel", "edgesMany", "()I"⟩, 23), (⟨"MistHeapsModel", "sight", "()I"⟩, 23), (⟨"MistHeapsModel", "heapOn", "(I)I"⟩, 23), (⟨"MistHeapsModel", "puts", "(III)I"⟩, 23), (⟨"MistHeapsModel", "isHeap", "(I)Z"⟩, 23), (⟨"MistHeapsModel", "reachOf", "(I)I"⟩, 23), (⟨"MistHeapsModel", "looks", "(III)V"⟩, 23), (⟨"MistHeapsModel", "seesOf", "(I)I"⟩, 23), (⟨"MistHeapsModel", "isSeen", "(II)Z"⟩, 23), (⟨"MistHeapsModel", "stepsOf", "(II)I"⟩, 23), (⟨"MistHeapsModel", "looksForGoings", "()V"⟩, 23), (⟨"MistHeapsModel", "doesGo", "(II)Z"⟩, 23), (⟨"MistHeapsModel", "stepsBut", "(III)I"⟩, 23), (⟨"MistHeapsModel", "spread", "(I)I"⟩, 23), (⟨"MistHeapsModel", "driftOf", "(I)I"⟩, 23)]
theorem lw_r3 : ∀ q ∈ lw_privs_3, lw_okq q := List.forall_mem_cons.mpr ⟨lw_p32, List.forall_mem_cons.mpr ⟨lw_p33, List.forall_mem_cons.mpr ⟨lw_p34, List.forall_mem_cons.mpr ⟨lw_p35, List.forall_mem_cons.mpr ⟨lw_p36, List.forall_mem_cons.mpr ⟨lw_p37, List.forall_mem_cons.mpr ⟨lw_p38, List.forall_mem_cons.mpr ⟨lw_p39, List.forall_mem_cons.mpr ⟨lw_p40, List.forall_mem_cons.mpr ⟨lw_p41, List.forall_mem_cons.mpr ⟨lw_p42, List.forall_mem_cons.mpr ⟨lw_p43, List.forall_mem_cons.mpr ⟨lw_p44, List.forall_mem_cons.mpr ⟨lw_p45, List.forall_mem_cons.mpr ⟨lw_p46, List.forall_mem_cons.mpr ⟨lw_p47, fun _ h => absurd h List.not_mem_nil⟩⟩⟩⟩⟩⟩⟩⟩⟩⟩⟩⟩⟩⟩⟩⟩
theorem lw_p48 : lw_okq (⟨"MistHeapsModel", "looksForDrifts", "()V"⟩, 23) := ⟨⟨by decide +kernel, by decide +kernel⟩, List.mem_of_getElem? (i := 1074) (by decide +kernel), List.mem_of_getElem? (i := 1356) (by decide +kernel), List.mem_of_getElem? (i := 1357) (by decide +kernel)⟩
theorem lw_p49 : lw_okq (⟨"MistHeapsModel", "begins", "(I)V"⟩, 23) := ⟨⟨by decide +kernel, by decide +kernel⟩, List.mem_of_getElem? (i := 1074) (by decide +kernel), List.mem_of_getElem? (i := 1360) (by decide +kernel), List.mem_of_getElem? (i := 1361) (by decide +kernel)⟩
theorem lw_p50 : lw_okq (⟨"MistHeapsModel", "goesOn", "(I)V"⟩, 23) := ⟨⟨by decide +kernel, by decide +kernel⟩, List.mem_of_getElem? (i := 1074) (by decide +kernel), List.mem_of_getElem? (i := 1364) (by decide +kernel), List.mem_of_getElem? (i := 1365) (by decide +kernel)⟩
theorem lw_p51 : lw_okq (⟨"MistHeapsModel", "seen", "(I)J"⟩, 23) := ⟨⟨by decide +kernel, by decide +kernel⟩, List.mem_of_getElem? (i := 1074) (by decide +kernel), List.mem_of_getElem? (i := 1372) (by decide +kernel), List.mem_of_getElem? (i := 1373) (by decide +kernel)⟩
theorem lw_p52 : lw_okq (⟨"MistHeapsModel", "over", "()J"⟩, 23) := ⟨⟨by decide +kernel, by decide +kernel⟩, List.mem_of_getElem? (i := 1074) (by decide +kernel), List.mem_of_getElem? (i := 1376) (by decide +kernel), List.mem_of_getElem? (i := 1377) (by decide +kernel)⟩
theorem lw_p53 : lw_okq (⟨"MistHeapsModel", "bestRow", "(III)I"⟩, 23) := ⟨⟨by decide +kernel, by decide +kernel⟩, List.mem_of_getElem? (i := 1074) (by decide +kernel), List.mem_of_getElem? (i := 1390) (by decide +kernel), List.mem_of_getElem? (i := 1391) (by decide +kernel)⟩
theorem lw_p54 : lw_okq (⟨"MistHeapsModel", "goesBy", "(III)V"⟩, 23) := ⟨⟨by decide +kernel, by decide +kernel⟩, List.mem_of_getElem? (i := 1074) (by decide +kernel), List.mem_of_getElem? (i := 1394) (by decide +kernel), List.mem_of_getElem? (i := 1395) (by decide +kernel)⟩
theorem lw_p55 : lw_okq (⟨"MistHeapsModel", "seesActs", "(I)I"⟩, 23) := ⟨⟨by decide +kernel, by decide +kernel⟩, List.mem_of_getElem? (i := 1074) (by decide +kernel), List.mem_of_getElem? (i := 1429) (by decide +kernel), List.mem_of_getElem? (i := 1430) (by decide +kernel)⟩
theorem lw_p56 : lw_okq (⟨"MistHeapsModel", "ranBody", "(I)V"⟩, 23) := ⟨⟨by decide +kernel, by decide +kernel⟩, List.mem_of_getElem? (i := 1074) (by decide +kernel), List.mem_of_getElem? (i := 1436) (by decide +kernel), List.mem_of_getElem? (i := 1437) (by decide +kernel)⟩
theorem lw_p57 : lw_okq (⟨"MistHeapsModel", "plainSees", "(I)I"⟩, 23) := ⟨⟨by decide +kernel, by decide +kernel⟩, List.mem_of_getElem? (i := 1074) (by decide +kernel), List.mem_of_getElem? (i := 1440) (by decide +kernel), List.mem_of_getElem? (i := 1441) (by decide +kernel)⟩
theorem lw_p58 : lw_okq (⟨"MistHeapsModel", "goesActs", "(I)I"⟩, 23) := ⟨⟨by decide +kernel, by decide +kernel⟩, List.mem_of_getElem? (i := 1074) (by decide +kernel), List.mem_of_getElem? (i := 1444) (by decide +kernel), List.mem_of_getElem? (i := 1445) (by decide +kernel)⟩
theorem lw_p59 : lw_okq (⟨"MistHeapsModel", "plainGoes", "(I)I"⟩, 23) := ⟨⟨by decide +kernel, by decide +kernel⟩, List.mem_of_getElem? (i := 1074) (by decide +kernel), List.mem_of_getElem? (i := 1448) (by decide +kernel), List.mem_of_getElem? (i := 1449) (by decide +kernel)⟩
theorem lw_p60 : lw_okq (⟨"MistHeapsModel", "looksActs", "(I)I"⟩, 23) := ⟨⟨by decide +kernel, by decide +kernel⟩, List.mem_of_getElem? (i := 1074) (by decide +kernel), List.mem_of_getElem? (i := 1452) (by decide +kernel), List.mem_of_getElem? (i := 1453) (by decide +kernel)⟩
theorem lw_p61 : lw_okq (⟨"MistHeapsModel", "plainLooks", "(I)I"⟩, 23) := ⟨⟨by decide +kernel, by decide +kernel⟩, List.mem_of_getElem? (i := 1074) (by decide +kernel), List.mem_of_getElem? (i := 1456) (by decide +kernel), List.mem_of_getElem? (i := 1457) (by decide +kernel)⟩
def lw_privs_4 : List (MethodName × Nat) := [(⟨"MistHeapsModel", "looksForDrifts", "()V"⟩, 23), (⟨"MistHeapsModel", "begins", "(I)V"⟩, 23), (⟨"MistHeapsModel", "goesOn", "(I)V"⟩, 23), (⟨"MistHeapsModel", "seen", "(I)J"⟩, 23), (⟨"MistHeapsModel", "over", "()J"⟩, 23), (⟨"MistHeapsModel", "bestRow", "(III)I"⟩, 23), (⟨"MistHeapsModel", "goesBy", "(III)V"⟩, 23), (⟨"MistHeapsModel", "seesActs", "(I)I"⟩, 23), (⟨"MistHeapsModel", "ranBody", "(I)V"⟩, 23), (⟨"MistHeapsModel", "plainSees", "(I)I"⟩, 23), (⟨"MistHeapsModel", "goesActs", "(I)I"⟩, 23), (⟨"MistHeapsModel", "plainGoes", "(I)I"⟩, 23), (⟨"MistHeapsModel", "looksActs", "(I)I"⟩, 23), (⟨"MistHeapsModel", "plainLooks", "(I)I"⟩, 23)]
theorem lw_r4 : ∀ q ∈ lw_privs_4, lw_okq q := List.forall_mem_cons.mpr ⟨lw_p48, List.forall_mem_cons.mpr ⟨lw_p49, List.forall_mem_cons.mpr ⟨lw_p50, List.forall_mem_cons.mpr ⟨lw_p51, List.forall_mem_cons.mpr ⟨lw_p52, List.forall_mem_cons.mpr ⟨lw_p53, List.forall_mem_cons.mpr ⟨lw_p54, List.forall_mem_cons.mpr ⟨lw_p55, List.forall_mem_cons.mpr ⟨lw_p56, List.forall_mem_cons.mpr ⟨lw_p57, List.forall_mem_cons.mpr ⟨lw_p58, List.forall_mem_cons.mpr ⟨lw_p59, List.forall_mem_cons.mpr ⟨lw_p60, List.forall_mem_cons.mpr ⟨lw_p61, fun _ h => absurd h List.not_mem_nil⟩⟩⟩⟩⟩⟩⟩⟩⟩⟩⟩⟩⟩⟩
def lw_privs : List (MethodName × Nat) := lw_privs_1 ++ (lw_privs_2 ++ (lw_privs_3 ++ (lw_privs_4)))
def lw_tbl : List Cond := k2_sels lw_privs ++ tables_1
theorem lw_privs_ok : ∀ q ∈ lw_privs, lw_okq q := by
  show ∀ q ∈ lw_privs_1 ++ (lw_privs_2 ++ (lw_privs_3 ++ (lw_privs_4))), lw_okq q
  exact List.forall_mem_append.mpr ⟨lw_r1, List.forall_mem_append.mpr ⟨lw_r2, List.forall_mem_append.mpr ⟨lw_r3, lw_r4⟩⟩⟩
-- ===== end of PART A; then your names; then what follows =====
end
section
/-! ===== BEGIN words of one list among another's, by their places ===== -/
theorem goodIn_r {big : List Cond} (ws : List Cond) (ps : List Nat) (hp : ws = ps.filterMap (fun i => big[i]?)) (h : ws.all goodWord = true) : GoodIn big ws := by
  intro w hw
  have h1 := List.all_eq_true.mp h w hw
  rw [hp] at hw
  obtain ⟨i, -, hi⟩ := List.mem_filterMap.mp hw
  have hm : w ∈ big := by first | exact List.mem_of_getElem? hi | exact List.getElem?_mem hi
  exact ⟨hm, good_of_word h1⟩
theorem goodIn_app {big a b : List Cond} (ha : GoodIn big a) (hb : GoodIn big b) : GoodIn big (a ++ b) := fun w h => (List.mem_append.mp h).elim (ha w) (hb w)
theorem goodIn_ca {big a b : List Cond} {c : Cond} (ha : GoodIn big (c :: a)) (hb : GoodIn big b) : GoodIn big (c :: (a ++ b)) := fun w h => (List.mem_cons.mp h).elim (fun e => ha w (List.mem_cons.mpr (Or.inl e))) (fun h => (List.mem_append.mp h).elim (fun h => ha w (List.mem_cons.mpr (Or.inr h))) (hb w))
theorem goodIn_sub {big ws : List Cond} (hm : ∀ w ∈ ws, w ∈ big) (h : ws.all goodWord = true) : GoodIn big ws := fun w hw => ⟨hm w hw, good_of_word (List.all_eq_true.mp h w hw)⟩
/-! ===== END ===== -/


/-! ===== BEGIN printed: names, fields, word lists, decode rows ===== -/
def RX0 : String := "MistHeaps$Chances"
def TX0 : u_T := fun k => match k with
  | 0 => ("MistHeaps$Chances", "foundTimes", "J", false)
  | 1 => ("MistHeaps$Chances", "foundRow", "I", false)
  | 2 => ("MistHeaps$Chances", "drifts", "[I", true)
  | 3 => ("MistHeaps$Chances", "times", "[[J", true)
  | _ => ("MistHeaps$Chances", "hits", "[[I", true)
def tyX0 : Nat → FieldType := fun k => match k with
  | 0 => .long
  | 1 => .int
  | 2 => .array .int
  | 3 => .array (.array .long)
  | _ => .array (.array .int)
abbrev wsX00 : List Cond := u_ws RX0 TX0 5
theorem nmX0 : ∀ a, a < 5 → ∀ b, b < 5 → a ≠ b → (TX0 a).2.1 ≠ (TX0 b).2.1 := by decide +kernel
theorem tyX0_ok : ∀ k, k < 5 → parseFieldDescriptor (TX0 k).2.2.1 = some (tyX0 k) := by decide +kernel
abbrev cX0_init : ByteArray := prog_2_method_1_code
def yX0_init : MethodName := ⟨RX0, "<init>", "()V"⟩
abbrev cX0_timesOf : ByteArray := prog_2_method_2_code
def yX0_timesOf : MethodName := ⟨RX0, "timesOf", "(I)J"⟩
abbrev cX0_walked : ByteArray := prog_2_method_3_code
def yX0_walked : MethodName := ⟨RX0, "walked", "(LMistHeaps$Scene;IJ)J"⟩
abbrev cX0_begin : ByteArray := prog_2_method_4_code
def yX0_begin : MethodName := ⟨RX0, "begin", "(LMistHeaps$Scene;I)V"⟩
abbrev cX0_spread : ByteArray := prog_2_method_5_code
def yX0_spread : MethodName := ⟨RX0, "spread", "(LMistHeaps$Scene;[JI[J)V"⟩
abbrev cX0_search : ByteArray := prog_2_method_6_code
def yX0_search : MethodName := ⟨RX0, "search", "(LMistHeaps$Scene;IJI)V"⟩
abbrev cX0_tellHits : ByteArray := prog_2_method_7_code
def yX0_tellHits : MethodName := ⟨RX0, "tellHits", "(LMistHeaps$Scene;J)V"⟩
abbrev cX0_hit : ByteArray := prog_2_method_8_code
def yX0_hit : MethodName := ⟨RX0, "hit", "(JI)I"⟩
abbrev cX0_tryLast : ByteArray := prog_2_method_9_code
def yX0_tryLast : MethodName := ⟨RX0, "tryLast", "([JI)V"⟩
abbrev cX0_foundWay : ByteArray := prog_2_method_10_code
def yX0_foundWay : MethodName := ⟨RX0, "foundWay", "(II)I"⟩
def RX1 : String := "MistHeaps$False"
def TX1 : u_T := fun k => match k with
  | 0 => ("MistHeaps$Heap", "kind", "I", true)
  | 1 => ("MistHeaps$Heap", "number", "I", false)
  | 2 => ("MistHeaps$Heap", "v", "I", true)
  | _ => ("MistHeaps$Heap", "cell", "I", false)
def tyX1 : Nat → FieldType := fun k => match k with
  | 0 => .int
  | 1 => .int
  | 2 => .int
  | _ => .int
abbrev wsX10 : List Cond := u_ws RX1 TX1 4
theorem nmX1 : ∀ a, a < 4 → ∀ b, b < 4 → a ≠ b → (TX1 a).2.1 ≠ (TX1 b).2.1 := by decide +kernel
theorem tyX1_ok : ∀ k, k < 4 → parseFieldDescriptor (TX1 k).2.2.1 = some (tyX1 k) := by decide +kernel
abbrev cX1_init : ByteArray := prog_3_method_1_code
def yX1_init : MethodName := ⟨RX1, "<init>", "(IIII)V"⟩
abbrev cX1_leadsTo : ByteArray := prog_3_method_2_code
def yX1_leadsTo : MethodName := ⟨RX1, "leadsTo", "(I)Z"⟩
abbrev cX1_doLooks : ByteArray := prog_3_method_3_code
def yX1_doLooks : MethodName := ⟨RX1, "doLooks", "(ILjava/util/ArrayList;)I"⟩
def RX2 : String := "MistHeaps$Goings"
def TX2 : u_T := fun k => match k with
  | 0 => ("MistHeaps$Goings", "reach", "[I", true)
  | 1 => ("MistHeaps$Goings", "onward", "[I", true)
  | 2 => ("MistHeaps$Goings", "linked", "I", false)
  | _ => ("MistHeaps$Goings", "spare", "LMistHeaps$Heap;", true)
def tyX2 : Nat → FieldType := fun k => match k with
  | 0 => .array .int
  | 1 => .array .int
  | 2 => .int
  | _ => .object "MistHeaps$Heap"
abbrev wsX20 : List Cond := u_ws RX2 TX2 4
theorem nmX2 : ∀ a, a < 4 → ∀ b, b < 4 → a ≠ b → (TX2 a).2.1 ≠ (TX2 b).2.1 := by decide +kernel
theorem tyX2_ok : ∀ k, k < 4 → parseFieldDescriptor (TX2 k).2.2.1 = some (tyX2 k) := by decide +kernel
abbrev cX2_init : ByteArray := prog_4_method_1_code
def yX2_init : MethodName := ⟨RX2, "<init>", "()V"⟩
abbrev cX2_measure : ByteArray := prog_4_method_2_code
def yX2_measure : MethodName := ⟨RX2, "measure", "(LMistHeaps$Scene;I)V"⟩
abbrev cX2_seenFrom : ByteArray := prog_4_method_3_code
def yX2_seenFrom : MethodName := ⟨RX2, "seenFrom", "(LMistHeaps$Scene;I)I"⟩
abbrev cX2_link : ByteArray := prog_4_method_4_code
def yX2_link : MethodName := ⟨RX2, "link", "(LMistHeaps$Scene;I)V"⟩
abbrev cX2_tellGoing : ByteArray := prog_4_method_5_code
def yX2_tellGoing : MethodName := ⟨RX2, "tellGoing", "(LMistHeaps$Heap;LMistHeaps$Heap;)V"⟩
abbrev cX2_isGoing : ByteArray := prog_4_method_6_code
def yX2_isGoing : MethodName := ⟨RX2, "isGoing", "(II)Z"⟩
abbrev cX2_fewest : ByteArray := prog_4_method_7_code
def yX2_fewest : MethodName := ⟨RX2, "fewest", "(III)I"⟩
abbrev cX2_onwardFrom : ByteArray := prog_4_method_8_code
def yX2_onwardFrom : MethodName := ⟨RX2, "onwardFrom", "(I)I"⟩
abbrev cX2_first : ByteArray := prog_4_method_9_code
def yX2_first : MethodName := ⟨RX2, "first", "(II)I"⟩
abbrev cX2_breaks : ByteArray := prog_4_method_10_code
def yX2_breaks : MethodName := ⟨RX2, "breaks", "(II)I"⟩
abbrev cX2_bestCell : ByteArray := prog_4_method_11_code
def yX2_bestCell : MethodName := ⟨RX2, "bestCell", "(LMistHeaps$Scene;II)I"⟩
abbrev cX2_join : ByteArray := prog_4_method_12_code
def yX2_join : MethodName := ⟨RX2, "join", "(LMistHeaps$Scene;I)V"⟩
def RX3 : String := "MistHeaps$Heap"
def TX3 : u_T := fun k => match k with
  | 0 => ("MistHeaps$Heap", "kind", "I", true)
  | 1 => ("MistHeaps$Heap", "number", "I", false)
  | 2 => ("MistHeaps$Heap", "v", "I", true)
  | _ => ("MistHeaps$Heap", "cell", "I", false)
def tyX3 : Nat → FieldType := fun k => match k with
  | 0 => .int
  | 1 => .int
  | 2 => .int
  | _ => .int
abbrev wsX30 : List Cond := u_ws RX3 TX3 4
theorem nmX3 : ∀ a, a < 4 → ∀ b, b < 4 → a ≠ b → (TX3 a).2.1 ≠ (TX3 b).2.1 := by decide +kernel
theorem tyX3_ok : ∀ k, k < 4 → parseFieldDescriptor (TX3 k).2.2.1 = some (tyX3 k) := by decide +kernel
abbrev cX3_init : ByteArray := prog_5_method_1_code
def yX3_init : MethodName := ⟨RX3, "<init>", "(IIII)V"⟩
abbrev cX3_isOfKind : ByteArray := prog_5_method_2_code
def yX3_isOfKind : MethodName := ⟨RX3, "isOfKind", "(I)Z"⟩
abbrev cX3_reachBy : ByteArray := prog_5_method_3_code
def yX3_reachBy : MethodName := ⟨RX3, "reachBy", "(II)I"⟩
abbrev cX3_leadsTo : ByteArray := prog_5_method_4_code
def yX3_leadsTo : MethodName := ⟨RX3, "leadsTo", "(I)Z"⟩
abbrev cX3_doSees : ByteArray := prog_5_method_5_code
def yX3_doSees : MethodName := ⟨RX3, "doSees", "(ILjava/util/ArrayList;)I"⟩
abbrev cX3_doGoes : ByteArray := prog_5_method_6_code
def yX3_doGoes : MethodName := ⟨RX3, "doGoes", "(ILjava/util/ArrayList;)I"⟩
abbrev cX3_doLooks : ByteArray := prog_5_method_7_code
def yX3_doLooks : MethodName := ⟨RX3, "doLooks", "(ILjava/util/ArrayList;)I"⟩
abbrev cX3_begin : ByteArray := prog_5_method_8_code
def yX3_begin : MethodName := ⟨RX3, "begin", "(ILjava/util/ArrayList;)V"⟩
def RX4 : String := "MistHeaps$High"
def TX4 : u_T := fun k => match k with
  | 0 => ("MistHeaps$Heap", "kind", "I", true)
  | 1 => ("MistHeaps$Heap", "number", "I", false)
  | 2 => ("MistHeaps$Heap", "v", "I", true)
  | _ => ("MistHeaps$Heap", "cell", "I", false)
def tyX4 : Nat → FieldType := fun k => match k with
  | 0 => .int
  | 1 => .int
  | 2 => .int
  | _ => .int
abbrev wsX40 : List Cond := u_ws RX4 TX4 4
theorem nmX4 : ∀ a, a < 4 → ∀ b, b < 4 → a ≠ b → (TX4 a).2.1 ≠ (TX4 b).2.1 := by decide +kernel
theorem tyX4_ok : ∀ k, k < 4 → parseFieldDescriptor (TX4 k).2.2.1 = some (tyX4 k) := by decide +kernel
abbrev cX4_init : ByteArray := prog_6_method_1_code
def yX4_init : MethodName := ⟨RX4, "<init>", "(IIII)V"⟩
abbrev cX4_reachBy : ByteArray := prog_6_method_2_code
def yX4_reachBy : MethodName := ⟨RX4, "reachBy", "(II)I"⟩
abbrev cX4_doSees : ByteArray := prog_6_method_3_code
def yX4_doSees : MethodName := ⟨RX4, "doSees", "(ILjava/util/ArrayList;)I"⟩
def RX5 : String := "MistHeaps$Hill"
def TX5 : u_T := fun k => match k with
  | 0 => ("MistHeaps$Hill", "sight", "I", false)
  | 1 => ("MistHeaps$Hill", "clauses", "I", false)
  | 2 => ("MistHeaps$Hill", "words", "[I", true)
  | 3 => ("MistHeaps$Hill", "amounts", "[I", true)
  | 4 => ("MistHeaps$Hill", "ends", "[I", true)
  | 5 => ("MistHeaps$Hill", "codes", "[I", true)
  | 6 => ("MistHeaps$Hill", "coded", "I", false)
  | 7 => ("MistHeaps$Hill", "tape", "[I", false)
  | 8 => ("MistHeaps$Hill", "size", "I", false)
  | 9 => ("MistHeaps$Hill", "at", "I", false)
  | _ => ("MistHeaps$Hill", "number", "I", false)
def tyX5 : Nat → FieldType := fun k => match k with
  | 0 => .int
  | 1 => .int
  | 2 => .array .int
  | 3 => .array .int
  | 4 => .array .int
  | 5 => .array .int
  | 6 => .int
  | 7 => .array .int
  | 8 => .int
  | 9 => .int
  | _ => .int
abbrev wsX50 : List Cond := u_ws RX5 TX5 11
theorem nmX5 : ∀ a, a < 11 → ∀ b, b < 11 → a ≠ b → (TX5 a).2.1 ≠ (TX5 b).2.1 := by decide +kernel
theorem tyX5_ok : ∀ k, k < 11 → parseFieldDescriptor (TX5 k).2.2.1 = some (tyX5 k) := by decide +kernel
abbrev cX5_init : ByteArray := prog_7_method_1_code
def yX5_init : MethodName := ⟨RX5, "<init>", "()V"⟩
abbrev cX5_read : ByteArray := prog_7_method_2_code
def yX5_read : MethodName := ⟨RX5, "read", "([II)I"⟩
abbrev cX5_readWord : ByteArray := prog_7_method_3_code
def yX5_readWord : MethodName := ⟨RX5, "readWord", "()I"⟩
abbrev cX5_textOf : ByteArray := prog_7_method_4_code
def yX5_textOf : MethodName := ⟨RX5, "textOf", "(I)Ljava/lang/String;"⟩
abbrev cX5_sameSigns : ByteArray := prog_7_method_5_code
def yX5_sameSigns : MethodName := ⟨RX5, "sameSigns", "(Ljava/lang/String;)I"⟩
abbrev cX5_readNumber : ByteArray := prog_7_method_6_code
def yX5_readNumber : MethodName := ⟨RX5, "readNumber", "()Z"⟩
abbrev cX5_isDigit : ByteArray := prog_7_method_7_code
def yX5_isDigit : MethodName := ⟨RX5, "isDigit", "(I)Z"⟩
abbrev cX5_sign : ByteArray := prog_7_method_8_code
def yX5_sign : MethodName := ⟨RX5, "sign", "()I"⟩
abbrev cX5_readSign : ByteArray := prog_7_method_9_code
def yX5_readSign : MethodName := ⟨RX5, "readSign", "(C)Z"⟩
abbrev cX5_readEither : ByteArray := prog_7_method_10_code
def yX5_readEither : MethodName := ⟨RX5, "readEither", "(I)Z"⟩
abbrev cX5_readBoth : ByteArray := prog_7_method_11_code
def yX5_readBoth : MethodName := ⟨RX5, "readBoth", "(I)Z"⟩
abbrev cX5_readPlain : ByteArray := prog_7_method_12_code
def yX5_readPlain : MethodName := ⟨RX5, "readPlain", "(I)Z"⟩
abbrev cX5_readTest : ByteArray := prog_7_method_13_code
def yX5_readTest : MethodName := ⟨RX5, "readTest", "()Z"⟩
abbrev cX5_code : ByteArray := prog_7_method_14_code
def yX5_code : MethodName := ⟨RX5, "code", "(I)V"⟩
abbrev cX5_total : ByteArray := prog_7_method_15_code
def yX5_total : MethodName := ⟨RX5, "total", "(I[I)I"⟩
abbrev cX5_holds : ByteArray := prog_7_method_16_code
def yX5_holds : MethodName := ⟨RX5, "holds", "(I[I)Z"⟩
abbrev cX5_isSo : ByteArray := prog_7_method_17_code
def yX5_isSo : MethodName := ⟨RX5, "isSo", "(I[I)Z"⟩
def RX6 : String := "MistHeaps$Low"
def TX6 : u_T := fun k => match k with
  | 0 => ("MistHeaps$Heap", "kind", "I", true)
  | 1 => ("MistHeaps$Heap", "number", "I", false)
  | 2 => ("MistHeaps$Heap", "v", "I", true)
  | _ => ("MistHeaps$Heap", "cell", "I", false)
def tyX6 : Nat → FieldType := fun k => match k with
  | 0 => .int
  | 1 => .int
  | 2 => .int
  | _ => .int
abbrev wsX60 : List Cond := u_ws RX6 TX6 4
theorem nmX6 : ∀ a, a < 4 → ∀ b, b < 4 → a ≠ b → (TX6 a).2.1 ≠ (TX6 b).2.1 := by decide +kernel
theorem tyX6_ok : ∀ k, k < 4 → parseFieldDescriptor (TX6 k).2.2.1 = some (tyX6 k) := by decide +kernel
abbrev cX6_init : ByteArray := prog_8_method_1_code
def yX6_init : MethodName := ⟨RX6, "<init>", "(IIII)V"⟩
abbrev cX6_reachBy : ByteArray := prog_8_method_2_code
def yX6_reachBy : MethodName := ⟨RX6, "reachBy", "(II)I"⟩
abbrev cX6_doGoes : ByteArray := prog_8_method_3_code
def yX6_doGoes : MethodName := ⟨RX6, "doGoes", "(ILjava/util/ArrayList;)I"⟩
def RX7 : String := "MistHeaps$Old"
def TX7 : u_T := fun k => match k with
  | 0 => ("MistHeaps$Heap", "kind", "I", true)
  | 1 => ("MistHeaps$Heap", "number", "I", false)
  | 2 => ("MistHeaps$Heap", "v", "I", true)
  | _ => ("MistHeaps$Heap", "cell", "I", false)
def tyX7 : Nat → FieldType := fun k => match k with
  | 0 => .int
  | 1 => .int
  | 2 => .int
  | _ => .int
abbrev wsX70 : List Cond := u_ws RX7 TX7 4
theorem nmX7 : ∀ a, a < 4 → ∀ b, b < 4 → a ≠ b → (TX7 a).2.1 ≠ (TX7 b).2.1 := by decide +kernel
theorem tyX7_ok : ∀ k, k < 4 → parseFieldDescriptor (TX7 k).2.2.1 = some (tyX7 k) := by decide +kernel
abbrev cX7_init : ByteArray := prog_9_method_1_code
def yX7_init : MethodName := ⟨RX7, "<init>", "(IIII)V"⟩
abbrev cX7_reachBy : ByteArray := prog_9_method_2_code
def yX7_reachBy : MethodName := ⟨RX7, "reachBy", "(II)I"⟩
abbrev cX7_doGoes : ByteArray := prog_9_method_3_code
def yX7_doGoes : MethodName := ⟨RX7, "doGoes", "(ILjava/util/ArrayList;)I"⟩
def RX8 : String := "MistHeaps$Scene"
def TX8 : u_T := fun k => match k with
  | 0 => ("MistHeaps$Scene", "tape", "[I", true)
  | 1 => ("MistHeaps$Scene", "tapeSize", "I", false)
  | 2 => ("MistHeaps$Scene", "hill", "LMistHeaps$Hill;", false)
  | 3 => ("MistHeaps$Scene", "hills", "I", false)
  | 4 => ("MistHeaps$Scene", "edges", "J", false)
  | 5 => ("MistHeaps$Scene", "mist", "I", false)
  | 6 => ("MistHeaps$Scene", "snow", "I", false)
  | 7 => ("MistHeaps$Scene", "heaps", "[LMistHeaps$Heap;", true)
  | 8 => ("MistHeaps$Scene", "heapCount", "I", false)
  | 9 => ("MistHeaps$Scene", "walk", "[I", true)
  | 10 => ("MistHeaps$Scene", "walkSize", "I", false)
  | 11 => ("MistHeaps$Scene", "book", "[I", true)
  | 12 => ("MistHeaps$Scene", "bookSize", "I", false)
  | _ => ("MistHeaps$Scene", "facts", "[I", true)
def tyX8 : Nat → FieldType := fun k => match k with
  | 0 => .array .int
  | 1 => .int
  | 2 => .object "MistHeaps$Hill"
  | 3 => .int
  | 4 => .long
  | 5 => .int
  | 6 => .int
  | 7 => .array (.object "MistHeaps$Heap")
  | 8 => .int
  | 9 => .array .int
  | 10 => .int
  | 11 => .array .int
  | 12 => .int
  | _ => .array .int
abbrev wsX80 : List Cond := u_ws RX8 TX8 14
theorem nmX8 : ∀ a, a < 14 → ∀ b, b < 14 → a ≠ b → (TX8 a).2.1 ≠ (TX8 b).2.1 := by decide +kernel
theorem tyX8_ok : ∀ k, k < 14 → parseFieldDescriptor (TX8 k).2.2.1 = some (tyX8 k) := by decide +kernel
abbrev cX8_init : ByteArray := prog_10_method_1_code
def yX8_init : MethodName := ⟨RX8, "<init>", "()V"⟩
abbrev cX8_copyFrom : ByteArray := prog_10_method_2_code
def yX8_copyFrom : MethodName := ⟨RX8, "copyFrom", "(LMistHeaps$Scene;)V"⟩
abbrev cX8_heapAt : ByteArray := prog_10_method_3_code
def yX8_heapAt : MethodName := ⟨RX8, "heapAt", "(I)LMistHeaps$Heap;"⟩
abbrev cX8_areHeaps : ByteArray := prog_10_method_4_code
def yX8_areHeaps : MethodName := ⟨RX8, "areHeaps", "(II)Z"⟩
abbrev cX8_isTaken : ByteArray := prog_10_method_5_code
def yX8_isTaken : MethodName := ⟨RX8, "isTaken", "(I)Z"⟩
abbrev cX8_reachOf : ByteArray := prog_10_method_6_code
def yX8_reachOf : MethodName := ⟨RX8, "reachOf", "(LMistHeaps$Heap;I)I"⟩
abbrev cX8_driftOn : ByteArray := prog_10_method_7_code
def yX8_driftOn : MethodName := ⟨RX8, "driftOn", "(I)I"⟩
abbrev cX8_tellFacts : ByteArray := prog_10_method_8_code
def yX8_tellFacts : MethodName := ⟨RX8, "tellFacts", "(IIII)V"⟩
abbrev cX8_cellsSeeing : ByteArray := prog_10_method_9_code
def yX8_cellsSeeing : MethodName := ⟨RX8, "cellsSeeing", "(I)J"⟩
def RX9 : String := "MistHeaps$Snowed"
def TX9 : u_T := fun k => match k with
  | 0 => ("MistHeaps$Heap", "kind", "I", true)
  | 1 => ("MistHeaps$Heap", "number", "I", false)
  | 2 => ("MistHeaps$Heap", "v", "I", true)
  | _ => ("MistHeaps$Heap", "cell", "I", false)
def tyX9 : Nat → FieldType := fun k => match k with
  | 0 => .int
  | 1 => .int
  | 2 => .int
  | _ => .int
abbrev wsX90 : List Cond := u_ws RX9 TX9 4
theorem nmX9 : ∀ a, a < 4 → ∀ b, b < 4 → a ≠ b → (TX9 a).2.1 ≠ (TX9 b).2.1 := by decide +kernel
theorem tyX9_ok : ∀ k, k < 4 → parseFieldDescriptor (TX9 k).2.2.1 = some (tyX9 k) := by decide +kernel
abbrev cX9_init : ByteArray := prog_11_method_1_code
def yX9_init : MethodName := ⟨RX9, "<init>", "(IIII)V"⟩
abbrev cX9_reachBy : ByteArray := prog_11_method_2_code
def yX9_reachBy : MethodName := ⟨RX9, "reachBy", "(II)I"⟩
abbrev cX9_doSees : ByteArray := prog_11_method_3_code
def yX9_doSees : MethodName := ⟨RX9, "doSees", "(ILjava/util/ArrayList;)I"⟩
def RX10 : String := "MistHeaps$Turning"
def TX10 : u_T := fun k => match k with
  | 0 => ("MistHeaps$Heap", "kind", "I", true)
  | 1 => ("MistHeaps$Heap", "number", "I", false)
  | 2 => ("MistHeaps$Heap", "v", "I", true)
  | _ => ("MistHeaps$Heap", "cell", "I", false)
def tyX10 : Nat → FieldType := fun k => match k with
  | 0 => .int
  | 1 => .int
  | 2 => .int
  | _ => .int
abbrev wsX100 : List Cond := u_ws RX10 TX10 4
theorem nmX10 : ∀ a, a < 4 → ∀ b, b < 4 → a ≠ b → (TX10 a).2.1 ≠ (TX10 b).2.1 := by decide +kernel
theorem tyX10_ok : ∀ k, k < 4 → parseFieldDescriptor (TX10 k).2.2.1 = some (tyX10 k) := by decide +kernel
abbrev cX10_init : ByteArray := prog_12_method_1_code
def yX10_init : MethodName := ⟨RX10, "<init>", "(IIII)V"⟩
abbrev cX10_leadsTo : ByteArray := prog_12_method_2_code
def yX10_leadsTo : MethodName := ⟨RX10, "leadsTo", "(I)Z"⟩
abbrev cX10_isOnSide : ByteArray := prog_12_method_3_code
def yX10_isOnSide : MethodName := ⟨RX10, "isOnSide", "(II)Z"⟩
abbrev cX10_doLooks : ByteArray := prog_12_method_4_code
def yX10_doLooks : MethodName := ⟨RX10, "doLooks", "(ILjava/util/ArrayList;)I"⟩
def RX11 : String := "MistHeaps"
def TX11 : u_T := fun k => match k with
  | 0 => ("MistHeaps", "scene", "LMistHeaps$Scene;", true)
  | 1 => ("MistHeaps", "kept", "LMistHeaps$Scene;", true)
  | 2 => ("MistHeaps", "isKept", "Z", false)
  | 3 => ("MistHeaps", "blank", "LMistHeaps$Hill;", false)
  | 4 => ("MistHeaps", "goings", "LMistHeaps$Goings;", true)
  | 5 => ("MistHeaps", "chances", "LMistHeaps$Chances;", true)
  | _ => ("MistHeaps", "bodies", "Ljava/util/ArrayList;", true)
def tyX11 : Nat → FieldType := fun k => match k with
  | 0 => .object "MistHeaps$Scene"
  | 1 => .object "MistHeaps$Scene"
  | 2 => .boolean
  | 3 => .object "MistHeaps$Hill"
  | 4 => .object "MistHeaps$Goings"
  | 5 => .object "MistHeaps$Chances"
  | _ => .object "java/util/ArrayList"
abbrev wsX110 : List Cond := u_ws RX11 TX11 7
theorem nmX11 : ∀ a, a < 7 → ∀ b, b < 7 → a ≠ b → (TX11 a).2.1 ≠ (TX11 b).2.1 := by decide +kernel
theorem tyX11_ok : ∀ k, k < 7 → parseFieldDescriptor (TX11 k).2.2.1 = some (tyX11 k) := by decide +kernel
abbrev cX11_init : ByteArray := prog_1_method_1_code
def yX11_init : MethodName := ⟨RX11, "<init>", "()V"⟩
abbrev cX11_feed : ByteArray := prog_1_method_2_code
def yX11_feed : MethodName := ⟨RX11, "feed", "(I)I"⟩
abbrev cX11_hill : ByteArray := prog_1_method_3_code
def yX11_hill : MethodName := ⟨RX11, "hill", "()I"⟩
abbrev cX11_edges : ByteArray := prog_1_method_4_code
def yX11_edges : MethodName := ⟨RX11, "edges", "(J)I"⟩
abbrev cX11_set : ByteArray := prog_1_method_5_code
def yX11_set : MethodName := ⟨RX11, "set", "(II)I"⟩
abbrev cX11_told : ByteArray := prog_1_method_6_code
def yX11_told : MethodName := ⟨RX11, "told", "(I)I"⟩
abbrev cX11_heap : ByteArray := prog_1_method_7_code
def yX11_heap : MethodName := ⟨RX11, "heap", "(III)I"⟩
abbrev cX11_of : ByteArray := prog_1_method_8_code
def yX11_of : MethodName := ⟨RX11, "of", "(II)I"⟩
abbrev cX11_sees : ByteArray := prog_1_method_9_code
def yX11_sees : MethodName := ⟨RX11, "sees", "(I)I"⟩
abbrev cX11_where : ByteArray := prog_1_method_10_code
def yX11_where : MethodName := ⟨RX11, "where", "(I)J"⟩
abbrev cX11_steps : ByteArray := prog_1_method_11_code
def yX11_steps : MethodName := ⟨RX11, "steps", "(II)I"⟩
abbrev cX11_via : ByteArray := prog_1_method_12_code
def yX11_via : MethodName := ⟨RX11, "via", "(II)I"⟩
abbrev cX11_cuts : ByteArray := prog_1_method_13_code
def yX11_cuts : MethodName := ⟨RX11, "cuts", "(II)I"⟩
abbrev cX11_bears : ByteArray := prog_1_method_14_code
def yX11_bears : MethodName := ⟨RX11, "bears", "(II)I"⟩
abbrev cX11_build : ByteArray := prog_1_method_15_code
def yX11_build : MethodName := ⟨RX11, "build", "(III)I"⟩
abbrev cX11_drift : ByteArray := prog_1_method_16_code
def yX11_drift : MethodName := ⟨RX11, "drift", "(I)I"⟩
abbrev cX11_walk : ByteArray := prog_1_method_17_code
def yX11_walk : MethodName := ⟨RX11, "walk", "(I)I"⟩
abbrev cX11_odds : ByteArray := prog_1_method_18_code
def yX11_odds : MethodName := ⟨RX11, "odds", "(III)J"⟩
abbrev cX11_best : ByteArray := prog_1_method_19_code
def yX11_best : MethodName := ⟨RX11, "best", "(IIII)I"⟩
abbrev cX11_bestOdds : ByteArray := prog_1_method_20_code
def yX11_bestOdds : MethodName := ⟨RX11, "bestOdds", "(IIII)J"⟩
abbrev cX11_safe : ByteArray := prog_1_method_21_code
def yX11_safe : MethodName := ⟨RX11, "safe", "(III)I"⟩
abbrev cX11_line : ByteArray := prog_1_method_22_code
def yX11_line : MethodName := ⟨RX11, "line", "(II)I"⟩
abbrev cX11_next : ByteArray := prog_1_method_23_code
def yX11_next : MethodName := ⟨RX11, "next", "(III)I"⟩
abbrev cX11_book : ByteArray := prog_1_method_24_code
def yX11_book : MethodName := ⟨RX11, "book", "(I)I"⟩
abbrev cX11_looked : ByteArray := prog_1_method_25_code
def yX11_looked : MethodName := ⟨RX11, "looked", "()I"⟩
abbrev cX11_act : ByteArray := prog_1_method_26_code
def yX11_act : MethodName := ⟨RX11, "act", "(III)I"⟩
abbrev cX11_trace : ByteArray := prog_1_method_27_code
def yX11_trace : MethodName := ⟨RX11, "trace", "(I)I"⟩
abbrev cX11_as : ByteArray := prog_1_method_28_code
def yX11_as : MethodName := ⟨RX11, "as", "(II)I"⟩
abbrev cX11_image : ByteArray := prog_1_method_29_code
def yX11_image : MethodName := ⟨RX11, "image", "()I"⟩
abbrev cX11_undo : ByteArray := prog_1_method_30_code
def yX11_undo : MethodName := ⟨RX11, "undo", "()I"⟩
abbrev cX11_count : ByteArray := prog_1_method_31_code
def yX11_count : MethodName := ⟨RX11, "count", "(I)I"⟩
abbrev cX11_isCell : ByteArray := prog_1_method_32_code
def yX11_isCell : MethodName := ⟨RX11, "isCell", "(I)Z"⟩
abbrev cX11_rowOf : ByteArray := prog_1_method_33_code
def yX11_rowOf : MethodName := ⟨RX11, "rowOf", "(I)I"⟩
abbrev cX11_columnOf : ByteArray := prog_1_method_34_code
def yX11_columnOf : MethodName := ⟨RX11, "columnOf", "(I)I"⟩
abbrev cX11_isOnHill : ByteArray := prog_1_method_35_code
def yX11_isOnHill : MethodName := ⟨RX11, "isOnHill", "(II)Z"⟩
abbrev cX11_apart : ByteArray := prog_1_method_36_code
def yX11_apart : MethodName := ⟨RX11, "apart", "(II)I"⟩
abbrev cX11_besideOrSame : ByteArray := prog_1_method_37_code
def yX11_besideOrSame : MethodName := ⟨RX11, "besideOrSame", "(II)I"⟩
abbrev cX11_isIn : ByteArray := prog_1_method_38_code
def yX11_isIn : MethodName := ⟨RX11, "isIn", "(JI)Z"⟩
abbrev cX11_partOf : ByteArray := prog_1_method_39_code
def yX11_partOf : MethodName := ⟨RX11, "partOf", "(JJI)J"⟩
abbrev cX11_commonDivisor : ByteArray := prog_1_method_40_code
def yX11_commonDivisor : MethodName := ⟨RX11, "commonDivisor", "(JJ)J"⟩
abbrev cX11_heapOfKind : ByteArray := prog_1_method_41_code
def yX11_heapOfKind : MethodName := ⟨RX11, "heapOfKind", "(IIII)LMistHeaps$Heap;"⟩
def RX12 : String := "MistHeapsModel"
def TX12 : u_T := fun k => match k with
  | 0 => ("MistHeapsModel", "thrown", "I", false)
  | 1 => ("MistHeapsModel", "s", "[I", true)
  | 2 => ("MistHeapsModel", "image", "[I", true)
  | 3 => ("MistHeapsModel", "hasImage", "Z", false)
  | 4 => ("MistHeapsModel", "act", "I", false)
  | 5 => ("MistHeapsModel", "spot", "I", false)
  | 6 => ("MistHeapsModel", "end", "I", false)
  | 7 => ("MistHeapsModel", "isWrong", "Z", false)
  | 8 => ("MistHeapsModel", "open", "I", false)
  | 9 => ("MistHeapsModel", "by", "[I", true)
  | 10 => ("MistHeapsModel", "truths", "[Z", true)
  | 11 => ("MistHeapsModel", "seeing", "I", false)
  | 12 => ("MistHeapsModel", "drifting", "I", false)
  | 13 => ("MistHeapsModel", "goes", "[I", true)
  | 14 => ("MistHeapsModel", "often", "[J", true)
  | 15 => ("MistHeapsModel", "then", "[J", true)
  | 16 => ("MistHeapsModel", "drifts", "[I", true)
  | 17 => ("MistHeapsModel", "bestOften", "J", false)
  | 18 => ("MistHeapsModel", "bodies", "[I", true)
  | 19 => ("MistHeapsModel", "ran", "I", false)
  | 20 => ("MistHeapsModel", "kind", "I", false)
  | 21 => ("MistHeapsModel", "number", "I", false)
  | _ => ("MistHeapsModel", "tellsV", "I", false)
def tyX12 : Nat → FieldType := fun k => match k with
  | 0 => .int
  | 1 => .array .int
  | 2 => .array .int
  | 3 => .boolean
  | 4 => .int
  | 5 => .int
  | 6 => .int
  | 7 => .boolean
  | 8 => .int
  | 9 => .array .int
  | 10 => .array .boolean
  | 11 => .int
  | 12 => .int
  | 13 => .array .int
  | 14 => .array .long
  | 15 => .array .long
  | 16 => .array .int
  | 17 => .long
  | 18 => .array .int
  | 19 => .int
  | 20 => .int
  | 21 => .int
  | _ => .int
abbrev wsX120 : List Cond := u_ws RX12 TX12 23
theorem nmX12 : ∀ a, a < 23 → ∀ b, b < 23 → a ≠ b → (TX12 a).2.1 ≠ (TX12 b).2.1 := by decide +kernel
theorem tyX12_ok : ∀ k, k < 23 → parseFieldDescriptor (TX12 k).2.2.1 = some (tyX12 k) := by decide +kernel
abbrev cX12_init : ByteArray := prog_14_method_1_code
def yX12_init : MethodName := ⟨RX12, "<init>", "()V"⟩
abbrev cX12_in : ByteArray := prog_14_method_3_code
def yX12_in : MethodName := ⟨RX12, "in", "(III)Z"⟩
abbrev cX12_size : ByteArray := prog_14_method_4_code
def yX12_size : MethodName := ⟨RX12, "size", "(I)I"⟩
abbrev cX12_isCell : ByteArray := prog_14_method_5_code
def yX12_isCell : MethodName := ⟨RX12, "isCell", "(I)Z"⟩
abbrev cX12_isHeap : ByteArray := prog_14_method_6_code
def yX12_isHeap : MethodName := ⟨RX12, "isHeap", "(I)Z"⟩
abbrev cX12_apart : ByteArray := prog_14_method_7_code
def yX12_apart : MethodName := ⟨RX12, "apart", "(II)I"⟩
abbrev cX12_rowsOf : ByteArray := prog_14_method_8_code
def yX12_rowsOf : MethodName := ⟨RX12, "rowsOf", "(I)I"⟩
abbrev cX12_columnsOf : ByteArray := prog_14_method_9_code
def yX12_columnsOf : MethodName := ⟨RX12, "columnsOf", "(I)I"⟩
abbrev cX12_nextTo : ByteArray := prog_14_method_10_code
def yX12_nextTo : MethodName := ⟨RX12, "nextTo", "(II)I"⟩
abbrev cX12_feed : ByteArray := prog_14_method_11_code
def yX12_feed : MethodName := ⟨RX12, "feed", "(I)I"⟩
abbrev cX12_here : ByteArray := prog_14_method_12_code
def yX12_here : MethodName := ⟨RX12, "here", "()I"⟩
abbrev cX12_must : ByteArray := prog_14_method_13_code
def yX12_must : MethodName := ⟨RX12, "must", "(I)V"⟩
abbrev cX12_spells : ByteArray := prog_14_method_14_code
def yX12_spells : MethodName := ⟨RX12, "spells", "(Ljava/lang/String;)V"⟩
abbrev cX12_figures : ByteArray := prog_14_method_15_code
def yX12_figures : MethodName := ⟨RX12, "figures", "()I"⟩
abbrev cX12_among : ByteArray := prog_14_method_16_code
def yX12_among : MethodName := ⟨RX12, "among", "(Ljava/lang/String;)I"⟩
abbrev cX12_emits : ByteArray := prog_14_method_17_code
def yX12_emits : MethodName := ⟨RX12, "emits", "(I)V"⟩
abbrev cX12_factor : ByteArray := prog_14_method_18_code
def yX12_factor : MethodName := ⟨RX12, "factor", "()V"⟩
abbrev cX12_every : ByteArray := prog_14_method_19_code
def yX12_every : MethodName := ⟨RX12, "every", "()V"⟩
abbrev cX12_some : ByteArray := prog_14_method_20_code
def yX12_some : MethodName := ⟨RX12, "some", "()V"⟩
abbrev cX12_much : ByteArray := prog_14_method_21_code
def yX12_much : MethodName := ⟨RX12, "much", "(ILjava/lang/String;)V"⟩
abbrev cX12_clauseOfS : ByteArray := prog_14_method_22_code
def yX12_clauseOfS : MethodName := ⟨RX12, "clauseOfS", "()V"⟩
abbrev cX12_clauseHere : ByteArray := prog_14_method_23_code
def yX12_clauseHere : MethodName := ⟨RX12, "clauseHere", "()V"⟩
abbrev cX12_hill : ByteArray := prog_14_method_24_code
def yX12_hill : MethodName := ⟨RX12, "hill", "()I"⟩
abbrev cX12_sight : ByteArray := prog_14_method_25_code
def yX12_sight : MethodName := ⟨RX12, "sight", "()I"⟩
abbrev cX12_edges : ByteArray := prog_14_method_26_code
def yX12_edges : MethodName := ⟨RX12, "edges", "(J)I"⟩
abbrev cX12_edgesMany : ByteArray := prog_14_method_27_code
def yX12_edgesMany : MethodName := ⟨RX12, "edgesMany", "()I"⟩
abbrev cX12_set : ByteArray := prog_14_method_28_code
def yX12_set : MethodName := ⟨RX12, "set", "(II)I"⟩
abbrev cX12_told : ByteArray := prog_14_method_29_code
def yX12_told : MethodName := ⟨RX12, "told", "(I)I"⟩
abbrev cX12_looks : ByteArray := prog_14_method_30_code
def yX12_looks : MethodName := ⟨RX12, "looks", "(III)V"⟩
abbrev cX12_heap : ByteArray := prog_14_method_31_code
def yX12_heap : MethodName := ⟨RX12, "heap", "(III)I"⟩
abbrev cX12_puts : ByteArray := prog_14_method_32_code
def yX12_puts : MethodName := ⟨RX12, "puts", "(III)I"⟩
abbrev cX12_heapOn : ByteArray := prog_14_method_33_code
def yX12_heapOn : MethodName := ⟨RX12, "heapOn", "(I)I"⟩
abbrev cX12_reachOf : ByteArray := prog_14_method_34_code
def yX12_reachOf : MethodName := ⟨RX12, "reachOf", "(I)I"⟩
abbrev cX12_of : ByteArray := prog_14_method_35_code
def yX12_of : MethodName := ⟨RX12, "of", "(II)I"⟩
abbrev cX12_isSeen : ByteArray := prog_14_method_36_code
def yX12_isSeen : MethodName := ⟨RX12, "isSeen", "(II)Z"⟩
abbrev cX12_seesOf : ByteArray := prog_14_method_37_code
def yX12_seesOf : MethodName := ⟨RX12, "seesOf", "(I)I"⟩
abbrev cX12_sees : ByteArray := prog_14_method_38_code
def yX12_sees : MethodName := ⟨RX12, "sees", "(I)I"⟩
abbrev cX12_where : ByteArray := prog_14_method_39_code
def yX12_where : MethodName := ⟨RX12, "where", "(I)J"⟩
abbrev cX12_isThatSide : ByteArray := prog_14_method_40_code
def yX12_isThatSide : MethodName := ⟨RX12, "isThatSide", "(III)Z"⟩
abbrev cX12_doesGo : ByteArray := prog_14_method_41_code
def yX12_doesGo : MethodName := ⟨RX12, "doesGo", "(II)Z"⟩
abbrev cX12_looksForGoings : ByteArray := prog_14_method_42_code
def yX12_looksForGoings : MethodName := ⟨RX12, "looksForGoings", "()V"⟩
abbrev cX12_spread : ByteArray := prog_14_method_43_code
def yX12_spread : MethodName := ⟨RX12, "spread", "(I)I"⟩
abbrev cX12_stepsBut : ByteArray := prog_14_method_44_code
def yX12_stepsBut : MethodName := ⟨RX12, "stepsBut", "(III)I"⟩
abbrev cX12_stepsOf : ByteArray := prog_14_method_45_code
def yX12_stepsOf : MethodName := ⟨RX12, "stepsOf", "(II)I"⟩
abbrev cX12_steps : ByteArray := prog_14_method_46_code
def yX12_steps : MethodName := ⟨RX12, "steps", "(II)I"⟩
abbrev cX12_via : ByteArray := prog_14_method_47_code
def yX12_via : MethodName := ⟨RX12, "via", "(II)I"⟩
abbrev cX12_cuts : ByteArray := prog_14_method_48_code
def yX12_cuts : MethodName := ⟨RX12, "cuts", "(II)I"⟩
abbrev cX12_bears : ByteArray := prog_14_method_49_code
def yX12_bears : MethodName := ⟨RX12, "bears", "(II)I"⟩
abbrev cX12_build : ByteArray := prog_14_method_50_code
def yX12_build : MethodName := ⟨RX12, "build", "(III)I"⟩
abbrev cX12_driftOf : ByteArray := prog_14_method_51_code
def yX12_driftOf : MethodName := ⟨RX12, "driftOf", "(I)I"⟩
abbrev cX12_drift : ByteArray := prog_14_method_52_code
def yX12_drift : MethodName := ⟨RX12, "drift", "(I)I"⟩
abbrev cX12_looksForDrifts : ByteArray := prog_14_method_53_code
def yX12_looksForDrifts : MethodName := ⟨RX12, "looksForDrifts", "()V"⟩
abbrev cX12_begins : ByteArray := prog_14_method_54_code
def yX12_begins : MethodName := ⟨RX12, "begins", "(I)V"⟩
abbrev cX12_goesOn : ByteArray := prog_14_method_55_code
def yX12_goesOn : MethodName := ⟨RX12, "goesOn", "(I)V"⟩
abbrev cX12_over : ByteArray := prog_14_method_56_code
def yX12_over : MethodName := ⟨RX12, "over", "()J"⟩
abbrev cX12_seen : ByteArray := prog_14_method_57_code
def yX12_seen : MethodName := ⟨RX12, "seen", "(I)J"⟩
abbrev cX12_lowest : ByteArray := prog_14_method_58_code
def yX12_lowest : MethodName := ⟨RX12, "lowest", "(JJI)J"⟩
abbrev cX12_twenties : ByteArray := prog_14_method_59_code
def yX12_twenties : MethodName := ⟨RX12, "twenties", "(I)J"⟩
abbrev cX12_walk : ByteArray := prog_14_method_60_code
def yX12_walk : MethodName := ⟨RX12, "walk", "(I)I"⟩
abbrev cX12_odds : ByteArray := prog_14_method_61_code
def yX12_odds : MethodName := ⟨RX12, "odds", "(III)J"⟩
abbrev cX12_goesBy : ByteArray := prog_14_method_62_code
def yX12_goesBy : MethodName := ⟨RX12, "goesBy", "(III)V"⟩
abbrev cX12_bestRow : ByteArray := prog_14_method_63_code
def yX12_bestRow : MethodName := ⟨RX12, "bestRow", "(III)I"⟩
abbrev cX12_wayOf : ByteArray := prog_14_method_64_code
def yX12_wayOf : MethodName := ⟨RX12, "wayOf", "(III)I"⟩
abbrev cX12_best : ByteArray := prog_14_method_65_code
def yX12_best : MethodName := ⟨RX12, "best", "(IIII)I"⟩
abbrev cX12_bestOdds : ByteArray := prog_14_method_66_code
def yX12_bestOdds : MethodName := ⟨RX12, "bestOdds", "(IIII)J"⟩
abbrev cX12_safe : ByteArray := prog_14_method_67_code
def yX12_safe : MethodName := ⟨RX12, "safe", "(III)I"⟩
abbrev cX12_line : ByteArray := prog_14_method_68_code
def yX12_line : MethodName := ⟨RX12, "line", "(II)I"⟩
abbrev cX12_next : ByteArray := prog_14_method_69_code
def yX12_next : MethodName := ⟨RX12, "next", "(III)I"⟩
abbrev cX12_book : ByteArray := prog_14_method_70_code
def yX12_book : MethodName := ⟨RX12, "book", "(I)I"⟩
abbrev cX12_looked : ByteArray := prog_14_method_71_code
def yX12_looked : MethodName := ⟨RX12, "looked", "()I"⟩
abbrev cX12_ranBody : ByteArray := prog_14_method_72_code
def yX12_ranBody : MethodName := ⟨RX12, "ranBody", "(I)V"⟩
abbrev cX12_isUnder : ByteArray := prog_14_method_73_code
def yX12_isUnder : MethodName := ⟨RX12, "isUnder", "(II)Z"⟩
abbrev cX12_plainSees : ByteArray := prog_14_method_74_code
def yX12_plainSees : MethodName := ⟨RX12, "plainSees", "(I)I"⟩
abbrev cX12_seesActs : ByteArray := prog_14_method_75_code
def yX12_seesActs : MethodName := ⟨RX12, "seesActs", "(I)I"⟩
abbrev cX12_plainGoes : ByteArray := prog_14_method_76_code
def yX12_plainGoes : MethodName := ⟨RX12, "plainGoes", "(I)I"⟩
abbrev cX12_goesActs : ByteArray := prog_14_method_77_code
def yX12_goesActs : MethodName := ⟨RX12, "goesActs", "(I)I"⟩
abbrev cX12_plainLooks : ByteArray := prog_14_method_78_code
def yX12_plainLooks : MethodName := ⟨RX12, "plainLooks", "(I)I"⟩
abbrev cX12_looksActs : ByteArray := prog_14_method_79_code
def yX12_looksActs : MethodName := ⟨RX12, "looksActs", "(I)I"⟩
abbrev cX12_act : ByteArray := prog_14_method_80_code
def yX12_act : MethodName := ⟨RX12, "act", "(III)I"⟩
abbrev cX12_trace : ByteArray := prog_14_method_81_code
def yX12_trace : MethodName := ⟨RX12, "trace", "(I)I"⟩
abbrev cX12_as : ByteArray := prog_14_method_82_code
def yX12_as : MethodName := ⟨RX12, "as", "(II)I"⟩
abbrev cX12_image : ByteArray := prog_14_method_83_code
def yX12_image : MethodName := ⟨RX12, "image", "()I"⟩
abbrev cX12_undo : ByteArray := prog_14_method_84_code
def yX12_undo : MethodName := ⟨RX12, "undo", "()I"⟩
abbrev cX12_count : ByteArray := prog_14_method_85_code
def yX12_count : MethodName := ⟨RX12, "count", "(I)I"⟩
def RJx145de : String := "java/io/Serializable"
def TJx145de : u_T := fun k => match k with
  | _ => ("", "", "", false)
def tyJx145de : Nat → FieldType := fun k => match k with
  | _ => .int
abbrev wsJx145de0 : List Cond := u_ws RJx145de TJx145de 0
theorem nmJx145de : ∀ a, a < 0 → ∀ b, b < 0 → a ≠ b → (TJx145de a).2.1 ≠ (TJx145de b).2.1 := by decide +kernel
theorem tyJx145de_ok : ∀ k, k < 0 → parseFieldDescriptor (TJx145de k).2.2.1 = some (tyJx145de k) := by decide +kernel
def RJx9f9b0 : String := "java/lang/CharSequence"
def TJx9f9b0 : u_T := fun k => match k with
  | _ => ("", "", "", false)
def tyJx9f9b0 : Nat → FieldType := fun k => match k with
  | _ => .int
abbrev wsJx9f9b00 : List Cond := u_ws RJx9f9b0 TJx9f9b0 0
theorem nmJx9f9b0 : ∀ a, a < 0 → ∀ b, b < 0 → a ≠ b → (TJx9f9b0 a).2.1 ≠ (TJx9f9b0 b).2.1 := by decide +kernel
theorem tyJx9f9b0_ok : ∀ k, k < 0 → parseFieldDescriptor (TJx9f9b0 k).2.2.1 = some (tyJx9f9b0 k) := by decide +kernel
def RJ11 : String := "java/lang/Character"
def TJ11 : u_T := fun k => match k with
  | _ => ("", "", "", false)
def tyJ11 : Nat → FieldType := fun k => match k with
  | _ => .int
abbrev wsJ110 : List Cond := u_ws RJ11 TJ11 0
theorem nmJ11 : ∀ a, a < 0 → ∀ b, b < 0 → a ≠ b → (TJ11 a).2.1 ≠ (TJ11 b).2.1 := by decide +kernel
theorem tyJ11_ok : ∀ k, k < 0 → parseFieldDescriptor (TJ11 k).2.2.1 = some (tyJ11 k) := by decide +kernel
abbrev cJ11_isValidCodePoint_9a6ad : ByteArray := prog_17_method_11_code
def yJ11_isValidCodePoint_9a6ad : MethodName := ⟨RJ11, "isValidCodePoint", "(I)Z"⟩
abbrev cJ11_highSurrogate_5068e : ByteArray := prog_17_method_28_code
def yJ11_highSurrogate_5068e : MethodName := ⟨RJ11, "highSurrogate", "(I)C"⟩
abbrev cJ11_lowSurrogate_5068e : ByteArray := prog_17_method_29_code
def yJ11_lowSurrogate_5068e : MethodName := ⟨RJ11, "lowSurrogate", "(I)C"⟩
def RJx8e188 : String := "java/lang/Cloneable"
def TJx8e188 : u_T := fun k => match k with
  | _ => ("", "", "", false)
def tyJx8e188 : Nat → FieldType := fun k => match k with
  | _ => .int
abbrev wsJx8e1880 : List Cond := u_ws RJx8e188 TJx8e188 0
theorem nmJx8e188 : ∀ a, a < 0 → ∀ b, b < 0 → a ≠ b → (TJx8e188 a).2.1 ≠ (TJx8e188 b).2.1 := by decide +kernel
theorem tyJx8e188_ok : ∀ k, k < 0 → parseFieldDescriptor (TJx8e188 k).2.2.1 = some (tyJx8e188 k) := by decide +kernel
def RJxb160c : String := "java/lang/Comparable"
def TJxb160c : u_T := fun k => match k with
  | _ => ("", "", "", false)
def tyJxb160c : Nat → FieldType := fun k => match k with
  | _ => .int
abbrev wsJxb160c0 : List Cond := u_ws RJxb160c TJxb160c 0
theorem nmJxb160c : ∀ a, a < 0 → ∀ b, b < 0 → a ≠ b → (TJxb160c a).2.1 ≠ (TJxb160c b).2.1 := by decide +kernel
theorem tyJxb160c_ok : ∀ k, k < 0 → parseFieldDescriptor (TJxb160c k).2.2.1 = some (tyJxb160c k) := by decide +kernel
def RJxabbfe : String := "java/lang/Integer$IntegerCache"
def TJxabbfe : u_T := fun k => match k with
  | _ => ("", "", "", false)
def tyJxabbfe : Nat → FieldType := fun k => match k with
  | _ => .int
abbrev wsJxabbfe0 : List Cond := u_ws RJxabbfe TJxabbfe 0
theorem nmJxabbfe : ∀ a, a < 0 → ∀ b, b < 0 → a ≠ b → (TJxabbfe a).2.1 ≠ (TJxabbfe b).2.1 := by decide +kernel
theorem tyJxabbfe_ok : ∀ k, k < 0 → parseFieldDescriptor (TJxabbfe k).2.2.1 = some (tyJxabbfe k) := by decide +kernel
def RJ6 : String := "java/lang/Integer"
def TJ6 : u_T := fun k => match k with
  | _ => ("java/lang/Integer", "value", "I", true)
def tyJ6 : Nat → FieldType := fun k => match k with
  | _ => .int
abbrev wsJ60 : List Cond := u_ws RJ6 TJ6 1
theorem nmJ6 : ∀ a, a < 1 → ∀ b, b < 1 → a ≠ b → (TJ6 a).2.1 ≠ (TJ6 b).2.1 := by decide +kernel
theorem tyJ6_ok : ∀ k, k < 1 → parseFieldDescriptor (TJ6 k).2.2.1 = some (tyJ6 k) := by decide +kernel
abbrev cJ6_valueOf_2dffe : ByteArray := prog_20_method_22_code
def yJ6_valueOf_2dffe : MethodName := ⟨RJ6, "valueOf", "(I)Ljava/lang/Integer;"⟩
abbrev cJ6_init_d00df : ByteArray := prog_20_method_23_code
def yJ6_init_d00df : MethodName := ⟨RJ6, "<init>", "(I)V"⟩
abbrev cJ6_intValue_8abf5 : ByteArray := prog_20_method_27_code
def yJ6_intValue_8abf5 : MethodName := ⟨RJ6, "intValue", "()I"⟩
def RJxab1ab : String := "java/lang/Iterable"
def TJxab1ab : u_T := fun k => match k with
  | _ => ("", "", "", false)
def tyJxab1ab : Nat → FieldType := fun k => match k with
  | _ => .int
abbrev wsJxab1ab0 : List Cond := u_ws RJxab1ab TJxab1ab 0
theorem nmJxab1ab : ∀ a, a < 0 → ∀ b, b < 0 → a ≠ b → (TJxab1ab a).2.1 ≠ (TJxab1ab b).2.1 := by decide +kernel
theorem tyJxab1ab_ok : ∀ k, k < 0 → parseFieldDescriptor (TJxab1ab k).2.2.1 = some (tyJxab1ab k) := by decide +kernel
def RJ13 : String := "java/lang/Long"
def TJ13 : u_T := fun k => match k with
  | _ => ("", "", "", false)
def tyJ13 : Nat → FieldType := fun k => match k with
  | _ => .int
abbrev wsJ130 : List Cond := u_ws RJ13 TJ13 0
theorem nmJ13 : ∀ a, a < 0 → ∀ b, b < 0 → a ≠ b → (TJ13 a).2.1 ≠ (TJ13 b).2.1 := by decide +kernel
theorem tyJ13_ok : ∀ k, k < 0 → parseFieldDescriptor (TJ13 k).2.2.1 = some (tyJ13 k) := by decide +kernel
abbrev cJ13_bitCount_95d88 : ByteArray := prog_23_method_50_code
def yJ13_bitCount_95d88 : MethodName := ⟨RJ13, "bitCount", "(J)I"⟩
def RJ9 : String := "java/lang/Math"
def TJ9 : u_T := fun k => match k with
  | _ => ("", "", "", false)
def tyJ9 : Nat → FieldType := fun k => match k with
  | _ => .int
abbrev wsJ90 : List Cond := u_ws RJ9 TJ9 0
theorem nmJ9 : ∀ a, a < 0 → ∀ b, b < 0 → a ≠ b → (TJ9 a).2.1 ≠ (TJ9 b).2.1 := by decide +kernel
theorem tyJ9_ok : ∀ k, k < 0 → parseFieldDescriptor (TJ9 k).2.2.1 = some (tyJ9 k) := by decide +kernel
abbrev cJ9_abs_0f7a4 : ByteArray := prog_24_method_59_code
def yJ9_abs_0f7a4 : MethodName := ⟨RJ9, "abs", "(I)I"⟩
abbrev cJ9_max_7cf53 : ByteArray := prog_24_method_65_code
def yJ9_max_7cf53 : MethodName := ⟨RJ9, "max", "(II)I"⟩
abbrev cJ9_min_7cf53 : ByteArray := prog_24_method_69_code
def yJ9_min_7cf53 : MethodName := ⟨RJ9, "min", "(II)I"⟩
def RJxd2413 : String := "java/lang/Number"
def TJxd2413 : u_T := fun k => match k with
  | _ => ("", "", "", false)
def tyJxd2413 : Nat → FieldType := fun k => match k with
  | _ => .int
abbrev wsJxd24130 : List Cond := u_ws RJxd2413 TJxd2413 0
theorem nmJxd2413 : ∀ a, a < 0 → ∀ b, b < 0 → a ≠ b → (TJxd2413 a).2.1 ≠ (TJxd2413 b).2.1 := by decide +kernel
theorem tyJxd2413_ok : ∀ k, k < 0 → parseFieldDescriptor (TJxd2413 k).2.2.1 = some (tyJxd2413 k) := by decide +kernel
abbrev cJxd2413_init_da8c8 : ByteArray := prog_25_method_1_code
def yJxd2413_init_da8c8 : MethodName := ⟨RJxd2413, "<init>", "()V"⟩
def RJ0 : String := "java/lang/String"
def TJ0 : u_T := fun k => match k with
  | _ => ("", "", "", false)
def tyJ0 : Nat → FieldType := fun k => match k with
  | _ => .int
abbrev wsJ00 : List Cond := u_ws RJ0 TJ0 0
theorem nmJ0 : ∀ a, a < 0 → ∀ b, b < 0 → a ≠ b → (TJ0 a).2.1 ≠ (TJ0 b).2.1 := by decide +kernel
theorem tyJ0_ok : ∀ k, k < 0 → parseFieldDescriptor (TJ0 k).2.2.1 = some (tyJ0 k) := by decide +kernel
abbrev cJ0_length_8abf5 : ByteArray := prog_26_method_54_code
def yJ0_length_8abf5 : MethodName := ⟨RJ0, "length", "()I"⟩
abbrev cJ0_charAt_5068e : ByteArray := prog_26_method_56_code
def yJ0_charAt_5068e : MethodName := ⟨RJ0, "charAt", "(I)C"⟩
abbrev cJ0_indexOf_0f7a4 : ByteArray := prog_26_method_79_code
def yJ0_indexOf_0f7a4 : MethodName := ⟨RJ0, "indexOf", "(I)I"⟩
abbrev cJ0_indexOf_7cf53 : ByteArray := prog_26_method_80_code
def yJ0_indexOf_7cf53 : MethodName := ⟨RJ0, "indexOf", "(II)I"⟩
abbrev cJ0_coder_7d493 : ByteArray := prog_26_method_152_code
def yJ0_coder_7d493 : MethodName := ⟨RJ0, "coder", "()B"⟩
abbrev cJ0_isLatin1_aae02 : ByteArray := prog_26_method_154_code
def yJ0_isLatin1_aae02 : MethodName := ⟨RJ0, "isLatin1", "()Z"⟩
abbrev cJ0_checkIndex_df160 : ByteArray := prog_26_method_155_code
def yJ0_checkIndex_df160 : MethodName := ⟨RJ0, "checkIndex", "(II)V"⟩
abbrev cJ0_checkBoundsBeginEnd_23922 : ByteArray := prog_26_method_158_code
def yJ0_checkBoundsBeginEnd_23922 : MethodName := ⟨RJ0, "checkBoundsBeginEnd", "(III)V"⟩
def RJ1 : String := "java/lang/StringLatin1"
def TJ1 : u_T := fun k => match k with
  | _ => ("", "", "", false)
def tyJ1 : Nat → FieldType := fun k => match k with
  | _ => .int
abbrev wsJ10 : List Cond := u_ws RJ1 TJ1 0
theorem nmJ1 : ∀ a, a < 0 → ∀ b, b < 0 → a ≠ b → (TJ1 a).2.1 ≠ (TJ1 b).2.1 := by decide +kernel
theorem tyJ1_ok : ∀ k, k < 0 → parseFieldDescriptor (TJ1 k).2.2.1 = some (tyJ1 k) := by decide +kernel
abbrev cJ1_charAt_3b067 : ByteArray := prog_27_method_2_code
def yJ1_charAt_3b067 : MethodName := ⟨RJ1, "charAt", "([BI)C"⟩
abbrev cJ1_canEncode_9a6ad : ByteArray := prog_27_method_4_code
def yJ1_canEncode_9a6ad : MethodName := ⟨RJ1, "canEncode", "(I)Z"⟩
abbrev cJ1_indexOf_4cfef : ByteArray := prog_27_method_22_code
def yJ1_indexOf_4cfef : MethodName := ⟨RJ1, "indexOf", "([BIII)I"⟩
abbrev cJ1_indexOfChar_4cfef : ByteArray := prog_27_method_23_code
def yJ1_indexOfChar_4cfef : MethodName := ⟨RJ1, "indexOfChar", "([BIII)I"⟩
def RJ2 : String := "java/lang/StringUTF16"
def TJ2 : u_T := fun k => match k with
  | _ => ("", "", "", false)
def tyJ2 : Nat → FieldType := fun k => match k with
  | _ => .int
abbrev wsJ20 : List Cond := u_ws RJ2 TJ2 0
theorem nmJ2 : ∀ a, a < 0 → ∀ b, b < 0 → a ≠ b → (TJ2 a).2.1 ≠ (TJ2 b).2.1 := by decide +kernel
theorem tyJ2_ok : ∀ k, k < 0 → parseFieldDescriptor (TJ2 k).2.2.1 = some (tyJ2 k) := by decide +kernel
abbrev cJ2_getChar_3b067 : ByteArray := prog_28_method_5_code
def yJ2_getChar_3b067 : MethodName := ⟨RJ2, "getChar", "([BI)C"⟩
abbrev cJ2_length_9d52b : ByteArray := prog_28_method_6_code
def yJ2_length_9d52b : MethodName := ⟨RJ2, "length", "([B)I"⟩
abbrev cJ2_indexOf_4cfef : ByteArray := prog_28_method_40_code
def yJ2_indexOf_4cfef : MethodName := ⟨RJ2, "indexOf", "([BIII)I"⟩
abbrev cJ2_indexOfChar_4cfef : ByteArray := prog_28_method_47_code
def yJ2_indexOfChar_4cfef : MethodName := ⟨RJ2, "indexOfChar", "([BIII)I"⟩
abbrev cJ2_indexOfCharUnsafe_4cfef : ByteArray := prog_28_method_48_code
def yJ2_indexOfCharUnsafe_4cfef : MethodName := ⟨RJ2, "indexOfCharUnsafe", "([BIII)I"⟩
abbrev cJ2_indexOfSupplementary_4cfef : ByteArray := prog_28_method_49_code
def yJ2_indexOfSupplementary_4cfef : MethodName := ⟨RJ2, "indexOfSupplementary", "([BIII)I"⟩
abbrev cJ2_charAt_3b067 : ByteArray := prog_28_method_83_code
def yJ2_charAt_3b067 : MethodName := ⟨RJ2, "charAt", "([BI)C"⟩
abbrev cJ2_checkIndex_2214a : ByteArray := prog_28_method_91_code
def yJ2_checkIndex_2214a : MethodName := ⟨RJ2, "checkIndex", "(I[B)V"⟩
abbrev cJ2_checkBoundsBeginEnd_d044e : ByteArray := prog_28_method_93_code
def yJ2_checkBoundsBeginEnd_d044e : MethodName := ⟨RJ2, "checkBoundsBeginEnd", "(II[B)V"⟩
def RJ10 : String := "java/lang/System"
def TJ10 : u_T := fun k => match k with
  | _ => ("", "", "", false)
def tyJ10 : Nat → FieldType := fun k => match k with
  | _ => .int
abbrev wsJ100 : List Cond := u_ws RJ10 TJ10 0
theorem nmJ10 : ∀ a, a < 0 → ∀ b, b < 0 → a ≠ b → (TJ10 a).2.1 ≠ (TJ10 b).2.1 := by decide +kernel
theorem tyJ10_ok : ∀ k, k < 0 → parseFieldDescriptor (TJ10 k).2.2.1 = some (tyJ10 k) := by decide +kernel
def RJxfd54e : String := "java/lang/constant/Constable"
def TJxfd54e : u_T := fun k => match k with
  | _ => ("", "", "", false)
def tyJxfd54e : Nat → FieldType := fun k => match k with
  | _ => .int
abbrev wsJxfd54e0 : List Cond := u_ws RJxfd54e TJxfd54e 0
theorem nmJxfd54e : ∀ a, a < 0 → ∀ b, b < 0 → a ≠ b → (TJxfd54e a).2.1 ≠ (TJxfd54e b).2.1 := by decide +kernel
theorem tyJxfd54e_ok : ∀ k, k < 0 → parseFieldDescriptor (TJxfd54e k).2.2.1 = some (tyJxfd54e k) := by decide +kernel
def RJx3cf43 : String := "java/lang/constant/ConstantDesc"
def TJx3cf43 : u_T := fun k => match k with
  | _ => ("", "", "", false)
def tyJx3cf43 : Nat → FieldType := fun k => match k with
  | _ => .int
abbrev wsJx3cf430 : List Cond := u_ws RJx3cf43 TJx3cf43 0
theorem nmJx3cf43 : ∀ a, a < 0 → ∀ b, b < 0 → a ≠ b → (TJx3cf43 a).2.1 ≠ (TJx3cf43 b).2.1 := by decide +kernel
theorem tyJx3cf43_ok : ∀ k, k < 0 → parseFieldDescriptor (TJx3cf43 k).2.2.1 = some (tyJx3cf43 k) := by decide +kernel
def RJxa1e45 : String := "java/util/AbstractCollection"
def TJxa1e45 : u_T := fun k => match k with
  | _ => ("", "", "", false)
def tyJxa1e45 : Nat → FieldType := fun k => match k with
  | _ => .int
abbrev wsJxa1e450 : List Cond := u_ws RJxa1e45 TJxa1e45 0
theorem nmJxa1e45 : ∀ a, a < 0 → ∀ b, b < 0 → a ≠ b → (TJxa1e45 a).2.1 ≠ (TJxa1e45 b).2.1 := by decide +kernel
theorem tyJxa1e45_ok : ∀ k, k < 0 → parseFieldDescriptor (TJxa1e45 k).2.2.1 = some (tyJxa1e45 k) := by decide +kernel
abbrev cJxa1e45_init_da8c8 : ByteArray := prog_32_method_1_code
def yJxa1e45_init_da8c8 : MethodName := ⟨RJxa1e45, "<init>", "()V"⟩
def RJxc12de : String := "java/util/AbstractList"
def TJxc12de : u_T := fun k => match k with
  | _ => ("", "", "", false)
def tyJxc12de : Nat → FieldType := fun k => match k with
  | _ => .int
abbrev wsJxc12de0 : List Cond := u_ws RJxc12de TJxc12de 0
theorem nmJxc12de : ∀ a, a < 0 → ∀ b, b < 0 → a ≠ b → (TJxc12de a).2.1 ≠ (TJxc12de b).2.1 := by decide +kernel
theorem tyJxc12de_ok : ∀ k, k < 0 → parseFieldDescriptor (TJxc12de k).2.2.1 = some (tyJxc12de k) := by decide +kernel
abbrev cJxc12de_init_da8c8 : ByteArray := prog_33_method_1_code
def yJxc12de_init_da8c8 : MethodName := ⟨RJxc12de, "<init>", "()V"⟩
def RJx4a65c : String := "java/util/ArrayList"
def TJx4a65c : u_T := fun k => match k with
  | 0 => ("java/util/AbstractList", "modCount", "I", false)
  | 1 => ("java/util/ArrayList", "elementData", "[Ljava/lang/Object;", false)
  | _ => ("java/util/ArrayList", "size", "I", false)
def tyJx4a65c : Nat → FieldType := fun k => match k with
  | 0 => .int
  | 1 => .array (.object "java/lang/Object")
  | _ => .int
abbrev wsJx4a65c0 : List Cond := u_ws RJx4a65c TJx4a65c 3
theorem nmJx4a65c : ∀ a, a < 3 → ∀ b, b < 3 → a ≠ b → (TJx4a65c a).2.1 ≠ (TJx4a65c b).2.1 := by decide +kernel
theorem tyJx4a65c_ok : ∀ k, k < 3 → parseFieldDescriptor (TJx4a65c k).2.2.1 = some (tyJx4a65c k) := by decide +kernel
abbrev cJx4a65c_init_da8c8 : ByteArray := prog_34_method_2_code
def yJx4a65c_init_da8c8 : MethodName := ⟨RJx4a65c, "<init>", "()V"⟩
abbrev cJx4a65c_grow_92f84 : ByteArray := prog_34_method_6_code
def yJx4a65c_grow_92f84 : MethodName := ⟨RJx4a65c, "grow", "(I)[Ljava/lang/Object;"⟩
abbrev cJx4a65c_grow_d5877 : ByteArray := prog_34_method_7_code
def yJx4a65c_grow_d5877 : MethodName := ⟨RJx4a65c, "grow", "()[Ljava/lang/Object;"⟩
abbrev cJx4a65c_size_8abf5 : ByteArray := prog_34_method_8_code
def yJx4a65c_size_8abf5 : MethodName := ⟨RJx4a65c, "size", "()I"⟩
abbrev cJx4a65c_elementData_915e3 : ByteArray := prog_34_method_18_code
def yJx4a65c_elementData_915e3 : MethodName := ⟨RJx4a65c, "elementData", "(I)Ljava/lang/Object;"⟩
abbrev cJx4a65c_get_915e3 : ByteArray := prog_34_method_20_code
def yJx4a65c_get_915e3 : MethodName := ⟨RJx4a65c, "get", "(I)Ljava/lang/Object;"⟩
abbrev cJx4a65c_add_72be8 : ByteArray := prog_34_method_24_code
def yJx4a65c_add_72be8 : MethodName := ⟨RJx4a65c, "add", "(Ljava/lang/Object;[Ljava/lang/Object;I)V"⟩
abbrev cJx4a65c_add_9ea2d : ByteArray := prog_34_method_25_code
def yJx4a65c_add_9ea2d : MethodName := ⟨RJx4a65c, "add", "(Ljava/lang/Object;)Z"⟩
abbrev cJx4a65c_clear_da8c8 : ByteArray := prog_34_method_40_code
def yJx4a65c_clear_da8c8 : MethodName := ⟨RJx4a65c, "clear", "()V"⟩
def RJ7 : String := "java/util/Arrays"
def TJ7 : u_T := fun k => match k with
  | _ => ("", "", "", false)
def tyJ7 : Nat → FieldType := fun k => match k with
  | _ => .int
abbrev wsJ70 : List Cond := u_ws RJ7 TJ7 0
theorem nmJ7 : ∀ a, a < 0 → ∀ b, b < 0 → a ≠ b → (TJ7 a).2.1 ≠ (TJ7 b).2.1 := by decide +kernel
theorem tyJ7_ok : ∀ k, k < 0 → parseFieldDescriptor (TJ7 k).2.2.1 = some (tyJ7 k) := by decide +kernel
abbrev cJ7_copyOf_1904c : ByteArray := prog_35_method_119_code
def yJ7_copyOf_1904c : MethodName := ⟨RJ7, "copyOf", "([Ljava/lang/Object;I)[Ljava/lang/Object;"⟩
abbrev cJ7_copyOf_6403c : ByteArray := prog_35_method_120_code
def yJ7_copyOf_6403c : MethodName := ⟨RJ7, "copyOf", "([Ljava/lang/Object;ILjava/lang/Class;)[Ljava/lang/Object;"⟩
def RJx5ef63 : String := "java/util/Collection"
def TJx5ef63 : u_T := fun k => match k with
  | _ => ("", "", "", false)
def tyJx5ef63 : Nat → FieldType := fun k => match k with
  | _ => .int
abbrev wsJx5ef630 : List Cond := u_ws RJx5ef63 TJx5ef63 0
theorem nmJx5ef63 : ∀ a, a < 0 → ∀ b, b < 0 → a ≠ b → (TJx5ef63 a).2.1 ≠ (TJx5ef63 b).2.1 := by decide +kernel
theorem tyJx5ef63_ok : ∀ k, k < 0 → parseFieldDescriptor (TJx5ef63 k).2.2.1 = some (tyJx5ef63 k) := by decide +kernel
def RJxbd725 : String := "java/util/List"
def TJxbd725 : u_T := fun k => match k with
  | _ => ("", "", "", false)
def tyJxbd725 : Nat → FieldType := fun k => match k with
  | _ => .int
abbrev wsJxbd7250 : List Cond := u_ws RJxbd725 TJxbd725 0
theorem nmJxbd725 : ∀ a, a < 0 → ∀ b, b < 0 → a ≠ b → (TJxbd725 a).2.1 ≠ (TJxbd725 b).2.1 := by decide +kernel
theorem tyJxbd725_ok : ∀ k, k < 0 → parseFieldDescriptor (TJxbd725 k).2.2.1 = some (tyJxbd725 k) := by decide +kernel
def RJ15 : String := "java/util/Objects"
def TJ15 : u_T := fun k => match k with
  | _ => ("", "", "", false)
def tyJ15 : Nat → FieldType := fun k => match k with
  | _ => .int
abbrev wsJ150 : List Cond := u_ws RJ15 TJ15 0
theorem nmJ15 : ∀ a, a < 0 → ∀ b, b < 0 → a ≠ b → (TJ15 a).2.1 ≠ (TJ15 b).2.1 := by decide +kernel
theorem tyJ15_ok : ∀ k, k < 0 → parseFieldDescriptor (TJ15 k).2.2.1 = some (tyJ15 k) := by decide +kernel
abbrev cJ15_checkIndex_7cf53 : ByteArray := prog_38_method_17_code
def yJ15_checkIndex_7cf53 : MethodName := ⟨RJ15, "checkIndex", "(II)I"⟩
def RJxf0a74 : String := "java/util/RandomAccess"
def TJxf0a74 : u_T := fun k => match k with
  | _ => ("", "", "", false)
def tyJxf0a74 : Nat → FieldType := fun k => match k with
  | _ => .int
abbrev wsJxf0a740 : List Cond := u_ws RJxf0a74 TJxf0a74 0
theorem nmJxf0a74 : ∀ a, a < 0 → ∀ b, b < 0 → a ≠ b → (TJxf0a74 a).2.1 ≠ (TJxf0a74 b).2.1 := by decide +kernel
theorem tyJxf0a74_ok : ∀ k, k < 0 → parseFieldDescriptor (TJxf0a74 k).2.2.1 = some (tyJxf0a74 k) := by decide +kernel
def RJxa66e6 : String := "java/util/SequencedCollection"
def TJxa66e6 : u_T := fun k => match k with
  | _ => ("", "", "", false)
def tyJxa66e6 : Nat → FieldType := fun k => match k with
  | _ => .int
abbrev wsJxa66e60 : List Cond := u_ws RJxa66e6 TJxa66e6 0
theorem nmJxa66e6 : ∀ a, a < 0 → ∀ b, b < 0 → a ≠ b → (TJxa66e6 a).2.1 ≠ (TJxa66e6 b).2.1 := by decide +kernel
theorem tyJxa66e6_ok : ∀ k, k < 0 → parseFieldDescriptor (TJxa66e6 k).2.2.1 = some (tyJxa66e6 k) := by decide +kernel
def RJ8 : String := "jdk/internal/util/ArraysSupport"
def TJ8 : u_T := fun k => match k with
  | _ => ("", "", "", false)
def tyJ8 : Nat → FieldType := fun k => match k with
  | _ => .int
abbrev wsJ80 : List Cond := u_ws RJ8 TJ8 0
theorem nmJ8 : ∀ a, a < 0 → ∀ b, b < 0 → a ≠ b → (TJ8 a).2.1 ≠ (TJ8 b).2.1 := by decide +kernel
theorem tyJ8_ok : ∀ k, k < 0 → parseFieldDescriptor (TJ8 k).2.2.1 = some (tyJ8 k) := by decide +kernel
abbrev cJ8_newLength_cabcc : ByteArray := prog_41_method_27_code
def yJ8_newLength_cabcc : MethodName := ⟨RJ8, "newLength", "(III)I"⟩
abbrev cJ8_hugeLength_7cf53 : ByteArray := prog_41_method_28_code
def yJ8_hugeLength_7cf53 : MethodName := ⟨RJ8, "hugeLength", "(II)I"⟩
def RJ3 : String := "jdk/internal/util/Preconditions"
def TJ3 : u_T := fun k => match k with
  | _ => ("", "", "", false)
def tyJ3 : Nat → FieldType := fun k => match k with
  | _ => .int
abbrev wsJ30 : List Cond := u_ws RJ3 TJ3 0
theorem nmJ3 : ∀ a, a < 0 → ∀ b, b < 0 → a ≠ b → (TJ3 a).2.1 ≠ (TJ3 b).2.1 := by decide +kernel
theorem tyJ3_ok : ∀ k, k < 0 → parseFieldDescriptor (TJ3 k).2.2.1 = some (tyJ3 k) := by decide +kernel
abbrev cJ3_checkIndex_8e157 : ByteArray := prog_42_method_11_code
def yJ3_checkIndex_8e157 : MethodName := ⟨RJ3, "checkIndex", "(IILjava/util/function/BiFunction;)I"⟩
abbrev cJ3_checkFromToIndex_8c36e : ByteArray := prog_42_method_12_code
def yJ3_checkFromToIndex_8c36e : MethodName := ⟨RJ3, "checkFromToIndex", "(IIILjava/util/function/BiFunction;)I"⟩
def RL : String := "MistHeapsLaw"
abbrev cL_law : ByteArray := code
def yL_law : MethodName := ⟨RL, "law", "([I)Z"⟩
def wsX0_init : List Cond := .code yX0_init cX0_init 1 none :: ([.methodLink RX0 3 objectInit, .instanceMethod objectInit, .code objectInit ⟨#[0xb1]⟩ 1 none, .arrayClass .int, .fieldLink RX0 9 "MistHeaps$Chances" "drifts" "[I", .classLink RX0 15 "[[J", .arrayClass .long, .fieldLink RX0 17 "MistHeaps$Chances" "times" "[[J", .classLink RX0 20 "[[I", .fieldLink RX0 22 "MistHeaps$Chances" "hits" "[[I"] ++ wsX00)
def wsX0_timesOf : List Cond := .code yX0_timesOf cX0_timesOf 4 (some .long) :: ([.constantLong RX0 25 (20)])
def wsX11_rowOf : List Cond := .code yX11_rowOf cX11_rowOf 1 (some .int) :: ([])
def wsX11_columnOf : List Cond := .code yX11_columnOf cX11_columnOf 1 (some .int) :: ([])
def wsX8_tellFacts : List Cond := .code yX8_tellFacts cX8_tellFacts 5 none :: ([.fieldLink RX8 34 "MistHeaps$Scene" "facts" "[I", .fieldLink RX8 54 "MistHeaps$Scene" "mist" "I", .static yX11_rowOf, .initialized RX11, .code yX11_rowOf cX11_rowOf 1 (some .int), .static yX11_columnOf, .code yX11_columnOf cX11_columnOf 1 (some .int)] ++ wsX80)
def wsX5_isSo : List Cond := .code yX5_isSo cX5_isSo 4 (some .boolean) :: ([])
def wsX5_holds : List Cond := .code yX5_holds cX5_holds 7 (some .boolean) :: ([.fieldLink RX5 22 "MistHeaps$Hill" "ends" "[I", .fieldLink RX5 25 "MistHeaps$Hill" "codes" "[I", .methodLink RX5 124 yX5_isSo, .static yX5_isSo, .initialized RX5, .code yX5_isSo cX5_isSo 4 (some .boolean)] ++ wsX50)
def wsX5_total : List Cond := .code yX5_total cX5_total 5 (some .int) :: ([.fieldLink RX5 59 "MistHeaps$Hill" "clauses" "I", .fieldLink RX5 15 "MistHeaps$Hill" "words" "[I", .fieldLink RX5 19 "MistHeaps$Hill" "amounts" "[I", .methodLink RX5 120 yX5_holds, .instanceMethod yX5_holds, .selects RX5 yX5_holds yX5_holds, .initialized RX5, .code yX5_holds cX5_holds 7 (some .boolean), .fieldLink RX5 22 "MistHeaps$Hill" "ends" "[I", .fieldLink RX5 25 "MistHeaps$Hill" "codes" "[I", .methodLink RX5 124 yX5_isSo, .static yX5_isSo, .code yX5_isSo cX5_isSo 4 (some .boolean)] ++ wsX50)
def wsX8_driftOn_r1 : List Cond := [Cond.fieldLink RX8 57 "MistHeaps$Scene" "snow" "I", Cond.fieldLink RX8 18 "MistHeaps$Scene" "hill" "LMistHeaps$Hill;", Cond.fieldLink RX8 34 "MistHeaps$Scene" "facts" "[I", Cond.methodLink RX8 97 Lib.Math.min.name, Cond.static Lib.Math.min.name, Cond.initialized "java/lang/Math", Cond.code Lib.Math.min.name Lib.Math.min.code 2 (some .int), Cond.methodLink RX8 82 yX8_tellFacts, Cond.instanceMethod yX8_tellFacts, Cond.selects RX8 yX8_tellFacts yX8_tellFacts, Cond.initialized RX8, Cond.code yX8_tellFacts cX8_tellFacts 5 none, Cond.fieldLink RX8 54 "MistHeaps$Scene" "mist" "I", Cond.static yX11_rowOf, Cond.initialized RX11, Cond.code yX11_rowOf cX11_rowOf 1 (some .int), Cond.static yX11_columnOf, Cond.code yX11_columnOf cX11_columnOf 1 (some .int), Cond.methodLink RX8 89 yX5_total, Cond.instanceMethod yX5_total, Cond.selects RX5 yX5_total yX5_total, Cond.initialized RX5, Cond.code yX5_total cX5_total 5 (some .int), Cond.fieldLink RX5 59 "MistHeaps$Hill" "clauses" "I"]
def wsX8_driftOn_r2 : List Cond := [Cond.fieldLink RX5 15 "MistHeaps$Hill" "words" "[I", Cond.fieldLink RX5 19 "MistHeaps$Hill" "amounts" "[I", Cond.methodLink RX5 120 yX5_holds, Cond.instanceMethod yX5_holds, Cond.selects RX5 yX5_holds yX5_holds, Cond.code yX5_holds cX5_holds 7 (some .boolean), Cond.fieldLink RX5 22 "MistHeaps$Hill" "ends" "[I", Cond.fieldLink RX5 25 "MistHeaps$Hill" "codes" "[I", Cond.methodLink RX5 124 yX5_isSo, Cond.static yX5_isSo, Cond.code yX5_isSo cX5_isSo 4 (some .boolean)]
def wsX8_driftOn : List Cond := .code yX8_driftOn cX8_driftOn 2 (some .int) :: ((wsX8_driftOn_r1 ++ wsX8_driftOn_r2) ++ wsX80 ++ wsX50)
def wsX0_begin_r1 : List Cond := [Cond.fieldLink RX0 9 "MistHeaps$Chances" "drifts" "[I", Cond.fieldLink RX0 17 "MistHeaps$Chances" "times" "[[J", Cond.methodLink RX0 48 yX8_driftOn, Cond.instanceMethod yX8_driftOn, Cond.selects RX8 yX8_driftOn yX8_driftOn, Cond.initialized RX8, Cond.code yX8_driftOn cX8_driftOn 2 (some .int), Cond.fieldLink RX8 57 "MistHeaps$Scene" "snow" "I", Cond.fieldLink RX8 18 "MistHeaps$Scene" "hill" "LMistHeaps$Hill;", Cond.fieldLink RX8 34 "MistHeaps$Scene" "facts" "[I", Cond.methodLink RX8 97 Lib.Math.min.name, Cond.static Lib.Math.min.name, Cond.initialized "java/lang/Math", Cond.code Lib.Math.min.name Lib.Math.min.code 2 (some .int), Cond.methodLink RX8 82 yX8_tellFacts, Cond.instanceMethod yX8_tellFacts, Cond.selects RX8 yX8_tellFacts yX8_tellFacts, Cond.code yX8_tellFacts cX8_tellFacts 5 none, Cond.fieldLink RX8 54 "MistHeaps$Scene" "mist" "I", Cond.static yX11_rowOf, Cond.initialized RX11, Cond.code yX11_rowOf cX11_rowOf 1 (some .int), Cond.static yX11_columnOf, Cond.code yX11_columnOf cX11_columnOf 1 (some .int)]
def wsX0_begin_r2 : List Cond := [Cond.methodLink RX8 89 yX5_total, Cond.instanceMethod yX5_total, Cond.selects RX5 yX5_total yX5_total, Cond.initialized RX5, Cond.code yX5_total cX5_total 5 (some .int), Cond.fieldLink RX5 59 "MistHeaps$Hill" "clauses" "I", Cond.fieldLink RX5 15 "MistHeaps$Hill" "words" "[I", Cond.fieldLink RX5 19 "MistHeaps$Hill" "amounts" "[I", Cond.methodLink RX5 120 yX5_holds, Cond.instanceMethod yX5_holds, Cond.selects RX5 yX5_holds yX5_holds, Cond.code yX5_holds cX5_holds 7 (some .boolean), Cond.fieldLink RX5 22 "MistHeaps$Hill" "ends" "[I", Cond.fieldLink RX5 25 "MistHeaps$Hill" "codes" "[I", Cond.methodLink RX5 124 yX5_isSo, Cond.static yX5_isSo, Cond.code yX5_isSo cX5_isSo 4 (some .boolean)]
def wsX0_begin : List Cond := .code yX0_begin cX0_begin 4 none :: ((wsX0_begin_r1 ++ wsX0_begin_r2) ++ wsX00 ++ wsX80 ++ wsX50)
def wsX11_isIn : List Cond := .code yX11_isIn cX11_isIn 3 (some .boolean) :: ([])
def wsX11_isOnHill : List Cond := .code yX11_isOnHill cX11_isOnHill 2 (some .boolean) :: ([])
def wsX11_besideOrSame : List Cond := .code yX11_besideOrSame cX11_besideOrSame 4 (some .int) :: ([.fieldLink RX11 266 "MistHeaps" "DOWN" "[I", .fieldLink RX11 269 "MistHeaps" "RIGHT" "[I", .methodLink RX11 212 yX11_rowOf, .static yX11_rowOf, .initialized RX11, .code yX11_rowOf cX11_rowOf 1 (some .int), .methodLink RX11 215 yX11_columnOf, .static yX11_columnOf, .code yX11_columnOf cX11_columnOf 1 (some .int), .methodLink RX11 218 yX11_isOnHill, .static yX11_isOnHill, .code yX11_isOnHill cX11_isOnHill 2 (some .boolean)])
def wsX0_spread : List Cond := .code yX0_spread cX0_spread 9 none :: ([.fieldLink RX0 52 "MistHeaps$Scene" "edges" "J", .constantLong RX0 25 (20), .fieldLink RX0 9 "MistHeaps$Chances" "drifts" "[I", .static yX11_isIn, .initialized RX11, .code yX11_isIn cX11_isIn 3 (some .boolean), .static yX11_besideOrSame, .code yX11_besideOrSame cX11_besideOrSame 4 (some .int), .fieldLink RX11 266 "MistHeaps" "DOWN" "[I", .fieldLink RX11 269 "MistHeaps" "RIGHT" "[I", .methodLink RX11 212 yX11_rowOf, .static yX11_rowOf, .code yX11_rowOf cX11_rowOf 1 (some .int), .methodLink RX11 215 yX11_columnOf, .static yX11_columnOf, .code yX11_columnOf cX11_columnOf 1 (some .int), .methodLink RX11 218 yX11_isOnHill, .static yX11_isOnHill, .code yX11_isOnHill cX11_isOnHill 2 (some .boolean)] ++ wsX80 ++ wsX00)
def wsX0_walked_r1 : List Cond := [Cond.fieldLink RX0 31 "MistHeaps$Scene" "walkSize" "I", Cond.fieldLink RX0 17 "MistHeaps$Chances" "times" "[[J", Cond.fieldLink RX0 37 "MistHeaps$Scene" "walk" "[I", Cond.methodLink RX0 27 yX0_begin, Cond.instanceMethod yX0_begin, Cond.selects RX0 yX0_begin yX0_begin, Cond.initialized RX0, Cond.code yX0_begin cX0_begin 4 none, Cond.fieldLink RX0 9 "MistHeaps$Chances" "drifts" "[I", Cond.methodLink RX0 48 yX8_driftOn, Cond.instanceMethod yX8_driftOn, Cond.selects RX8 yX8_driftOn yX8_driftOn, Cond.initialized RX8, Cond.code yX8_driftOn cX8_driftOn 2 (some .int), Cond.fieldLink RX8 57 "MistHeaps$Scene" "snow" "I", Cond.fieldLink RX8 18 "MistHeaps$Scene" "hill" "LMistHeaps$Hill;", Cond.fieldLink RX8 34 "MistHeaps$Scene" "facts" "[I", Cond.methodLink RX8 97 Lib.Math.min.name, Cond.static Lib.Math.min.name, Cond.initialized "java/lang/Math", Cond.code Lib.Math.min.name Lib.Math.min.code 2 (some .int), Cond.methodLink RX8 82 yX8_tellFacts, Cond.instanceMethod yX8_tellFacts, Cond.selects RX8 yX8_tellFacts yX8_tellFacts]
def wsX0_walked_r2 : List Cond := [Cond.code yX8_tellFacts cX8_tellFacts 5 none, Cond.fieldLink RX8 54 "MistHeaps$Scene" "mist" "I", Cond.static yX11_rowOf, Cond.initialized RX11, Cond.code yX11_rowOf cX11_rowOf 1 (some .int), Cond.static yX11_columnOf, Cond.code yX11_columnOf cX11_columnOf 1 (some .int), Cond.methodLink RX8 89 yX5_total, Cond.instanceMethod yX5_total, Cond.selects RX5 yX5_total yX5_total, Cond.initialized RX5, Cond.code yX5_total cX5_total 5 (some .int), Cond.fieldLink RX5 59 "MistHeaps$Hill" "clauses" "I", Cond.fieldLink RX5 15 "MistHeaps$Hill" "words" "[I", Cond.fieldLink RX5 19 "MistHeaps$Hill" "amounts" "[I", Cond.methodLink RX5 120 yX5_holds, Cond.instanceMethod yX5_holds, Cond.selects RX5 yX5_holds yX5_holds, Cond.code yX5_holds cX5_holds 7 (some .boolean), Cond.fieldLink RX5 22 "MistHeaps$Hill" "ends" "[I", Cond.fieldLink RX5 25 "MistHeaps$Hill" "codes" "[I", Cond.methodLink RX5 124 yX5_isSo, Cond.static yX5_isSo, Cond.code yX5_isSo cX5_isSo 4 (some .boolean)]
def wsX0_walked_r3 : List Cond := [Cond.methodLink RX0 40 yX0_spread, Cond.instanceMethod yX0_spread, Cond.selects RX0 yX0_spread yX0_spread, Cond.code yX0_spread cX0_spread 9 none, Cond.fieldLink RX0 52 "MistHeaps$Scene" "edges" "J", Cond.constantLong RX0 25 (20), Cond.static yX11_isIn, Cond.code yX11_isIn cX11_isIn 3 (some .boolean), Cond.static yX11_besideOrSame, Cond.code yX11_besideOrSame cX11_besideOrSame 4 (some .int), Cond.fieldLink RX11 266 "MistHeaps" "DOWN" "[I", Cond.fieldLink RX11 269 "MistHeaps" "RIGHT" "[I", Cond.methodLink RX11 212 yX11_rowOf, Cond.methodLink RX11 215 yX11_columnOf, Cond.methodLink RX11 218 yX11_isOnHill, Cond.static yX11_isOnHill, Cond.code yX11_isOnHill cX11_isOnHill 2 (some .boolean)]
def wsX0_walked : List Cond := .code yX0_walked cX0_walked 9 (some .long) :: ((wsX0_walked_r1 ++ (wsX0_walked_r2 ++ wsX0_walked_r3)) ++ wsX80 ++ wsX00 ++ wsX50)
def wsX0_hit : List Cond := .code yX0_hit cX0_hit 3 (some .int) :: ([.static yX11_isIn, .initialized RX11, .code yX11_isIn cX11_isIn 3 (some .boolean)])
def wsX0_tellHits : List Cond := .code yX0_tellHits cX0_tellHits 6 none :: ([.fieldLink RX0 22 "MistHeaps$Chances" "hits" "[[I", .fieldLink RX0 52 "MistHeaps$Scene" "edges" "J", .fieldLink RX0 9 "MistHeaps$Chances" "drifts" "[I", .static yX11_isIn, .initialized RX11, .code yX11_isIn cX11_isIn 3 (some .boolean), .methodLink RX0 73 yX0_hit, .static yX0_hit, .initialized RX0, .code yX0_hit cX0_hit 3 (some .int), .static yX11_besideOrSame, .code yX11_besideOrSame cX11_besideOrSame 4 (some .int), .fieldLink RX11 266 "MistHeaps" "DOWN" "[I", .fieldLink RX11 269 "MistHeaps" "RIGHT" "[I", .methodLink RX11 212 yX11_rowOf, .static yX11_rowOf, .code yX11_rowOf cX11_rowOf 1 (some .int), .methodLink RX11 215 yX11_columnOf, .static yX11_columnOf, .code yX11_columnOf cX11_columnOf 1 (some .int), .methodLink RX11 218 yX11_isOnHill, .static yX11_isOnHill, .code yX11_isOnHill cX11_isOnHill 2 (some .boolean)] ++ wsX00 ++ wsX80)
def wsX0_tryLast : List Cond := .code yX0_tryLast cX0_tryLast 7 none :: ([.fieldLink RX0 22 "MistHeaps$Chances" "hits" "[[I", .fieldLink RX0 66 "MistHeaps$Chances" "foundTimes" "J", .fieldLink RX0 77 "MistHeaps$Chances" "foundRow" "I"] ++ wsX00)
def wsX0_search_r1 : List Cond := [Cond.constantLong RX0 64 (-1), Cond.fieldLink RX0 66 "MistHeaps$Chances" "foundTimes" "J", Cond.fieldLink RX0 17 "MistHeaps$Chances" "times" "[[J", Cond.methodLink RX0 27 yX0_begin, Cond.instanceMethod yX0_begin, Cond.selects RX0 yX0_begin yX0_begin, Cond.initialized RX0, Cond.code yX0_begin cX0_begin 4 none, Cond.fieldLink RX0 9 "MistHeaps$Chances" "drifts" "[I", Cond.methodLink RX0 48 yX8_driftOn, Cond.instanceMethod yX8_driftOn, Cond.selects RX8 yX8_driftOn yX8_driftOn, Cond.initialized RX8, Cond.code yX8_driftOn cX8_driftOn 2 (some .int), Cond.fieldLink RX8 57 "MistHeaps$Scene" "snow" "I", Cond.fieldLink RX8 18 "MistHeaps$Scene" "hill" "LMistHeaps$Hill;", Cond.fieldLink RX8 34 "MistHeaps$Scene" "facts" "[I", Cond.methodLink RX8 97 Lib.Math.min.name, Cond.static Lib.Math.min.name, Cond.initialized "java/lang/Math", Cond.code Lib.Math.min.name Lib.Math.min.code 2 (some .int), Cond.methodLink RX8 82 yX8_tellFacts, Cond.instanceMethod yX8_tellFacts, Cond.selects RX8 yX8_tellFacts yX8_tellFacts]
def wsX0_search_r2 : List Cond := [Cond.code yX8_tellFacts cX8_tellFacts 5 none, Cond.fieldLink RX8 54 "MistHeaps$Scene" "mist" "I", Cond.static yX11_rowOf, Cond.initialized RX11, Cond.code yX11_rowOf cX11_rowOf 1 (some .int), Cond.static yX11_columnOf, Cond.code yX11_columnOf cX11_columnOf 1 (some .int), Cond.methodLink RX8 89 yX5_total, Cond.instanceMethod yX5_total, Cond.selects RX5 yX5_total yX5_total, Cond.initialized RX5, Cond.code yX5_total cX5_total 5 (some .int), Cond.fieldLink RX5 59 "MistHeaps$Hill" "clauses" "I", Cond.fieldLink RX5 15 "MistHeaps$Hill" "words" "[I", Cond.fieldLink RX5 19 "MistHeaps$Hill" "amounts" "[I", Cond.methodLink RX5 120 yX5_holds, Cond.instanceMethod yX5_holds, Cond.selects RX5 yX5_holds yX5_holds, Cond.code yX5_holds cX5_holds 7 (some .boolean), Cond.fieldLink RX5 22 "MistHeaps$Hill" "ends" "[I", Cond.fieldLink RX5 25 "MistHeaps$Hill" "codes" "[I", Cond.methodLink RX5 124 yX5_isSo, Cond.static yX5_isSo, Cond.code yX5_isSo cX5_isSo 4 (some .boolean)]
def wsX0_search_r3 : List Cond := [Cond.methodLink RX0 60 yX0_tellHits, Cond.instanceMethod yX0_tellHits, Cond.selects RX0 yX0_tellHits yX0_tellHits, Cond.code yX0_tellHits cX0_tellHits 6 none, Cond.fieldLink RX0 22 "MistHeaps$Chances" "hits" "[[I", Cond.fieldLink RX0 52 "MistHeaps$Scene" "edges" "J", Cond.static yX11_isIn, Cond.code yX11_isIn cX11_isIn 3 (some .boolean), Cond.methodLink RX0 73 yX0_hit, Cond.static yX0_hit, Cond.code yX0_hit cX0_hit 3 (some .int), Cond.static yX11_besideOrSame, Cond.code yX11_besideOrSame cX11_besideOrSame 4 (some .int), Cond.fieldLink RX11 266 "MistHeaps" "DOWN" "[I", Cond.fieldLink RX11 269 "MistHeaps" "RIGHT" "[I", Cond.methodLink RX11 212 yX11_rowOf, Cond.methodLink RX11 215 yX11_columnOf, Cond.methodLink RX11 218 yX11_isOnHill, Cond.static yX11_isOnHill, Cond.code yX11_isOnHill cX11_isOnHill 2 (some .boolean), Cond.methodLink RX0 40 yX0_spread, Cond.instanceMethod yX0_spread, Cond.selects RX0 yX0_spread yX0_spread, Cond.code yX0_spread cX0_spread 9 none]
def wsX0_search_r4 : List Cond := [Cond.constantLong RX0 25 (20), Cond.methodLink RX0 69 yX0_tryLast, Cond.instanceMethod yX0_tryLast, Cond.selects RX0 yX0_tryLast yX0_tryLast, Cond.code yX0_tryLast cX0_tryLast 7 none, Cond.fieldLink RX0 77 "MistHeaps$Chances" "foundRow" "I"]
def wsX0_search : List Cond := .code yX0_search cX0_search 11 none :: ((wsX0_search_r1 ++ (wsX0_search_r2 ++ (wsX0_search_r3 ++ wsX0_search_r4))) ++ wsX00 ++ wsX80 ++ wsX50)
def wsX0_foundWay : List Cond := .code yX0_foundWay cX0_foundWay 3 (some .int) :: ([.fieldLink RX0 77 "MistHeaps$Chances" "foundRow" "I"] ++ wsX00)
def wsX3_init : List Cond := .code yX3_init cX3_init 5 none :: ([.methodLink RX3 3 objectInit, .instanceMethod objectInit, .code objectInit ⟨#[0xb1]⟩ 1 none, .fieldLink RX3 9 "MistHeaps$Heap" "kind" "I", .fieldLink RX3 15 "MistHeaps$Heap" "number" "I", .fieldLink RX3 18 "MistHeaps$Heap" "v" "I", .fieldLink RX3 21 "MistHeaps$Heap" "cell" "I"] ++ wsX10 ++ wsX30 ++ wsX40 ++ wsX60 ++ wsX70 ++ wsX90 ++ wsX100)
def wsX1_init : List Cond := .code yX1_init cX1_init 5 none :: ([.methodLink RX1 1 yX3_init, .instanceMethod yX3_init, .initialized RX3, .code yX3_init cX3_init 5 none, .methodLink RX3 3 objectInit, .instanceMethod objectInit, .code objectInit ⟨#[0xb1]⟩ 1 none, .fieldLink RX3 9 "MistHeaps$Heap" "kind" "I", .fieldLink RX3 15 "MistHeaps$Heap" "number" "I", .fieldLink RX3 18 "MistHeaps$Heap" "v" "I", .fieldLink RX3 21 "MistHeaps$Heap" "cell" "I"] ++ wsX10 ++ wsX30 ++ wsX40 ++ wsX60 ++ wsX70 ++ wsX90 ++ wsX100)
def wsX1_leadsTo : List Cond := .code yX1_leadsTo cX1_leadsTo 2 (some .boolean) :: ([])
def wsJx4a65c_size_8abf5 : List Cond := .code yJx4a65c_size_8abf5 cJx4a65c_size_8abf5 1 (some .int) :: ([.fieldLink RJx4a65c 48 "java/util/ArrayList" "size" "I"] ++ wsJx4a65c0)
def wsJxd2413_init_da8c8 : List Cond := .code yJxd2413_init_da8c8 cJxd2413_init_da8c8 1 none :: ([.methodLink RJxd2413 1 objectInit, .instanceMethod objectInit, .code objectInit ⟨#[0xb1]⟩ 1 none])
def wsJ6_init_d00df : List Cond := .code yJ6_init_d00df cJ6_init_d00df 2 none :: ([.fieldLink RJ6 205 "java/lang/Integer" "value" "I", .methodLink RJ6 202 yJxd2413_init_da8c8, .instanceMethod yJxd2413_init_da8c8, .initialized RJxd2413, .code yJxd2413_init_da8c8 cJxd2413_init_da8c8 1 none, .methodLink RJxd2413 1 objectInit, .instanceMethod objectInit, .code objectInit ⟨#[0xb1]⟩ 1 none] ++ wsJ60)
def wsJ6_valueOf_2dffe : List Cond := .code yJ6_valueOf_2dffe cJ6_valueOf_2dffe 1 (some (.object "java/lang/Integer")) :: ([.fieldLink RJ6 191 "java/lang/Integer$IntegerCache" "high" "I", .fieldLink RJ6 195 "java/lang/Integer$IntegerCache" "cache" "[Ljava/lang/Integer;", .classLink RJ6 1 RJ6, .instantiable RJ6 1, .initialized RJ6, .methodLink RJ6 199 yJ6_init_d00df, .instanceMethod yJ6_init_d00df, .code yJ6_init_d00df cJ6_init_d00df 2 none, .fieldLink RJ6 205 "java/lang/Integer" "value" "I", .methodLink RJ6 202 yJxd2413_init_da8c8, .instanceMethod yJxd2413_init_da8c8, .initialized RJxd2413, .code yJxd2413_init_da8c8 cJxd2413_init_da8c8 1 none, .methodLink RJxd2413 1 objectInit, .instanceMethod objectInit, .code objectInit ⟨#[0xb1]⟩ 1 none] ++ wsJ60)
def wsJ8_hugeLength_7cf53 : List Cond := .code yJ8_hugeLength_7cf53 cJ8_hugeLength_7cf53 3 (some .int) :: ([.constant RJ8 200 (2147483639)])
def wsJ8_newLength_cabcc : List Cond := .code yJ8_newLength_cabcc cJ8_newLength_cabcc 4 (some .int) :: ([.methodLink RJ8 194 Lib.Math.max.name, .static Lib.Math.max.name, .initialized "java/lang/Math", .code Lib.Math.max.name Lib.Math.max.code 2 (some .int), .constant RJ8 200 (2147483639), .methodLink RJ8 201 yJ8_hugeLength_7cf53, .static yJ8_hugeLength_7cf53, .initialized RJ8, .code yJ8_hugeLength_7cf53 cJ8_hugeLength_7cf53 3 (some .int)])
def wsJ7_copyOf_6403c : List Cond := .code yJ7_copyOf_6403c cJ7_copyOf_6403c 4 (some (.array (.object "java/lang/Object"))) :: ([.classLink RJ7 110 "[Ljava/lang/Object;", .classLink RJ7 2 "java/lang/Object", .methodLink RJ7 304 Lib.Math.min.name, .static Lib.Math.min.name, .initialized "java/lang/Math", .code Lib.Math.min.name Lib.Math.min.code 2 (some .int), .methodLink RJ7 150 arraycopyName, .native arraycopyName, .static arraycopyName, .initialized "java/lang/System"])
def wsJ7_copyOf_1904c : List Cond := .code yJ7_copyOf_1904c cJ7_copyOf_1904c 2 (some (.array (.object "java/lang/Object"))) :: ([.methodLink RJ7 86 ⟨"java/lang/Object", "getClass", "()Ljava/lang/Class;"⟩, .selects "[Ljava/lang/Object;" ⟨"java/lang/Object", "getClass", "()Ljava/lang/Class;"⟩ ⟨"java/lang/Object", "getClass", "()Ljava/lang/Class;"⟩, .instanceMethod ⟨"java/lang/Object", "getClass", "()Ljava/lang/Class;"⟩, .native ⟨"java/lang/Object", "getClass", "()Ljava/lang/Class;"⟩, .methodLink RJ7 300 yJ7_copyOf_6403c, .static yJ7_copyOf_6403c, .initialized RJ7, .code yJ7_copyOf_6403c cJ7_copyOf_6403c 4 (some (.array (.object "java/lang/Object"))), .classLink RJ7 110 "[Ljava/lang/Object;", .classLink RJ7 2 "java/lang/Object", .methodLink RJ7 304 Lib.Math.min.name, .static Lib.Math.min.name, .initialized "java/lang/Math", .code Lib.Math.min.name Lib.Math.min.code 2 (some .int), .methodLink RJ7 150 arraycopyName, .native arraycopyName, .static arraycopyName, .initialized "java/lang/System"])
def wsJx4a65c_grow_92f84_r1 : List Cond := [Cond.fieldLink RJx4a65c 9 "java/util/ArrayList" "elementData" "[Ljava/lang/Object;", Cond.fieldLink RJx4a65c 39 "java/util/ArrayList" "DEFAULTCAPACITY_EMPTY_ELEMENTDATA" "[Ljava/lang/Object;", Cond.methodLink RJx4a65c 79 Lib.Math.max.name, Cond.static Lib.Math.max.name, Cond.initialized "java/lang/Math", Cond.code Lib.Math.max.name Lib.Math.max.code 2 (some .int), Cond.classLink RJx4a65c 7 "java/lang/Object", Cond.methodLink RJx4a65c 73 yJ8_newLength_cabcc, Cond.static yJ8_newLength_cabcc, Cond.initialized RJ8, Cond.code yJ8_newLength_cabcc cJ8_newLength_cabcc 4 (some .int), Cond.methodLink RJ8 194 Lib.Math.max.name, Cond.constant RJ8 200 (2147483639), Cond.methodLink RJ8 201 yJ8_hugeLength_7cf53, Cond.static yJ8_hugeLength_7cf53, Cond.code yJ8_hugeLength_7cf53 cJ8_hugeLength_7cf53 3 (some .int), Cond.methodLink RJx4a65c 66 yJ7_copyOf_1904c, Cond.static yJ7_copyOf_1904c, Cond.initialized RJ7, Cond.code yJ7_copyOf_1904c cJ7_copyOf_1904c 2 (some (.array (.object "java/lang/Object"))), Cond.methodLink RJ7 86 ⟨"java/lang/Object", "getClass", "()Ljava/lang/Class;"⟩, Cond.selects "[Ljava/lang/Object;" ⟨"java/lang/Object", "getClass", "()Ljava/lang/Class;"⟩ ⟨"java/lang/Object", "getClass", "()Ljava/lang/Class;"⟩, Cond.instanceMethod ⟨"java/lang/Object", "getClass", "()Ljava/lang/Class;"⟩, Cond.native ⟨"java/lang/Object", "getClass", "()Ljava/lang/Class;"⟩]
def wsJx4a65c_grow_92f84_r2 : List Cond := [Cond.methodLink RJ7 300 yJ7_copyOf_6403c, Cond.static yJ7_copyOf_6403c, Cond.code yJ7_copyOf_6403c cJ7_copyOf_6403c 4 (some (.array (.object "java/lang/Object"))), Cond.classLink RJ7 110 "[Ljava/lang/Object;", Cond.classLink RJ7 2 "java/lang/Object", Cond.methodLink RJ7 304 Lib.Math.min.name, Cond.static Lib.Math.min.name, Cond.code Lib.Math.min.name Lib.Math.min.code 2 (some .int), Cond.methodLink RJ7 150 arraycopyName, Cond.native arraycopyName, Cond.static arraycopyName, Cond.initialized "java/lang/System"]
def wsJx4a65c_grow_92f84 : List Cond := .code yJx4a65c_grow_92f84 cJx4a65c_grow_92f84 4 (some (.array (.object "java/lang/Object"))) :: ((wsJx4a65c_grow_92f84_r1 ++ wsJx4a65c_grow_92f84_r2) ++ wsJx4a65c0)
def wsJx4a65c_grow_d5877_r1 : List Cond := [Cond.fieldLink RJx4a65c 48 "java/util/ArrayList" "size" "I", Cond.methodLink RJx4a65c 69 yJx4a65c_grow_92f84, Cond.instanceMethod yJx4a65c_grow_92f84, Cond.selects RJx4a65c yJx4a65c_grow_92f84 yJx4a65c_grow_92f84, Cond.initialized RJx4a65c, Cond.code yJx4a65c_grow_92f84 cJx4a65c_grow_92f84 4 (some (.array (.object "java/lang/Object"))), Cond.fieldLink RJx4a65c 9 "java/util/ArrayList" "elementData" "[Ljava/lang/Object;", Cond.fieldLink RJx4a65c 39 "java/util/ArrayList" "DEFAULTCAPACITY_EMPTY_ELEMENTDATA" "[Ljava/lang/Object;", Cond.methodLink RJx4a65c 79 Lib.Math.max.name, Cond.static Lib.Math.max.name, Cond.initialized "java/lang/Math", Cond.code Lib.Math.max.name Lib.Math.max.code 2 (some .int), Cond.classLink RJx4a65c 7 "java/lang/Object", Cond.methodLink RJx4a65c 73 yJ8_newLength_cabcc, Cond.static yJ8_newLength_cabcc, Cond.initialized RJ8, Cond.code yJ8_newLength_cabcc cJ8_newLength_cabcc 4 (some .int), Cond.methodLink RJ8 194 Lib.Math.max.name, Cond.constant RJ8 200 (2147483639), Cond.methodLink RJ8 201 yJ8_hugeLength_7cf53, Cond.static yJ8_hugeLength_7cf53, Cond.code yJ8_hugeLength_7cf53 cJ8_hugeLength_7cf53 3 (some .int), Cond.methodLink RJx4a65c 66 yJ7_copyOf_1904c, Cond.static yJ7_copyOf_1904c]
def wsJx4a65c_grow_d5877_r2 : List Cond := [Cond.initialized RJ7, Cond.code yJ7_copyOf_1904c cJ7_copyOf_1904c 2 (some (.array (.object "java/lang/Object"))), Cond.methodLink RJ7 86 ⟨"java/lang/Object", "getClass", "()Ljava/lang/Class;"⟩, Cond.selects "[Ljava/lang/Object;" ⟨"java/lang/Object", "getClass", "()Ljava/lang/Class;"⟩ ⟨"java/lang/Object", "getClass", "()Ljava/lang/Class;"⟩, Cond.instanceMethod ⟨"java/lang/Object", "getClass", "()Ljava/lang/Class;"⟩, Cond.native ⟨"java/lang/Object", "getClass", "()Ljava/lang/Class;"⟩, Cond.methodLink RJ7 300 yJ7_copyOf_6403c, Cond.static yJ7_copyOf_6403c, Cond.code yJ7_copyOf_6403c cJ7_copyOf_6403c 4 (some (.array (.object "java/lang/Object"))), Cond.classLink RJ7 110 "[Ljava/lang/Object;", Cond.classLink RJ7 2 "java/lang/Object", Cond.methodLink RJ7 304 Lib.Math.min.name, Cond.static Lib.Math.min.name, Cond.code Lib.Math.min.name Lib.Math.min.code 2 (some .int), Cond.methodLink RJ7 150 arraycopyName, Cond.native arraycopyName, Cond.static arraycopyName, Cond.initialized "java/lang/System"]
def wsJx4a65c_grow_d5877 : List Cond := .code yJx4a65c_grow_d5877 cJx4a65c_grow_d5877 1 (some (.array (.object "java/lang/Object"))) :: ((wsJx4a65c_grow_d5877_r1 ++ wsJx4a65c_grow_d5877_r2) ++ wsJx4a65c0)
def wsJx4a65c_add_72be8_r1 : List Cond := [Cond.fieldLink RJx4a65c 48 "java/util/ArrayList" "size" "I", Cond.methodLink RJx4a65c 129 yJx4a65c_grow_d5877, Cond.instanceMethod yJx4a65c_grow_d5877, Cond.selects RJx4a65c yJx4a65c_grow_d5877 yJx4a65c_grow_d5877, Cond.initialized RJx4a65c, Cond.code yJx4a65c_grow_d5877 cJx4a65c_grow_d5877 1 (some (.array (.object "java/lang/Object"))), Cond.methodLink RJx4a65c 69 yJx4a65c_grow_92f84, Cond.instanceMethod yJx4a65c_grow_92f84, Cond.selects RJx4a65c yJx4a65c_grow_92f84 yJx4a65c_grow_92f84, Cond.code yJx4a65c_grow_92f84 cJx4a65c_grow_92f84 4 (some (.array (.object "java/lang/Object"))), Cond.fieldLink RJx4a65c 9 "java/util/ArrayList" "elementData" "[Ljava/lang/Object;", Cond.fieldLink RJx4a65c 39 "java/util/ArrayList" "DEFAULTCAPACITY_EMPTY_ELEMENTDATA" "[Ljava/lang/Object;", Cond.methodLink RJx4a65c 79 Lib.Math.max.name, Cond.static Lib.Math.max.name, Cond.initialized "java/lang/Math", Cond.code Lib.Math.max.name Lib.Math.max.code 2 (some .int), Cond.classLink RJx4a65c 7 "java/lang/Object", Cond.methodLink RJx4a65c 73 yJ8_newLength_cabcc, Cond.static yJ8_newLength_cabcc, Cond.initialized RJ8, Cond.code yJ8_newLength_cabcc cJ8_newLength_cabcc 4 (some .int), Cond.methodLink RJ8 194 Lib.Math.max.name, Cond.constant RJ8 200 (2147483639), Cond.methodLink RJ8 201 yJ8_hugeLength_7cf53]
def wsJx4a65c_add_72be8_r2 : List Cond := [Cond.static yJ8_hugeLength_7cf53, Cond.code yJ8_hugeLength_7cf53 cJ8_hugeLength_7cf53 3 (some .int), Cond.methodLink RJx4a65c 66 yJ7_copyOf_1904c, Cond.static yJ7_copyOf_1904c, Cond.initialized RJ7, Cond.code yJ7_copyOf_1904c cJ7_copyOf_1904c 2 (some (.array (.object "java/lang/Object"))), Cond.methodLink RJ7 86 ⟨"java/lang/Object", "getClass", "()Ljava/lang/Class;"⟩, Cond.selects "[Ljava/lang/Object;" ⟨"java/lang/Object", "getClass", "()Ljava/lang/Class;"⟩ ⟨"java/lang/Object", "getClass", "()Ljava/lang/Class;"⟩, Cond.instanceMethod ⟨"java/lang/Object", "getClass", "()Ljava/lang/Class;"⟩, Cond.native ⟨"java/lang/Object", "getClass", "()Ljava/lang/Class;"⟩, Cond.methodLink RJ7 300 yJ7_copyOf_6403c, Cond.static yJ7_copyOf_6403c, Cond.code yJ7_copyOf_6403c cJ7_copyOf_6403c 4 (some (.array (.object "java/lang/Object"))), Cond.classLink RJ7 110 "[Ljava/lang/Object;", Cond.classLink RJ7 2 "java/lang/Object", Cond.methodLink RJ7 304 Lib.Math.min.name, Cond.static Lib.Math.min.name, Cond.code Lib.Math.min.name Lib.Math.min.code 2 (some .int), Cond.methodLink RJ7 150 arraycopyName, Cond.native arraycopyName, Cond.static arraycopyName, Cond.initialized "java/lang/System"]
def wsJx4a65c_add_72be8 : List Cond := .code yJx4a65c_add_72be8 cJx4a65c_add_72be8 4 none :: ((wsJx4a65c_add_72be8_r1 ++ wsJx4a65c_add_72be8_r2) ++ wsJx4a65c0)
def wsJx4a65c_add_9ea2d_r1 : List Cond := [Cond.fieldLink RJx4a65c 63 "java/util/ArrayList" "modCount" "I", Cond.sameField "java/util/ArrayList" "java/util/AbstractList" "modCount" "I", Cond.fieldLink RJx4a65c 9 "java/util/ArrayList" "elementData" "[Ljava/lang/Object;", Cond.fieldLink RJx4a65c 48 "java/util/ArrayList" "size" "I", Cond.methodLink RJx4a65c 131 yJx4a65c_add_72be8, Cond.instanceMethod yJx4a65c_add_72be8, Cond.selects RJx4a65c yJx4a65c_add_72be8 yJx4a65c_add_72be8, Cond.initialized RJx4a65c, Cond.code yJx4a65c_add_72be8 cJx4a65c_add_72be8 4 none, Cond.methodLink RJx4a65c 129 yJx4a65c_grow_d5877, Cond.instanceMethod yJx4a65c_grow_d5877, Cond.selects RJx4a65c yJx4a65c_grow_d5877 yJx4a65c_grow_d5877, Cond.code yJx4a65c_grow_d5877 cJx4a65c_grow_d5877 1 (some (.array (.object "java/lang/Object"))), Cond.methodLink RJx4a65c 69 yJx4a65c_grow_92f84, Cond.instanceMethod yJx4a65c_grow_92f84, Cond.selects RJx4a65c yJx4a65c_grow_92f84 yJx4a65c_grow_92f84, Cond.code yJx4a65c_grow_92f84 cJx4a65c_grow_92f84 4 (some (.array (.object "java/lang/Object"))), Cond.fieldLink RJx4a65c 39 "java/util/ArrayList" "DEFAULTCAPACITY_EMPTY_ELEMENTDATA" "[Ljava/lang/Object;", Cond.methodLink RJx4a65c 79 Lib.Math.max.name, Cond.static Lib.Math.max.name, Cond.initialized "java/lang/Math", Cond.code Lib.Math.max.name Lib.Math.max.code 2 (some .int), Cond.classLink RJx4a65c 7 "java/lang/Object", Cond.methodLink RJx4a65c 73 yJ8_newLength_cabcc]
def wsJx4a65c_add_9ea2d_r2 : List Cond := [Cond.static yJ8_newLength_cabcc, Cond.initialized RJ8, Cond.code yJ8_newLength_cabcc cJ8_newLength_cabcc 4 (some .int), Cond.methodLink RJ8 194 Lib.Math.max.name, Cond.constant RJ8 200 (2147483639), Cond.methodLink RJ8 201 yJ8_hugeLength_7cf53, Cond.static yJ8_hugeLength_7cf53, Cond.code yJ8_hugeLength_7cf53 cJ8_hugeLength_7cf53 3 (some .int), Cond.methodLink RJx4a65c 66 yJ7_copyOf_1904c, Cond.static yJ7_copyOf_1904c, Cond.initialized RJ7, Cond.code yJ7_copyOf_1904c cJ7_copyOf_1904c 2 (some (.array (.object "java/lang/Object"))), Cond.methodLink RJ7 86 ⟨"java/lang/Object", "getClass", "()Ljava/lang/Class;"⟩, Cond.selects "[Ljava/lang/Object;" ⟨"java/lang/Object", "getClass", "()Ljava/lang/Class;"⟩ ⟨"java/lang/Object", "getClass", "()Ljava/lang/Class;"⟩, Cond.instanceMethod ⟨"java/lang/Object", "getClass", "()Ljava/lang/Class;"⟩, Cond.native ⟨"java/lang/Object", "getClass", "()Ljava/lang/Class;"⟩, Cond.methodLink RJ7 300 yJ7_copyOf_6403c, Cond.static yJ7_copyOf_6403c, Cond.code yJ7_copyOf_6403c cJ7_copyOf_6403c 4 (some (.array (.object "java/lang/Object"))), Cond.classLink RJ7 110 "[Ljava/lang/Object;", Cond.classLink RJ7 2 "java/lang/Object", Cond.methodLink RJ7 304 Lib.Math.min.name, Cond.static Lib.Math.min.name, Cond.code Lib.Math.min.name Lib.Math.min.code 2 (some .int)]
def wsJx4a65c_add_9ea2d_r3 : List Cond := [Cond.methodLink RJ7 150 arraycopyName, Cond.native arraycopyName, Cond.static arraycopyName, Cond.initialized "java/lang/System"]
def wsJx4a65c_add_9ea2d : List Cond := .code yJx4a65c_add_9ea2d cJx4a65c_add_9ea2d 2 (some .boolean) :: ((wsJx4a65c_add_9ea2d_r1 ++ (wsJx4a65c_add_9ea2d_r2 ++ wsJx4a65c_add_9ea2d_r3)) ++ wsJx4a65c0)
def wsX3_begin_r1 : List Cond := [Cond.methodLink RX3 45 yJx4a65c_size_8abf5, Cond.instanceMethod yJx4a65c_size_8abf5, Cond.selects RJx4a65c yJx4a65c_size_8abf5 yJx4a65c_size_8abf5, Cond.initialized RJx4a65c, Cond.code yJx4a65c_size_8abf5 cJx4a65c_size_8abf5 1 (some .int), Cond.fieldLink RJx4a65c 48 "java/util/ArrayList" "size" "I", Cond.methodLink RX3 51 yJ6_valueOf_2dffe, Cond.static yJ6_valueOf_2dffe, Cond.initialized RJ6, Cond.code yJ6_valueOf_2dffe cJ6_valueOf_2dffe 1 (some (.object "java/lang/Integer")), Cond.fieldLink RJ6 191 "java/lang/Integer$IntegerCache" "high" "I", Cond.fieldLink RJ6 195 "java/lang/Integer$IntegerCache" "cache" "[Ljava/lang/Integer;", Cond.classLink RJ6 1 RJ6, Cond.instantiable RJ6 1, Cond.methodLink RJ6 199 yJ6_init_d00df, Cond.instanceMethod yJ6_init_d00df, Cond.code yJ6_init_d00df cJ6_init_d00df 2 none, Cond.fieldLink RJ6 205 "java/lang/Integer" "value" "I", Cond.methodLink RJ6 202 yJxd2413_init_da8c8, Cond.instanceMethod yJxd2413_init_da8c8, Cond.initialized RJxd2413, Cond.code yJxd2413_init_da8c8 cJxd2413_init_da8c8 1 none, Cond.methodLink RJxd2413 1 objectInit, Cond.instanceMethod objectInit]
def wsX3_begin_r2 : List Cond := [Cond.code objectInit ⟨#[0xb1]⟩ 1 none, Cond.methodLink RX3 57 yJx4a65c_add_9ea2d, Cond.instanceMethod yJx4a65c_add_9ea2d, Cond.selects RJx4a65c yJx4a65c_add_9ea2d yJx4a65c_add_9ea2d, Cond.code yJx4a65c_add_9ea2d cJx4a65c_add_9ea2d 2 (some .boolean), Cond.fieldLink RJx4a65c 63 "java/util/ArrayList" "modCount" "I", Cond.sameField "java/util/ArrayList" "java/util/AbstractList" "modCount" "I", Cond.fieldLink RJx4a65c 9 "java/util/ArrayList" "elementData" "[Ljava/lang/Object;", Cond.methodLink RJx4a65c 131 yJx4a65c_add_72be8, Cond.instanceMethod yJx4a65c_add_72be8, Cond.selects RJx4a65c yJx4a65c_add_72be8 yJx4a65c_add_72be8, Cond.code yJx4a65c_add_72be8 cJx4a65c_add_72be8 4 none, Cond.methodLink RJx4a65c 129 yJx4a65c_grow_d5877, Cond.instanceMethod yJx4a65c_grow_d5877, Cond.selects RJx4a65c yJx4a65c_grow_d5877 yJx4a65c_grow_d5877, Cond.code yJx4a65c_grow_d5877 cJx4a65c_grow_d5877 1 (some (.array (.object "java/lang/Object"))), Cond.methodLink RJx4a65c 69 yJx4a65c_grow_92f84, Cond.instanceMethod yJx4a65c_grow_92f84, Cond.selects RJx4a65c yJx4a65c_grow_92f84 yJx4a65c_grow_92f84, Cond.code yJx4a65c_grow_92f84 cJx4a65c_grow_92f84 4 (some (.array (.object "java/lang/Object"))), Cond.fieldLink RJx4a65c 39 "java/util/ArrayList" "DEFAULTCAPACITY_EMPTY_ELEMENTDATA" "[Ljava/lang/Object;", Cond.methodLink RJx4a65c 79 Lib.Math.max.name, Cond.static Lib.Math.max.name, Cond.initialized "java/lang/Math"]
def wsX3_begin_r3 : List Cond := [Cond.code Lib.Math.max.name Lib.Math.max.code 2 (some .int), Cond.classLink RJx4a65c 7 "java/lang/Object", Cond.methodLink RJx4a65c 73 yJ8_newLength_cabcc, Cond.static yJ8_newLength_cabcc, Cond.initialized RJ8, Cond.code yJ8_newLength_cabcc cJ8_newLength_cabcc 4 (some .int), Cond.methodLink RJ8 194 Lib.Math.max.name, Cond.constant RJ8 200 (2147483639), Cond.methodLink RJ8 201 yJ8_hugeLength_7cf53, Cond.static yJ8_hugeLength_7cf53, Cond.code yJ8_hugeLength_7cf53 cJ8_hugeLength_7cf53 3 (some .int), Cond.methodLink RJx4a65c 66 yJ7_copyOf_1904c, Cond.static yJ7_copyOf_1904c, Cond.initialized RJ7, Cond.code yJ7_copyOf_1904c cJ7_copyOf_1904c 2 (some (.array (.object "java/lang/Object"))), Cond.methodLink RJ7 86 ⟨"java/lang/Object", "getClass", "()Ljava/lang/Class;"⟩, Cond.selects "[Ljava/lang/Object;" ⟨"java/lang/Object", "getClass", "()Ljava/lang/Class;"⟩ ⟨"java/lang/Object", "getClass", "()Ljava/lang/Class;"⟩, Cond.instanceMethod ⟨"java/lang/Object", "getClass", "()Ljava/lang/Class;"⟩, Cond.native ⟨"java/lang/Object", "getClass", "()Ljava/lang/Class;"⟩, Cond.methodLink RJ7 300 yJ7_copyOf_6403c, Cond.static yJ7_copyOf_6403c, Cond.code yJ7_copyOf_6403c cJ7_copyOf_6403c 4 (some (.array (.object "java/lang/Object"))), Cond.classLink RJ7 110 "[Ljava/lang/Object;", Cond.classLink RJ7 2 "java/lang/Object"]
def wsX3_begin_r4 : List Cond := [Cond.methodLink RJ7 304 Lib.Math.min.name, Cond.static Lib.Math.min.name, Cond.code Lib.Math.min.name Lib.Math.min.code 2 (some .int), Cond.methodLink RJ7 150 arraycopyName, Cond.native arraycopyName, Cond.static arraycopyName, Cond.initialized "java/lang/System"]
def wsX3_begin : List Cond := .code yX3_begin cX3_begin 2 none :: ((wsX3_begin_r1 ++ (wsX3_begin_r2 ++ (wsX3_begin_r3 ++ wsX3_begin_r4))) ++ wsJx4a65c0 ++ wsJ60)
def wsX3_doSees_r1 : List Cond := [Cond.fieldLink RX3 15 "MistHeaps$Heap" "number" "I", Cond.methodLink RX3 34 yX3_begin, Cond.static yX3_begin, Cond.initialized RX3, Cond.code yX3_begin cX3_begin 2 none, Cond.methodLink RX3 45 yJx4a65c_size_8abf5, Cond.instanceMethod yJx4a65c_size_8abf5, Cond.selects RJx4a65c yJx4a65c_size_8abf5 yJx4a65c_size_8abf5, Cond.initialized RJx4a65c, Cond.code yJx4a65c_size_8abf5 cJx4a65c_size_8abf5 1 (some .int), Cond.fieldLink RJx4a65c 48 "java/util/ArrayList" "size" "I", Cond.methodLink RX3 51 yJ6_valueOf_2dffe, Cond.static yJ6_valueOf_2dffe, Cond.initialized RJ6, Cond.code yJ6_valueOf_2dffe cJ6_valueOf_2dffe 1 (some (.object "java/lang/Integer")), Cond.fieldLink RJ6 191 "java/lang/Integer$IntegerCache" "high" "I", Cond.fieldLink RJ6 195 "java/lang/Integer$IntegerCache" "cache" "[Ljava/lang/Integer;", Cond.classLink RJ6 1 RJ6, Cond.instantiable RJ6 1, Cond.methodLink RJ6 199 yJ6_init_d00df, Cond.instanceMethod yJ6_init_d00df, Cond.code yJ6_init_d00df cJ6_init_d00df 2 none, Cond.fieldLink RJ6 205 "java/lang/Integer" "value" "I", Cond.methodLink RJ6 202 yJxd2413_init_da8c8]
def wsX3_doSees_r2 : List Cond := [Cond.instanceMethod yJxd2413_init_da8c8, Cond.initialized RJxd2413, Cond.code yJxd2413_init_da8c8 cJxd2413_init_da8c8 1 none, Cond.methodLink RJxd2413 1 objectInit, Cond.instanceMethod objectInit, Cond.code objectInit ⟨#[0xb1]⟩ 1 none, Cond.methodLink RX3 57 yJx4a65c_add_9ea2d, Cond.instanceMethod yJx4a65c_add_9ea2d, Cond.selects RJx4a65c yJx4a65c_add_9ea2d yJx4a65c_add_9ea2d, Cond.code yJx4a65c_add_9ea2d cJx4a65c_add_9ea2d 2 (some .boolean), Cond.fieldLink RJx4a65c 63 "java/util/ArrayList" "modCount" "I", Cond.sameField "java/util/ArrayList" "java/util/AbstractList" "modCount" "I", Cond.fieldLink RJx4a65c 9 "java/util/ArrayList" "elementData" "[Ljava/lang/Object;", Cond.methodLink RJx4a65c 131 yJx4a65c_add_72be8, Cond.instanceMethod yJx4a65c_add_72be8, Cond.selects RJx4a65c yJx4a65c_add_72be8 yJx4a65c_add_72be8, Cond.code yJx4a65c_add_72be8 cJx4a65c_add_72be8 4 none, Cond.methodLink RJx4a65c 129 yJx4a65c_grow_d5877, Cond.instanceMethod yJx4a65c_grow_d5877, Cond.selects RJx4a65c yJx4a65c_grow_d5877 yJx4a65c_grow_d5877, Cond.code yJx4a65c_grow_d5877 cJx4a65c_grow_d5877 1 (some (.array (.object "java/lang/Object"))), Cond.methodLink RJx4a65c 69 yJx4a65c_grow_92f84, Cond.instanceMethod yJx4a65c_grow_92f84, Cond.selects RJx4a65c yJx4a65c_grow_92f84 yJx4a65c_grow_92f84]
def wsX3_doSees_r3 : List Cond := [Cond.code yJx4a65c_grow_92f84 cJx4a65c_grow_92f84 4 (some (.array (.object "java/lang/Object"))), Cond.fieldLink RJx4a65c 39 "java/util/ArrayList" "DEFAULTCAPACITY_EMPTY_ELEMENTDATA" "[Ljava/lang/Object;", Cond.methodLink RJx4a65c 79 Lib.Math.max.name, Cond.static Lib.Math.max.name, Cond.initialized "java/lang/Math", Cond.code Lib.Math.max.name Lib.Math.max.code 2 (some .int), Cond.classLink RJx4a65c 7 "java/lang/Object", Cond.methodLink RJx4a65c 73 yJ8_newLength_cabcc, Cond.static yJ8_newLength_cabcc, Cond.initialized RJ8, Cond.code yJ8_newLength_cabcc cJ8_newLength_cabcc 4 (some .int), Cond.methodLink RJ8 194 Lib.Math.max.name, Cond.constant RJ8 200 (2147483639), Cond.methodLink RJ8 201 yJ8_hugeLength_7cf53, Cond.static yJ8_hugeLength_7cf53, Cond.code yJ8_hugeLength_7cf53 cJ8_hugeLength_7cf53 3 (some .int), Cond.methodLink RJx4a65c 66 yJ7_copyOf_1904c, Cond.static yJ7_copyOf_1904c, Cond.initialized RJ7, Cond.code yJ7_copyOf_1904c cJ7_copyOf_1904c 2 (some (.array (.object "java/lang/Object"))), Cond.methodLink RJ7 86 ⟨"java/lang/Object", "getClass", "()Ljava/lang/Class;"⟩, Cond.selects "[Ljava/lang/Object;" ⟨"java/lang/Object", "getClass", "()Ljava/lang/Class;"⟩ ⟨"java/lang/Object", "getClass", "()Ljava/lang/Class;"⟩, Cond.instanceMethod ⟨"java/lang/Object", "getClass", "()Ljava/lang/Class;"⟩, Cond.native ⟨"java/lang/Object", "getClass", "()Ljava/lang/Class;"⟩]
def wsX3_doSees_r4 : List Cond := [Cond.methodLink RJ7 300 yJ7_copyOf_6403c, Cond.static yJ7_copyOf_6403c, Cond.code yJ7_copyOf_6403c cJ7_copyOf_6403c 4 (some (.array (.object "java/lang/Object"))), Cond.classLink RJ7 110 "[Ljava/lang/Object;", Cond.classLink RJ7 2 "java/lang/Object", Cond.methodLink RJ7 304 Lib.Math.min.name, Cond.static Lib.Math.min.name, Cond.code Lib.Math.min.name Lib.Math.min.code 2 (some .int), Cond.methodLink RJ7 150 arraycopyName, Cond.native arraycopyName, Cond.static arraycopyName, Cond.initialized "java/lang/System"]
def wsX3_doSees : List Cond := .code yX3_doSees cX3_doSees 3 (some .int) :: ((wsX3_doSees_r1 ++ (wsX3_doSees_r2 ++ (wsX3_doSees_r3 ++ wsX3_doSees_r4))) ++ wsX10 ++ wsX30 ++ wsX40 ++ wsX60 ++ wsX70 ++ wsX90 ++ wsX100 ++ wsJx4a65c0 ++ wsJ60)
def wsX4_doSees_r1 : List Cond := [Cond.methodLink RX4 21 yX3_doSees, Cond.sameMethod "MistHeaps$Heap" "MistHeaps$Heap" "doSees" "(ILjava/util/ArrayList;)I", Cond.superclass RX4 RX3, Cond.instanceMethod yX3_doSees, Cond.initialized RX3, Cond.code yX3_doSees cX3_doSees 3 (some .int), Cond.fieldLink RX3 15 "MistHeaps$Heap" "number" "I", Cond.methodLink RX3 34 yX3_begin, Cond.static yX3_begin, Cond.code yX3_begin cX3_begin 2 none, Cond.methodLink RX3 45 yJx4a65c_size_8abf5, Cond.instanceMethod yJx4a65c_size_8abf5, Cond.selects RJx4a65c yJx4a65c_size_8abf5 yJx4a65c_size_8abf5, Cond.initialized RJx4a65c, Cond.code yJx4a65c_size_8abf5 cJx4a65c_size_8abf5 1 (some .int), Cond.fieldLink RJx4a65c 48 "java/util/ArrayList" "size" "I", Cond.methodLink RX3 51 yJ6_valueOf_2dffe, Cond.static yJ6_valueOf_2dffe, Cond.initialized RJ6, Cond.code yJ6_valueOf_2dffe cJ6_valueOf_2dffe 1 (some (.object "java/lang/Integer")), Cond.fieldLink RJ6 191 "java/lang/Integer$IntegerCache" "high" "I", Cond.fieldLink RJ6 195 "java/lang/Integer$IntegerCache" "cache" "[Ljava/lang/Integer;", Cond.classLink RJ6 1 RJ6, Cond.instantiable RJ6 1]
def wsX4_doSees_r2 : List Cond := [Cond.methodLink RJ6 199 yJ6_init_d00df, Cond.instanceMethod yJ6_init_d00df, Cond.code yJ6_init_d00df cJ6_init_d00df 2 none, Cond.fieldLink RJ6 205 "java/lang/Integer" "value" "I", Cond.methodLink RJ6 202 yJxd2413_init_da8c8, Cond.instanceMethod yJxd2413_init_da8c8, Cond.initialized RJxd2413, Cond.code yJxd2413_init_da8c8 cJxd2413_init_da8c8 1 none, Cond.methodLink RJxd2413 1 objectInit, Cond.instanceMethod objectInit, Cond.code objectInit ⟨#[0xb1]⟩ 1 none, Cond.methodLink RX3 57 yJx4a65c_add_9ea2d, Cond.instanceMethod yJx4a65c_add_9ea2d, Cond.selects RJx4a65c yJx4a65c_add_9ea2d yJx4a65c_add_9ea2d, Cond.code yJx4a65c_add_9ea2d cJx4a65c_add_9ea2d 2 (some .boolean), Cond.fieldLink RJx4a65c 63 "java/util/ArrayList" "modCount" "I", Cond.sameField "java/util/ArrayList" "java/util/AbstractList" "modCount" "I", Cond.fieldLink RJx4a65c 9 "java/util/ArrayList" "elementData" "[Ljava/lang/Object;", Cond.methodLink RJx4a65c 131 yJx4a65c_add_72be8, Cond.instanceMethod yJx4a65c_add_72be8, Cond.selects RJx4a65c yJx4a65c_add_72be8 yJx4a65c_add_72be8, Cond.code yJx4a65c_add_72be8 cJx4a65c_add_72be8 4 none, Cond.methodLink RJx4a65c 129 yJx4a65c_grow_d5877, Cond.instanceMethod yJx4a65c_grow_d5877]
def wsX4_doSees_r3 : List Cond := [Cond.selects RJx4a65c yJx4a65c_grow_d5877 yJx4a65c_grow_d5877, Cond.code yJx4a65c_grow_d5877 cJx4a65c_grow_d5877 1 (some (.array (.object "java/lang/Object"))), Cond.methodLink RJx4a65c 69 yJx4a65c_grow_92f84, Cond.instanceMethod yJx4a65c_grow_92f84, Cond.selects RJx4a65c yJx4a65c_grow_92f84 yJx4a65c_grow_92f84, Cond.code yJx4a65c_grow_92f84 cJx4a65c_grow_92f84 4 (some (.array (.object "java/lang/Object"))), Cond.fieldLink RJx4a65c 39 "java/util/ArrayList" "DEFAULTCAPACITY_EMPTY_ELEMENTDATA" "[Ljava/lang/Object;", Cond.methodLink RJx4a65c 79 Lib.Math.max.name, Cond.static Lib.Math.max.name, Cond.initialized "java/lang/Math", Cond.code Lib.Math.max.name Lib.Math.max.code 2 (some .int), Cond.classLink RJx4a65c 7 "java/lang/Object", Cond.methodLink RJx4a65c 73 yJ8_newLength_cabcc, Cond.static yJ8_newLength_cabcc, Cond.initialized RJ8, Cond.code yJ8_newLength_cabcc cJ8_newLength_cabcc 4 (some .int), Cond.methodLink RJ8 194 Lib.Math.max.name, Cond.constant RJ8 200 (2147483639), Cond.methodLink RJ8 201 yJ8_hugeLength_7cf53, Cond.static yJ8_hugeLength_7cf53, Cond.code yJ8_hugeLength_7cf53 cJ8_hugeLength_7cf53 3 (some .int), Cond.methodLink RJx4a65c 66 yJ7_copyOf_1904c, Cond.static yJ7_copyOf_1904c, Cond.initialized RJ7]
def wsX4_doSees_r4 : List Cond := [Cond.code yJ7_copyOf_1904c cJ7_copyOf_1904c 2 (some (.array (.object "java/lang/Object"))), Cond.methodLink RJ7 86 ⟨"java/lang/Object", "getClass", "()Ljava/lang/Class;"⟩, Cond.selects "[Ljava/lang/Object;" ⟨"java/lang/Object", "getClass", "()Ljava/lang/Class;"⟩ ⟨"java/lang/Object", "getClass", "()Ljava/lang/Class;"⟩, Cond.instanceMethod ⟨"java/lang/Object", "getClass", "()Ljava/lang/Class;"⟩, Cond.native ⟨"java/lang/Object", "getClass", "()Ljava/lang/Class;"⟩, Cond.methodLink RJ7 300 yJ7_copyOf_6403c, Cond.static yJ7_copyOf_6403c, Cond.code yJ7_copyOf_6403c cJ7_copyOf_6403c 4 (some (.array (.object "java/lang/Object"))), Cond.classLink RJ7 110 "[Ljava/lang/Object;", Cond.classLink RJ7 2 "java/lang/Object", Cond.methodLink RJ7 304 Lib.Math.min.name, Cond.static Lib.Math.min.name, Cond.code Lib.Math.min.name Lib.Math.min.code 2 (some .int), Cond.methodLink RJ7 150 arraycopyName, Cond.native arraycopyName, Cond.static arraycopyName, Cond.initialized "java/lang/System"]
def wsX4_doSees : List Cond := .code yX4_doSees cX4_doSees 3 (some .int) :: ((wsX4_doSees_r1 ++ (wsX4_doSees_r2 ++ (wsX4_doSees_r3 ++ wsX4_doSees_r4))) ++ wsX10 ++ wsX30 ++ wsX40 ++ wsX60 ++ wsX70 ++ wsX90 ++ wsX100 ++ wsJx4a65c0 ++ wsJ60)
def wsX9_doSees : List Cond := .code yX9_doSees cX9_doSees 3 (some .int) :: ([.fieldLink RX9 25 "MistHeaps$Snowed" "number" "I", .sameField "MistHeaps$Snowed" "MistHeaps$Heap" "number" "I"] ++ wsX10 ++ wsX30 ++ wsX40 ++ wsX60 ++ wsX70 ++ wsX90 ++ wsX100)
def wsX3_doGoes_r1 : List Cond := [Cond.fieldLink RX3 18 "MistHeaps$Heap" "v" "I", Cond.methodLink RX3 34 yX3_begin, Cond.static yX3_begin, Cond.initialized RX3, Cond.code yX3_begin cX3_begin 2 none, Cond.methodLink RX3 45 yJx4a65c_size_8abf5, Cond.instanceMethod yJx4a65c_size_8abf5, Cond.selects RJx4a65c yJx4a65c_size_8abf5 yJx4a65c_size_8abf5, Cond.initialized RJx4a65c, Cond.code yJx4a65c_size_8abf5 cJx4a65c_size_8abf5 1 (some .int), Cond.fieldLink RJx4a65c 48 "java/util/ArrayList" "size" "I", Cond.methodLink RX3 51 yJ6_valueOf_2dffe, Cond.static yJ6_valueOf_2dffe, Cond.initialized RJ6, Cond.code yJ6_valueOf_2dffe cJ6_valueOf_2dffe 1 (some (.object "java/lang/Integer")), Cond.fieldLink RJ6 191 "java/lang/Integer$IntegerCache" "high" "I", Cond.fieldLink RJ6 195 "java/lang/Integer$IntegerCache" "cache" "[Ljava/lang/Integer;", Cond.classLink RJ6 1 RJ6, Cond.instantiable RJ6 1, Cond.methodLink RJ6 199 yJ6_init_d00df, Cond.instanceMethod yJ6_init_d00df, Cond.code yJ6_init_d00df cJ6_init_d00df 2 none, Cond.fieldLink RJ6 205 "java/lang/Integer" "value" "I", Cond.methodLink RJ6 202 yJxd2413_init_da8c8]
def wsX3_doGoes_r2 : List Cond := [Cond.instanceMethod yJxd2413_init_da8c8, Cond.initialized RJxd2413, Cond.code yJxd2413_init_da8c8 cJxd2413_init_da8c8 1 none, Cond.methodLink RJxd2413 1 objectInit, Cond.instanceMethod objectInit, Cond.code objectInit ⟨#[0xb1]⟩ 1 none, Cond.methodLink RX3 57 yJx4a65c_add_9ea2d, Cond.instanceMethod yJx4a65c_add_9ea2d, Cond.selects RJx4a65c yJx4a65c_add_9ea2d yJx4a65c_add_9ea2d, Cond.code yJx4a65c_add_9ea2d cJx4a65c_add_9ea2d 2 (some .boolean), Cond.fieldLink RJx4a65c 63 "java/util/ArrayList" "modCount" "I", Cond.sameField "java/util/ArrayList" "java/util/AbstractList" "modCount" "I", Cond.fieldLink RJx4a65c 9 "java/util/ArrayList" "elementData" "[Ljava/lang/Object;", Cond.methodLink RJx4a65c 131 yJx4a65c_add_72be8, Cond.instanceMethod yJx4a65c_add_72be8, Cond.selects RJx4a65c yJx4a65c_add_72be8 yJx4a65c_add_72be8, Cond.code yJx4a65c_add_72be8 cJx4a65c_add_72be8 4 none, Cond.methodLink RJx4a65c 129 yJx4a65c_grow_d5877, Cond.instanceMethod yJx4a65c_grow_d5877, Cond.selects RJx4a65c yJx4a65c_grow_d5877 yJx4a65c_grow_d5877, Cond.code yJx4a65c_grow_d5877 cJx4a65c_grow_d5877 1 (some (.array (.object "java/lang/Object"))), Cond.methodLink RJx4a65c 69 yJx4a65c_grow_92f84, Cond.instanceMethod yJx4a65c_grow_92f84, Cond.selects RJx4a65c yJx4a65c_grow_92f84 yJx4a65c_grow_92f84]
def wsX3_doGoes_r3 : List Cond := [Cond.code yJx4a65c_grow_92f84 cJx4a65c_grow_92f84 4 (some (.array (.object "java/lang/Object"))), Cond.fieldLink RJx4a65c 39 "java/util/ArrayList" "DEFAULTCAPACITY_EMPTY_ELEMENTDATA" "[Ljava/lang/Object;", Cond.methodLink RJx4a65c 79 Lib.Math.max.name, Cond.static Lib.Math.max.name, Cond.initialized "java/lang/Math", Cond.code Lib.Math.max.name Lib.Math.max.code 2 (some .int), Cond.classLink RJx4a65c 7 "java/lang/Object", Cond.methodLink RJx4a65c 73 yJ8_newLength_cabcc, Cond.static yJ8_newLength_cabcc, Cond.initialized RJ8, Cond.code yJ8_newLength_cabcc cJ8_newLength_cabcc 4 (some .int), Cond.methodLink RJ8 194 Lib.Math.max.name, Cond.constant RJ8 200 (2147483639), Cond.methodLink RJ8 201 yJ8_hugeLength_7cf53, Cond.static yJ8_hugeLength_7cf53, Cond.code yJ8_hugeLength_7cf53 cJ8_hugeLength_7cf53 3 (some .int), Cond.methodLink RJx4a65c 66 yJ7_copyOf_1904c, Cond.static yJ7_copyOf_1904c, Cond.initialized RJ7, Cond.code yJ7_copyOf_1904c cJ7_copyOf_1904c 2 (some (.array (.object "java/lang/Object"))), Cond.methodLink RJ7 86 ⟨"java/lang/Object", "getClass", "()Ljava/lang/Class;"⟩, Cond.selects "[Ljava/lang/Object;" ⟨"java/lang/Object", "getClass", "()Ljava/lang/Class;"⟩ ⟨"java/lang/Object", "getClass", "()Ljava/lang/Class;"⟩, Cond.instanceMethod ⟨"java/lang/Object", "getClass", "()Ljava/lang/Class;"⟩, Cond.native ⟨"java/lang/Object", "getClass", "()Ljava/lang/Class;"⟩]
def wsX3_doGoes_r4 : List Cond := [Cond.methodLink RJ7 300 yJ7_copyOf_6403c, Cond.static yJ7_copyOf_6403c, Cond.code yJ7_copyOf_6403c cJ7_copyOf_6403c 4 (some (.array (.object "java/lang/Object"))), Cond.classLink RJ7 110 "[Ljava/lang/Object;", Cond.classLink RJ7 2 "java/lang/Object", Cond.methodLink RJ7 304 Lib.Math.min.name, Cond.static Lib.Math.min.name, Cond.code Lib.Math.min.name Lib.Math.min.code 2 (some .int), Cond.methodLink RJ7 150 arraycopyName, Cond.native arraycopyName, Cond.static arraycopyName, Cond.initialized "java/lang/System", Cond.methodLink RX3 38 ⟨"MistHeaps$Heap", "doSees", "(ILjava/util/ArrayList;)I"⟩, Cond.sameMethod "MistHeaps$Heap" "MistHeaps$Heap" "doSees" "(ILjava/util/ArrayList;)I", Cond.selects RX1 ⟨"MistHeaps$Heap", "doSees", "(ILjava/util/ArrayList;)I"⟩ yX3_doSees, Cond.instanceMethod yX3_doSees, Cond.code yX3_doSees cX3_doSees 3 (some .int), Cond.fieldLink RX3 15 "MistHeaps$Heap" "number" "I", Cond.methodLink RX3 38 yX3_doSees, Cond.selects RX3 yX3_doSees yX3_doSees, Cond.instanceMethod ⟨"MistHeaps$Heap", "doSees", "(ILjava/util/ArrayList;)I"⟩, Cond.selects RX4 ⟨"MistHeaps$Heap", "doSees", "(ILjava/util/ArrayList;)I"⟩ yX4_doSees, Cond.instanceMethod yX4_doSees, Cond.initialized RX4]
def wsX3_doGoes_r5 : List Cond := [Cond.code yX4_doSees cX4_doSees 3 (some .int), Cond.methodLink RX4 21 yX3_doSees, Cond.superclass RX4 RX3, Cond.selects RX6 ⟨"MistHeaps$Heap", "doSees", "(ILjava/util/ArrayList;)I"⟩ yX3_doSees, Cond.selects RX7 ⟨"MistHeaps$Heap", "doSees", "(ILjava/util/ArrayList;)I"⟩ yX3_doSees, Cond.selects RX9 ⟨"MistHeaps$Heap", "doSees", "(ILjava/util/ArrayList;)I"⟩ yX9_doSees, Cond.instanceMethod yX9_doSees, Cond.initialized RX9, Cond.code yX9_doSees cX9_doSees 3 (some .int), Cond.fieldLink RX9 25 "MistHeaps$Snowed" "number" "I", Cond.sameField "MistHeaps$Snowed" "MistHeaps$Heap" "number" "I", Cond.selects RX10 ⟨"MistHeaps$Heap", "doSees", "(ILjava/util/ArrayList;)I"⟩ yX4_doSees]
def wsX3_doGoes : List Cond := .code yX3_doGoes cX3_doGoes 3 (some .int) :: ((wsX3_doGoes_r1 ++ (wsX3_doGoes_r2 ++ (wsX3_doGoes_r3 ++ (wsX3_doGoes_r4 ++ wsX3_doGoes_r5)))) ++ wsX10 ++ wsX30 ++ wsX40 ++ wsX60 ++ wsX70 ++ wsX90 ++ wsX100 ++ wsJx4a65c0 ++ wsJ60)
def wsX6_doGoes_r1 : List Cond := [Cond.methodLink RX6 17 yX3_doGoes, Cond.sameMethod "MistHeaps$Heap" "MistHeaps$Heap" "doGoes" "(ILjava/util/ArrayList;)I", Cond.superclass RX6 RX3, Cond.instanceMethod yX3_doGoes, Cond.initialized RX3, Cond.code yX3_doGoes cX3_doGoes 3 (some .int), Cond.fieldLink RX3 18 "MistHeaps$Heap" "v" "I", Cond.methodLink RX3 34 yX3_begin, Cond.static yX3_begin, Cond.code yX3_begin cX3_begin 2 none, Cond.methodLink RX3 45 yJx4a65c_size_8abf5, Cond.instanceMethod yJx4a65c_size_8abf5, Cond.selects RJx4a65c yJx4a65c_size_8abf5 yJx4a65c_size_8abf5, Cond.initialized RJx4a65c, Cond.code yJx4a65c_size_8abf5 cJx4a65c_size_8abf5 1 (some .int), Cond.fieldLink RJx4a65c 48 "java/util/ArrayList" "size" "I", Cond.methodLink RX3 51 yJ6_valueOf_2dffe, Cond.static yJ6_valueOf_2dffe, Cond.initialized RJ6, Cond.code yJ6_valueOf_2dffe cJ6_valueOf_2dffe 1 (some (.object "java/lang/Integer")), Cond.fieldLink RJ6 191 "java/lang/Integer$IntegerCache" "high" "I", Cond.fieldLink RJ6 195 "java/lang/Integer$IntegerCache" "cache" "[Ljava/lang/Integer;", Cond.classLink RJ6 1 RJ6, Cond.instantiable RJ6 1]
def wsX6_doGoes_r2 : List Cond := [Cond.methodLink RJ6 199 yJ6_init_d00df, Cond.instanceMethod yJ6_init_d00df, Cond.code yJ6_init_d00df cJ6_init_d00df 2 none, Cond.fieldLink RJ6 205 "java/lang/Integer" "value" "I", Cond.methodLink RJ6 202 yJxd2413_init_da8c8, Cond.instanceMethod yJxd2413_init_da8c8, Cond.initialized RJxd2413, Cond.code yJxd2413_init_da8c8 cJxd2413_init_da8c8 1 none, Cond.methodLink RJxd2413 1 objectInit, Cond.instanceMethod objectInit, Cond.code objectInit ⟨#[0xb1]⟩ 1 none, Cond.methodLink RX3 57 yJx4a65c_add_9ea2d, Cond.instanceMethod yJx4a65c_add_9ea2d, Cond.selects RJx4a65c yJx4a65c_add_9ea2d yJx4a65c_add_9ea2d, Cond.code yJx4a65c_add_9ea2d cJx4a65c_add_9ea2d 2 (some .boolean), Cond.fieldLink RJx4a65c 63 "java/util/ArrayList" "modCount" "I", Cond.sameField "java/util/ArrayList" "java/util/AbstractList" "modCount" "I", Cond.fieldLink RJx4a65c 9 "java/util/ArrayList" "elementData" "[Ljava/lang/Object;", Cond.methodLink RJx4a65c 131 yJx4a65c_add_72be8, Cond.instanceMethod yJx4a65c_add_72be8, Cond.selects RJx4a65c yJx4a65c_add_72be8 yJx4a65c_add_72be8, Cond.code yJx4a65c_add_72be8 cJx4a65c_add_72be8 4 none, Cond.methodLink RJx4a65c 129 yJx4a65c_grow_d5877, Cond.instanceMethod yJx4a65c_grow_d5877]
def wsX6_doGoes_r3 : List Cond := [Cond.selects RJx4a65c yJx4a65c_grow_d5877 yJx4a65c_grow_d5877, Cond.code yJx4a65c_grow_d5877 cJx4a65c_grow_d5877 1 (some (.array (.object "java/lang/Object"))), Cond.methodLink RJx4a65c 69 yJx4a65c_grow_92f84, Cond.instanceMethod yJx4a65c_grow_92f84, Cond.selects RJx4a65c yJx4a65c_grow_92f84 yJx4a65c_grow_92f84, Cond.code yJx4a65c_grow_92f84 cJx4a65c_grow_92f84 4 (some (.array (.object "java/lang/Object"))), Cond.fieldLink RJx4a65c 39 "java/util/ArrayList" "DEFAULTCAPACITY_EMPTY_ELEMENTDATA" "[Ljava/lang/Object;", Cond.methodLink RJx4a65c 79 Lib.Math.max.name, Cond.static Lib.Math.max.name, Cond.initialized "java/lang/Math", Cond.code Lib.Math.max.name Lib.Math.max.code 2 (some .int), Cond.classLink RJx4a65c 7 "java/lang/Object", Cond.methodLink RJx4a65c 73 yJ8_newLength_cabcc, Cond.static yJ8_newLength_cabcc, Cond.initialized RJ8, Cond.code yJ8_newLength_cabcc cJ8_newLength_cabcc 4 (some .int), Cond.methodLink RJ8 194 Lib.Math.max.name, Cond.constant RJ8 200 (2147483639), Cond.methodLink RJ8 201 yJ8_hugeLength_7cf53, Cond.static yJ8_hugeLength_7cf53, Cond.code yJ8_hugeLength_7cf53 cJ8_hugeLength_7cf53 3 (some .int), Cond.methodLink RJx4a65c 66 yJ7_copyOf_1904c, Cond.static yJ7_copyOf_1904c, Cond.initialized RJ7]
def wsX6_doGoes_r4 : List Cond := [Cond.code yJ7_copyOf_1904c cJ7_copyOf_1904c 2 (some (.array (.object "java/lang/Object"))), Cond.methodLink RJ7 86 ⟨"java/lang/Object", "getClass", "()Ljava/lang/Class;"⟩, Cond.selects "[Ljava/lang/Object;" ⟨"java/lang/Object", "getClass", "()Ljava/lang/Class;"⟩ ⟨"java/lang/Object", "getClass", "()Ljava/lang/Class;"⟩, Cond.instanceMethod ⟨"java/lang/Object", "getClass", "()Ljava/lang/Class;"⟩, Cond.native ⟨"java/lang/Object", "getClass", "()Ljava/lang/Class;"⟩, Cond.methodLink RJ7 300 yJ7_copyOf_6403c, Cond.static yJ7_copyOf_6403c, Cond.code yJ7_copyOf_6403c cJ7_copyOf_6403c 4 (some (.array (.object "java/lang/Object"))), Cond.classLink RJ7 110 "[Ljava/lang/Object;", Cond.classLink RJ7 2 "java/lang/Object", Cond.methodLink RJ7 304 Lib.Math.min.name, Cond.static Lib.Math.min.name, Cond.code Lib.Math.min.name Lib.Math.min.code 2 (some .int), Cond.methodLink RJ7 150 arraycopyName, Cond.native arraycopyName, Cond.static arraycopyName, Cond.initialized "java/lang/System", Cond.methodLink RX3 38 ⟨"MistHeaps$Heap", "doSees", "(ILjava/util/ArrayList;)I"⟩, Cond.sameMethod "MistHeaps$Heap" "MistHeaps$Heap" "doSees" "(ILjava/util/ArrayList;)I", Cond.selects RX1 ⟨"MistHeaps$Heap", "doSees", "(ILjava/util/ArrayList;)I"⟩ yX3_doSees, Cond.instanceMethod yX3_doSees, Cond.code yX3_doSees cX3_doSees 3 (some .int), Cond.fieldLink RX3 15 "MistHeaps$Heap" "number" "I", Cond.methodLink RX3 38 yX3_doSees]
def wsX6_doGoes_r5 : List Cond := [Cond.selects RX3 yX3_doSees yX3_doSees, Cond.instanceMethod ⟨"MistHeaps$Heap", "doSees", "(ILjava/util/ArrayList;)I"⟩, Cond.selects RX4 ⟨"MistHeaps$Heap", "doSees", "(ILjava/util/ArrayList;)I"⟩ yX4_doSees, Cond.instanceMethod yX4_doSees, Cond.initialized RX4, Cond.code yX4_doSees cX4_doSees 3 (some .int), Cond.methodLink RX4 21 yX3_doSees, Cond.superclass RX4 RX3, Cond.selects RX6 ⟨"MistHeaps$Heap", "doSees", "(ILjava/util/ArrayList;)I"⟩ yX3_doSees, Cond.selects RX7 ⟨"MistHeaps$Heap", "doSees", "(ILjava/util/ArrayList;)I"⟩ yX3_doSees, Cond.selects RX9 ⟨"MistHeaps$Heap", "doSees", "(ILjava/util/ArrayList;)I"⟩ yX9_doSees, Cond.instanceMethod yX9_doSees, Cond.initialized RX9, Cond.code yX9_doSees cX9_doSees 3 (some .int), Cond.fieldLink RX9 25 "MistHeaps$Snowed" "number" "I", Cond.sameField "MistHeaps$Snowed" "MistHeaps$Heap" "number" "I", Cond.selects RX10 ⟨"MistHeaps$Heap", "doSees", "(ILjava/util/ArrayList;)I"⟩ yX4_doSees]
def wsX6_doGoes : List Cond := .code yX6_doGoes cX6_doGoes 3 (some .int) :: ((wsX6_doGoes_r1 ++ (wsX6_doGoes_r2 ++ (wsX6_doGoes_r3 ++ (wsX6_doGoes_r4 ++ wsX6_doGoes_r5)))) ++ wsX10 ++ wsX30 ++ wsX40 ++ wsX60 ++ wsX70 ++ wsX90 ++ wsX100 ++ wsJx4a65c0 ++ wsJ60)
def wsX7_doGoes : List Cond := .code yX7_doGoes cX7_doGoes 3 (some .int) :: ([.fieldLink RX7 26 "MistHeaps$Old" "v" "I", .sameField "MistHeaps$Old" "MistHeaps$Heap" "v" "I"] ++ wsX10 ++ wsX30 ++ wsX40 ++ wsX60 ++ wsX70 ++ wsX90 ++ wsX100)
def wsX3_doLooks_r1 : List Cond := [Cond.methodLink RX3 34 yX3_begin, Cond.static yX3_begin, Cond.initialized RX3, Cond.code yX3_begin cX3_begin 2 none, Cond.methodLink RX3 45 yJx4a65c_size_8abf5, Cond.instanceMethod yJx4a65c_size_8abf5, Cond.selects RJx4a65c yJx4a65c_size_8abf5 yJx4a65c_size_8abf5, Cond.initialized RJx4a65c, Cond.code yJx4a65c_size_8abf5 cJx4a65c_size_8abf5 1 (some .int), Cond.fieldLink RJx4a65c 48 "java/util/ArrayList" "size" "I", Cond.methodLink RX3 51 yJ6_valueOf_2dffe, Cond.static yJ6_valueOf_2dffe, Cond.initialized RJ6, Cond.code yJ6_valueOf_2dffe cJ6_valueOf_2dffe 1 (some (.object "java/lang/Integer")), Cond.fieldLink RJ6 191 "java/lang/Integer$IntegerCache" "high" "I", Cond.fieldLink RJ6 195 "java/lang/Integer$IntegerCache" "cache" "[Ljava/lang/Integer;", Cond.classLink RJ6 1 RJ6, Cond.instantiable RJ6 1, Cond.methodLink RJ6 199 yJ6_init_d00df, Cond.instanceMethod yJ6_init_d00df, Cond.code yJ6_init_d00df cJ6_init_d00df 2 none, Cond.fieldLink RJ6 205 "java/lang/Integer" "value" "I", Cond.methodLink RJ6 202 yJxd2413_init_da8c8, Cond.instanceMethod yJxd2413_init_da8c8]
def wsX3_doLooks_r2 : List Cond := [Cond.initialized RJxd2413, Cond.code yJxd2413_init_da8c8 cJxd2413_init_da8c8 1 none, Cond.methodLink RJxd2413 1 objectInit, Cond.instanceMethod objectInit, Cond.code objectInit ⟨#[0xb1]⟩ 1 none, Cond.methodLink RX3 57 yJx4a65c_add_9ea2d, Cond.instanceMethod yJx4a65c_add_9ea2d, Cond.selects RJx4a65c yJx4a65c_add_9ea2d yJx4a65c_add_9ea2d, Cond.code yJx4a65c_add_9ea2d cJx4a65c_add_9ea2d 2 (some .boolean), Cond.fieldLink RJx4a65c 63 "java/util/ArrayList" "modCount" "I", Cond.sameField "java/util/ArrayList" "java/util/AbstractList" "modCount" "I", Cond.fieldLink RJx4a65c 9 "java/util/ArrayList" "elementData" "[Ljava/lang/Object;", Cond.methodLink RJx4a65c 131 yJx4a65c_add_72be8, Cond.instanceMethod yJx4a65c_add_72be8, Cond.selects RJx4a65c yJx4a65c_add_72be8 yJx4a65c_add_72be8, Cond.code yJx4a65c_add_72be8 cJx4a65c_add_72be8 4 none, Cond.methodLink RJx4a65c 129 yJx4a65c_grow_d5877, Cond.instanceMethod yJx4a65c_grow_d5877, Cond.selects RJx4a65c yJx4a65c_grow_d5877 yJx4a65c_grow_d5877, Cond.code yJx4a65c_grow_d5877 cJx4a65c_grow_d5877 1 (some (.array (.object "java/lang/Object"))), Cond.methodLink RJx4a65c 69 yJx4a65c_grow_92f84, Cond.instanceMethod yJx4a65c_grow_92f84, Cond.selects RJx4a65c yJx4a65c_grow_92f84 yJx4a65c_grow_92f84, Cond.code yJx4a65c_grow_92f84 cJx4a65c_grow_92f84 4 (some (.array (.object "java/lang/Object")))]
def wsX3_doLooks_r3 : List Cond := [Cond.fieldLink RJx4a65c 39 "java/util/ArrayList" "DEFAULTCAPACITY_EMPTY_ELEMENTDATA" "[Ljava/lang/Object;", Cond.methodLink RJx4a65c 79 Lib.Math.max.name, Cond.static Lib.Math.max.name, Cond.initialized "java/lang/Math", Cond.code Lib.Math.max.name Lib.Math.max.code 2 (some .int), Cond.classLink RJx4a65c 7 "java/lang/Object", Cond.methodLink RJx4a65c 73 yJ8_newLength_cabcc, Cond.static yJ8_newLength_cabcc, Cond.initialized RJ8, Cond.code yJ8_newLength_cabcc cJ8_newLength_cabcc 4 (some .int), Cond.methodLink RJ8 194 Lib.Math.max.name, Cond.constant RJ8 200 (2147483639), Cond.methodLink RJ8 201 yJ8_hugeLength_7cf53, Cond.static yJ8_hugeLength_7cf53, Cond.code yJ8_hugeLength_7cf53 cJ8_hugeLength_7cf53 3 (some .int), Cond.methodLink RJx4a65c 66 yJ7_copyOf_1904c, Cond.static yJ7_copyOf_1904c, Cond.initialized RJ7, Cond.code yJ7_copyOf_1904c cJ7_copyOf_1904c 2 (some (.array (.object "java/lang/Object"))), Cond.methodLink RJ7 86 ⟨"java/lang/Object", "getClass", "()Ljava/lang/Class;"⟩, Cond.selects "[Ljava/lang/Object;" ⟨"java/lang/Object", "getClass", "()Ljava/lang/Class;"⟩ ⟨"java/lang/Object", "getClass", "()Ljava/lang/Class;"⟩, Cond.instanceMethod ⟨"java/lang/Object", "getClass", "()Ljava/lang/Class;"⟩, Cond.native ⟨"java/lang/Object", "getClass", "()Ljava/lang/Class;"⟩, Cond.methodLink RJ7 300 yJ7_copyOf_6403c]
def wsX3_doLooks_r4 : List Cond := [Cond.static yJ7_copyOf_6403c, Cond.code yJ7_copyOf_6403c cJ7_copyOf_6403c 4 (some (.array (.object "java/lang/Object"))), Cond.classLink RJ7 110 "[Ljava/lang/Object;", Cond.classLink RJ7 2 "java/lang/Object", Cond.methodLink RJ7 304 Lib.Math.min.name, Cond.static Lib.Math.min.name, Cond.code Lib.Math.min.name Lib.Math.min.code 2 (some .int), Cond.methodLink RJ7 150 arraycopyName, Cond.native arraycopyName, Cond.static arraycopyName, Cond.initialized "java/lang/System", Cond.methodLink RX3 42 ⟨"MistHeaps$Heap", "doGoes", "(ILjava/util/ArrayList;)I"⟩, Cond.sameMethod "MistHeaps$Heap" "MistHeaps$Heap" "doGoes" "(ILjava/util/ArrayList;)I", Cond.selects RX1 ⟨"MistHeaps$Heap", "doGoes", "(ILjava/util/ArrayList;)I"⟩ yX3_doGoes, Cond.instanceMethod yX3_doGoes, Cond.code yX3_doGoes cX3_doGoes 3 (some .int), Cond.fieldLink RX3 18 "MistHeaps$Heap" "v" "I", Cond.methodLink RX3 38 ⟨"MistHeaps$Heap", "doSees", "(ILjava/util/ArrayList;)I"⟩, Cond.sameMethod "MistHeaps$Heap" "MistHeaps$Heap" "doSees" "(ILjava/util/ArrayList;)I", Cond.selects RX1 ⟨"MistHeaps$Heap", "doSees", "(ILjava/util/ArrayList;)I"⟩ yX3_doSees, Cond.instanceMethod yX3_doSees, Cond.code yX3_doSees cX3_doSees 3 (some .int), Cond.fieldLink RX3 15 "MistHeaps$Heap" "number" "I", Cond.methodLink RX3 38 yX3_doSees]
def wsX3_doLooks_r5 : List Cond := [Cond.selects RX3 yX3_doSees yX3_doSees, Cond.instanceMethod ⟨"MistHeaps$Heap", "doSees", "(ILjava/util/ArrayList;)I"⟩, Cond.selects RX4 ⟨"MistHeaps$Heap", "doSees", "(ILjava/util/ArrayList;)I"⟩ yX4_doSees, Cond.instanceMethod yX4_doSees, Cond.initialized RX4, Cond.code yX4_doSees cX4_doSees 3 (some .int), Cond.methodLink RX4 21 yX3_doSees, Cond.superclass RX4 RX3, Cond.selects RX6 ⟨"MistHeaps$Heap", "doSees", "(ILjava/util/ArrayList;)I"⟩ yX3_doSees, Cond.selects RX7 ⟨"MistHeaps$Heap", "doSees", "(ILjava/util/ArrayList;)I"⟩ yX3_doSees, Cond.selects RX9 ⟨"MistHeaps$Heap", "doSees", "(ILjava/util/ArrayList;)I"⟩ yX9_doSees, Cond.instanceMethod yX9_doSees, Cond.initialized RX9, Cond.code yX9_doSees cX9_doSees 3 (some .int), Cond.fieldLink RX9 25 "MistHeaps$Snowed" "number" "I", Cond.sameField "MistHeaps$Snowed" "MistHeaps$Heap" "number" "I", Cond.selects RX10 ⟨"MistHeaps$Heap", "doSees", "(ILjava/util/ArrayList;)I"⟩ yX4_doSees, Cond.methodLink RX3 42 yX3_doGoes, Cond.selects RX3 yX3_doGoes yX3_doGoes, Cond.selects RX4 ⟨"MistHeaps$Heap", "doGoes", "(ILjava/util/ArrayList;)I"⟩ yX3_doGoes, Cond.instanceMethod ⟨"MistHeaps$Heap", "doGoes", "(ILjava/util/ArrayList;)I"⟩, Cond.selects RX6 ⟨"MistHeaps$Heap", "doGoes", "(ILjava/util/ArrayList;)I"⟩ yX6_doGoes, Cond.instanceMethod yX6_doGoes, Cond.initialized RX6]
def wsX3_doLooks_r6 : List Cond := [Cond.code yX6_doGoes cX6_doGoes 3 (some .int), Cond.methodLink RX6 17 yX3_doGoes, Cond.superclass RX6 RX3, Cond.selects RX7 ⟨"MistHeaps$Heap", "doGoes", "(ILjava/util/ArrayList;)I"⟩ yX7_doGoes, Cond.instanceMethod yX7_doGoes, Cond.initialized RX7, Cond.code yX7_doGoes cX7_doGoes 3 (some .int), Cond.fieldLink RX7 26 "MistHeaps$Old" "v" "I", Cond.sameField "MistHeaps$Old" "MistHeaps$Heap" "v" "I", Cond.selects RX9 ⟨"MistHeaps$Heap", "doGoes", "(ILjava/util/ArrayList;)I"⟩ yX6_doGoes, Cond.selects RX10 ⟨"MistHeaps$Heap", "doGoes", "(ILjava/util/ArrayList;)I"⟩ yX3_doGoes]
def wsX3_doLooks : List Cond := .code yX3_doLooks cX3_doLooks 3 (some .int) :: ((wsX3_doLooks_r1 ++ (wsX3_doLooks_r2 ++ (wsX3_doLooks_r3 ++ (wsX3_doLooks_r4 ++ (wsX3_doLooks_r5 ++ wsX3_doLooks_r6))))) ++ wsJx4a65c0 ++ wsJ60 ++ wsX10 ++ wsX30 ++ wsX40 ++ wsX60 ++ wsX70 ++ wsX90 ++ wsX100)
def wsX1_doLooks_r1 : List Cond := [Cond.methodLink RX1 13 yX3_doLooks, Cond.sameMethod "MistHeaps$Heap" "MistHeaps$Heap" "doLooks" "(ILjava/util/ArrayList;)I", Cond.superclass RX1 RX3, Cond.instanceMethod yX3_doLooks, Cond.initialized RX3, Cond.code yX3_doLooks cX3_doLooks 3 (some .int), Cond.methodLink RX3 34 yX3_begin, Cond.static yX3_begin, Cond.code yX3_begin cX3_begin 2 none, Cond.methodLink RX3 45 yJx4a65c_size_8abf5, Cond.instanceMethod yJx4a65c_size_8abf5, Cond.selects RJx4a65c yJx4a65c_size_8abf5 yJx4a65c_size_8abf5, Cond.initialized RJx4a65c, Cond.code yJx4a65c_size_8abf5 cJx4a65c_size_8abf5 1 (some .int), Cond.fieldLink RJx4a65c 48 "java/util/ArrayList" "size" "I", Cond.methodLink RX3 51 yJ6_valueOf_2dffe, Cond.static yJ6_valueOf_2dffe, Cond.initialized RJ6, Cond.code yJ6_valueOf_2dffe cJ6_valueOf_2dffe 1 (some (.object "java/lang/Integer")), Cond.fieldLink RJ6 191 "java/lang/Integer$IntegerCache" "high" "I", Cond.fieldLink RJ6 195 "java/lang/Integer$IntegerCache" "cache" "[Ljava/lang/Integer;", Cond.classLink RJ6 1 RJ6, Cond.instantiable RJ6 1, Cond.methodLink RJ6 199 yJ6_init_d00df]
def wsX1_doLooks_r2 : List Cond := [Cond.instanceMethod yJ6_init_d00df, Cond.code yJ6_init_d00df cJ6_init_d00df 2 none, Cond.fieldLink RJ6 205 "java/lang/Integer" "value" "I", Cond.methodLink RJ6 202 yJxd2413_init_da8c8, Cond.instanceMethod yJxd2413_init_da8c8, Cond.initialized RJxd2413, Cond.code yJxd2413_init_da8c8 cJxd2413_init_da8c8 1 none, Cond.methodLink RJxd2413 1 objectInit, Cond.instanceMethod objectInit, Cond.code objectInit ⟨#[0xb1]⟩ 1 none, Cond.methodLink RX3 57 yJx4a65c_add_9ea2d, Cond.instanceMethod yJx4a65c_add_9ea2d, Cond.selects RJx4a65c yJx4a65c_add_9ea2d yJx4a65c_add_9ea2d, Cond.code yJx4a65c_add_9ea2d cJx4a65c_add_9ea2d 2 (some .boolean), Cond.fieldLink RJx4a65c 63 "java/util/ArrayList" "modCount" "I", Cond.sameField "java/util/ArrayList" "java/util/AbstractList" "modCount" "I", Cond.fieldLink RJx4a65c 9 "java/util/ArrayList" "elementData" "[Ljava/lang/Object;", Cond.methodLink RJx4a65c 131 yJx4a65c_add_72be8, Cond.instanceMethod yJx4a65c_add_72be8, Cond.selects RJx4a65c yJx4a65c_add_72be8 yJx4a65c_add_72be8, Cond.code yJx4a65c_add_72be8 cJx4a65c_add_72be8 4 none, Cond.methodLink RJx4a65c 129 yJx4a65c_grow_d5877, Cond.instanceMethod yJx4a65c_grow_d5877, Cond.selects RJx4a65c yJx4a65c_grow_d5877 yJx4a65c_grow_d5877]
def wsX1_doLooks_r3 : List Cond := [Cond.code yJx4a65c_grow_d5877 cJx4a65c_grow_d5877 1 (some (.array (.object "java/lang/Object"))), Cond.methodLink RJx4a65c 69 yJx4a65c_grow_92f84, Cond.instanceMethod yJx4a65c_grow_92f84, Cond.selects RJx4a65c yJx4a65c_grow_92f84 yJx4a65c_grow_92f84, Cond.code yJx4a65c_grow_92f84 cJx4a65c_grow_92f84 4 (some (.array (.object "java/lang/Object"))), Cond.fieldLink RJx4a65c 39 "java/util/ArrayList" "DEFAULTCAPACITY_EMPTY_ELEMENTDATA" "[Ljava/lang/Object;", Cond.methodLink RJx4a65c 79 Lib.Math.max.name, Cond.static Lib.Math.max.name, Cond.initialized "java/lang/Math", Cond.code Lib.Math.max.name Lib.Math.max.code 2 (some .int), Cond.classLink RJx4a65c 7 "java/lang/Object", Cond.methodLink RJx4a65c 73 yJ8_newLength_cabcc, Cond.static yJ8_newLength_cabcc, Cond.initialized RJ8, Cond.code yJ8_newLength_cabcc cJ8_newLength_cabcc 4 (some .int), Cond.methodLink RJ8 194 Lib.Math.max.name, Cond.constant RJ8 200 (2147483639), Cond.methodLink RJ8 201 yJ8_hugeLength_7cf53, Cond.static yJ8_hugeLength_7cf53, Cond.code yJ8_hugeLength_7cf53 cJ8_hugeLength_7cf53 3 (some .int), Cond.methodLink RJx4a65c 66 yJ7_copyOf_1904c, Cond.static yJ7_copyOf_1904c, Cond.initialized RJ7, Cond.code yJ7_copyOf_1904c cJ7_copyOf_1904c 2 (some (.array (.object "java/lang/Object")))]
def wsX1_doLooks_r4 : List Cond := [Cond.methodLink RJ7 86 ⟨"java/lang/Object", "getClass", "()Ljava/lang/Class;"⟩, Cond.selects "[Ljava/lang/Object;" ⟨"java/lang/Object", "getClass", "()Ljava/lang/Class;"⟩ ⟨"java/lang/Object", "getClass", "()Ljava/lang/Class;"⟩, Cond.instanceMethod ⟨"java/lang/Object", "getClass", "()Ljava/lang/Class;"⟩, Cond.native ⟨"java/lang/Object", "getClass", "()Ljava/lang/Class;"⟩, Cond.methodLink RJ7 300 yJ7_copyOf_6403c, Cond.static yJ7_copyOf_6403c, Cond.code yJ7_copyOf_6403c cJ7_copyOf_6403c 4 (some (.array (.object "java/lang/Object"))), Cond.classLink RJ7 110 "[Ljava/lang/Object;", Cond.classLink RJ7 2 "java/lang/Object", Cond.methodLink RJ7 304 Lib.Math.min.name, Cond.static Lib.Math.min.name, Cond.code Lib.Math.min.name Lib.Math.min.code 2 (some .int), Cond.methodLink RJ7 150 arraycopyName, Cond.native arraycopyName, Cond.static arraycopyName, Cond.initialized "java/lang/System", Cond.methodLink RX3 42 ⟨"MistHeaps$Heap", "doGoes", "(ILjava/util/ArrayList;)I"⟩, Cond.sameMethod "MistHeaps$Heap" "MistHeaps$Heap" "doGoes" "(ILjava/util/ArrayList;)I", Cond.selects RX1 ⟨"MistHeaps$Heap", "doGoes", "(ILjava/util/ArrayList;)I"⟩ yX3_doGoes, Cond.instanceMethod yX3_doGoes, Cond.code yX3_doGoes cX3_doGoes 3 (some .int), Cond.fieldLink RX3 18 "MistHeaps$Heap" "v" "I", Cond.methodLink RX3 38 ⟨"MistHeaps$Heap", "doSees", "(ILjava/util/ArrayList;)I"⟩, Cond.sameMethod "MistHeaps$Heap" "MistHeaps$Heap" "doSees" "(ILjava/util/ArrayList;)I"]
def wsX1_doLooks_r5 : List Cond := [Cond.selects RX1 ⟨"MistHeaps$Heap", "doSees", "(ILjava/util/ArrayList;)I"⟩ yX3_doSees, Cond.instanceMethod yX3_doSees, Cond.code yX3_doSees cX3_doSees 3 (some .int), Cond.fieldLink RX3 15 "MistHeaps$Heap" "number" "I", Cond.methodLink RX3 38 yX3_doSees, Cond.selects RX3 yX3_doSees yX3_doSees, Cond.instanceMethod ⟨"MistHeaps$Heap", "doSees", "(ILjava/util/ArrayList;)I"⟩, Cond.selects RX4 ⟨"MistHeaps$Heap", "doSees", "(ILjava/util/ArrayList;)I"⟩ yX4_doSees, Cond.instanceMethod yX4_doSees, Cond.initialized RX4, Cond.code yX4_doSees cX4_doSees 3 (some .int), Cond.methodLink RX4 21 yX3_doSees, Cond.superclass RX4 RX3, Cond.selects RX6 ⟨"MistHeaps$Heap", "doSees", "(ILjava/util/ArrayList;)I"⟩ yX3_doSees, Cond.selects RX7 ⟨"MistHeaps$Heap", "doSees", "(ILjava/util/ArrayList;)I"⟩ yX3_doSees, Cond.selects RX9 ⟨"MistHeaps$Heap", "doSees", "(ILjava/util/ArrayList;)I"⟩ yX9_doSees, Cond.instanceMethod yX9_doSees, Cond.initialized RX9, Cond.code yX9_doSees cX9_doSees 3 (some .int), Cond.fieldLink RX9 25 "MistHeaps$Snowed" "number" "I", Cond.sameField "MistHeaps$Snowed" "MistHeaps$Heap" "number" "I", Cond.selects RX10 ⟨"MistHeaps$Heap", "doSees", "(ILjava/util/ArrayList;)I"⟩ yX4_doSees, Cond.methodLink RX3 42 yX3_doGoes, Cond.selects RX3 yX3_doGoes yX3_doGoes]
def wsX1_doLooks_r6 : List Cond := [Cond.selects RX4 ⟨"MistHeaps$Heap", "doGoes", "(ILjava/util/ArrayList;)I"⟩ yX3_doGoes, Cond.instanceMethod ⟨"MistHeaps$Heap", "doGoes", "(ILjava/util/ArrayList;)I"⟩, Cond.selects RX6 ⟨"MistHeaps$Heap", "doGoes", "(ILjava/util/ArrayList;)I"⟩ yX6_doGoes, Cond.instanceMethod yX6_doGoes, Cond.initialized RX6, Cond.code yX6_doGoes cX6_doGoes 3 (some .int), Cond.methodLink RX6 17 yX3_doGoes, Cond.superclass RX6 RX3, Cond.selects RX7 ⟨"MistHeaps$Heap", "doGoes", "(ILjava/util/ArrayList;)I"⟩ yX7_doGoes, Cond.instanceMethod yX7_doGoes, Cond.initialized RX7, Cond.code yX7_doGoes cX7_doGoes 3 (some .int), Cond.fieldLink RX7 26 "MistHeaps$Old" "v" "I", Cond.sameField "MistHeaps$Old" "MistHeaps$Heap" "v" "I", Cond.selects RX9 ⟨"MistHeaps$Heap", "doGoes", "(ILjava/util/ArrayList;)I"⟩ yX6_doGoes, Cond.selects RX10 ⟨"MistHeaps$Heap", "doGoes", "(ILjava/util/ArrayList;)I"⟩ yX3_doGoes]
def wsX1_doLooks : List Cond := .code yX1_doLooks cX1_doLooks 3 (some .int) :: ((wsX1_doLooks_r1 ++ (wsX1_doLooks_r2 ++ (wsX1_doLooks_r3 ++ (wsX1_doLooks_r4 ++ (wsX1_doLooks_r5 ++ wsX1_doLooks_r6))))) ++ wsJx4a65c0 ++ wsJ60 ++ wsX10 ++ wsX30 ++ wsX40 ++ wsX60 ++ wsX70 ++ wsX90 ++ wsX100)
def wsX2_init : List Cond := .code yX2_init cX2_init 1 none :: ([.methodLink RX2 3 objectInit, .instanceMethod objectInit, .code objectInit ⟨#[0xb1]⟩ 1 none, .arrayClass .int, .fieldLink RX2 9 "MistHeaps$Goings" "reach" "[I", .fieldLink RX2 15 "MistHeaps$Goings" "onward" "[I", .classLink RX2 18 RX3, .instantiable RX3 4, .initialized RX3, .fieldLink RX2 23 "MistHeaps$Goings" "spare" "LMistHeaps$Heap;", .methodLink RX2 20 yX3_init, .instanceMethod yX3_init, .code yX3_init cX3_init 5 none, .methodLink RX3 3 objectInit, .fieldLink RX3 9 "MistHeaps$Heap" "kind" "I", .fieldLink RX3 15 "MistHeaps$Heap" "number" "I", .fieldLink RX3 18 "MistHeaps$Heap" "v" "I", .fieldLink RX3 21 "MistHeaps$Heap" "cell" "I"] ++ wsX20 ++ wsX30 ++ wsX10 ++ wsX40 ++ wsX60 ++ wsX70 ++ wsX90 ++ wsX100)
def wsX3_reachBy : List Cond := .code yX3_reachBy cX3_reachBy 3 (some .int) :: ([.methodLink RX3 28 Lib.Math.max.name, .static Lib.Math.max.name, .initialized "java/lang/Math", .code Lib.Math.max.name Lib.Math.max.code 2 (some .int)])
def wsX4_reachBy : List Cond := .code yX4_reachBy cX4_reachBy 3 (some .int) :: ([.fieldLink RX4 7 "MistHeaps$High" "v" "I", .sameField "MistHeaps$High" "MistHeaps$Heap" "v" "I", .methodLink RX4 13 yX3_reachBy, .sameMethod "MistHeaps$Heap" "MistHeaps$Heap" "reachBy" "(II)I", .superclass RX4 RX3, .instanceMethod yX3_reachBy, .initialized RX3, .code yX3_reachBy cX3_reachBy 3 (some .int), .methodLink RX3 28 Lib.Math.max.name, .static Lib.Math.max.name, .initialized "java/lang/Math", .code Lib.Math.max.name Lib.Math.max.code 2 (some .int)] ++ wsX10 ++ wsX30 ++ wsX40 ++ wsX60 ++ wsX70 ++ wsX90 ++ wsX100)
def wsX6_reachBy : List Cond := .code yX6_reachBy cX6_reachBy 3 (some .int) :: ([.methodLink RX6 7 yX3_reachBy, .sameMethod "MistHeaps$Heap" "MistHeaps$Heap" "reachBy" "(II)I", .superclass RX6 RX3, .instanceMethod yX3_reachBy, .initialized RX3, .code yX3_reachBy cX3_reachBy 3 (some .int), .methodLink RX3 28 Lib.Math.max.name, .static Lib.Math.max.name, .initialized "java/lang/Math", .code Lib.Math.max.name Lib.Math.max.code 2 (some .int)])
def wsX7_reachBy : List Cond := .code yX7_reachBy cX7_reachBy 3 (some .int) :: ([.methodLink RX7 11 Lib.Math.min.name, .static Lib.Math.min.name, .initialized "java/lang/Math", .code Lib.Math.min.name Lib.Math.min.code 2 (some .int)])
def wsX9_reachBy : List Cond := .code yX9_reachBy cX9_reachBy 3 (some .int) :: ([.fieldLink RX9 7 "MistHeaps$Snowed" "v" "I", .sameField "MistHeaps$Snowed" "MistHeaps$Heap" "v" "I", .methodLink RX9 13 yX6_reachBy, .sameMethod "MistHeaps$Low" "MistHeaps$Low" "reachBy" "(II)I", .superclass RX9 RX6, .instanceMethod yX6_reachBy, .initialized RX6, .code yX6_reachBy cX6_reachBy 3 (some .int), .methodLink RX6 7 yX3_reachBy, .sameMethod "MistHeaps$Heap" "MistHeaps$Heap" "reachBy" "(II)I", .superclass RX6 RX3, .instanceMethod yX3_reachBy, .initialized RX3, .code yX3_reachBy cX3_reachBy 3 (some .int), .methodLink RX3 28 Lib.Math.max.name, .static Lib.Math.max.name, .initialized "java/lang/Math", .code Lib.Math.max.name Lib.Math.max.code 2 (some .int)] ++ wsX10 ++ wsX30 ++ wsX40 ++ wsX60 ++ wsX70 ++ wsX90 ++ wsX100)
def wsX8_reachOf_r1 : List Cond := [Cond.fieldLink RX8 76 "MistHeaps$Heap" "number" "I", Cond.fieldLink RX8 79 "MistHeaps$Heap" "kind" "I", Cond.fieldLink RX8 73 "MistHeaps$Heap" "cell" "I", Cond.fieldLink RX8 18 "MistHeaps$Scene" "hill" "LMistHeaps$Hill;", Cond.fieldLink RX8 86 "MistHeaps$Hill" "sight" "I", Cond.fieldLink RX8 34 "MistHeaps$Scene" "facts" "[I", Cond.fieldLink RX8 54 "MistHeaps$Scene" "mist" "I", Cond.methodLink RX8 82 yX8_tellFacts, Cond.instanceMethod yX8_tellFacts, Cond.selects RX8 yX8_tellFacts yX8_tellFacts, Cond.initialized RX8, Cond.code yX8_tellFacts cX8_tellFacts 5 none, Cond.static yX11_rowOf, Cond.initialized RX11, Cond.code yX11_rowOf cX11_rowOf 1 (some .int), Cond.static yX11_columnOf, Cond.code yX11_columnOf cX11_columnOf 1 (some .int), Cond.methodLink RX8 89 yX5_total, Cond.instanceMethod yX5_total, Cond.selects RX5 yX5_total yX5_total, Cond.initialized RX5, Cond.code yX5_total cX5_total 5 (some .int), Cond.fieldLink RX5 59 "MistHeaps$Hill" "clauses" "I", Cond.fieldLink RX5 15 "MistHeaps$Hill" "words" "[I"]
def wsX8_reachOf_r2 : List Cond := [Cond.fieldLink RX5 19 "MistHeaps$Hill" "amounts" "[I", Cond.methodLink RX5 120 yX5_holds, Cond.instanceMethod yX5_holds, Cond.selects RX5 yX5_holds yX5_holds, Cond.code yX5_holds cX5_holds 7 (some .boolean), Cond.fieldLink RX5 22 "MistHeaps$Hill" "ends" "[I", Cond.fieldLink RX5 25 "MistHeaps$Hill" "codes" "[I", Cond.methodLink RX5 124 yX5_isSo, Cond.static yX5_isSo, Cond.code yX5_isSo cX5_isSo 4 (some .boolean), Cond.methodLink RX8 93 ⟨"MistHeaps$Heap", "reachBy", "(II)I"⟩, Cond.sameMethod "MistHeaps$Heap" "MistHeaps$Heap" "reachBy" "(II)I", Cond.selects RX1 ⟨"MistHeaps$Heap", "reachBy", "(II)I"⟩ yX3_reachBy, Cond.instanceMethod yX3_reachBy, Cond.initialized RX3, Cond.code yX3_reachBy cX3_reachBy 3 (some .int), Cond.methodLink RX3 28 Lib.Math.max.name, Cond.static Lib.Math.max.name, Cond.initialized "java/lang/Math", Cond.code Lib.Math.max.name Lib.Math.max.code 2 (some .int), Cond.methodLink RX8 93 yX3_reachBy, Cond.selects RX3 yX3_reachBy yX3_reachBy, Cond.instanceMethod ⟨"MistHeaps$Heap", "reachBy", "(II)I"⟩, Cond.selects RX4 ⟨"MistHeaps$Heap", "reachBy", "(II)I"⟩ yX4_reachBy]
def wsX8_reachOf_r3 : List Cond := [Cond.instanceMethod yX4_reachBy, Cond.initialized RX4, Cond.code yX4_reachBy cX4_reachBy 3 (some .int), Cond.fieldLink RX4 7 "MistHeaps$High" "v" "I", Cond.sameField "MistHeaps$High" "MistHeaps$Heap" "v" "I", Cond.methodLink RX4 13 yX3_reachBy, Cond.superclass RX4 RX3, Cond.selects RX6 ⟨"MistHeaps$Heap", "reachBy", "(II)I"⟩ yX6_reachBy, Cond.instanceMethod yX6_reachBy, Cond.initialized RX6, Cond.code yX6_reachBy cX6_reachBy 3 (some .int), Cond.methodLink RX6 7 yX3_reachBy, Cond.superclass RX6 RX3, Cond.selects RX7 ⟨"MistHeaps$Heap", "reachBy", "(II)I"⟩ yX7_reachBy, Cond.instanceMethod yX7_reachBy, Cond.initialized RX7, Cond.code yX7_reachBy cX7_reachBy 3 (some .int), Cond.methodLink RX7 11 Lib.Math.min.name, Cond.static Lib.Math.min.name, Cond.code Lib.Math.min.name Lib.Math.min.code 2 (some .int), Cond.selects RX9 ⟨"MistHeaps$Heap", "reachBy", "(II)I"⟩ yX9_reachBy, Cond.instanceMethod yX9_reachBy, Cond.initialized RX9, Cond.code yX9_reachBy cX9_reachBy 3 (some .int)]
def wsX8_reachOf_r4 : List Cond := [Cond.fieldLink RX9 7 "MistHeaps$Snowed" "v" "I", Cond.sameField "MistHeaps$Snowed" "MistHeaps$Heap" "v" "I", Cond.methodLink RX9 13 yX6_reachBy, Cond.sameMethod "MistHeaps$Low" "MistHeaps$Low" "reachBy" "(II)I", Cond.superclass RX9 RX6, Cond.selects RX10 ⟨"MistHeaps$Heap", "reachBy", "(II)I"⟩ yX4_reachBy]
def wsX8_reachOf : List Cond := .code yX8_reachOf cX8_reachOf 4 (some .int) :: ((wsX8_reachOf_r1 ++ (wsX8_reachOf_r2 ++ (wsX8_reachOf_r3 ++ wsX8_reachOf_r4))) ++ wsX10 ++ wsX30 ++ wsX40 ++ wsX60 ++ wsX70 ++ wsX90 ++ wsX100 ++ wsX80 ++ wsX50)
def wsX2_measure_r1 : List Cond := [Cond.fieldLink RX2 27 "MistHeaps$Scene" "heapCount" "I", Cond.fieldLink RX2 9 "MistHeaps$Goings" "reach" "[I", Cond.fieldLink RX2 33 "MistHeaps$Scene" "heaps" "[LMistHeaps$Heap;", Cond.methodLink RX2 37 yX8_reachOf, Cond.instanceMethod yX8_reachOf, Cond.selects RX8 yX8_reachOf yX8_reachOf, Cond.initialized RX8, Cond.code yX8_reachOf cX8_reachOf 4 (some .int), Cond.fieldLink RX8 76 "MistHeaps$Heap" "number" "I", Cond.fieldLink RX8 79 "MistHeaps$Heap" "kind" "I", Cond.fieldLink RX8 73 "MistHeaps$Heap" "cell" "I", Cond.fieldLink RX8 18 "MistHeaps$Scene" "hill" "LMistHeaps$Hill;", Cond.fieldLink RX8 86 "MistHeaps$Hill" "sight" "I", Cond.fieldLink RX8 34 "MistHeaps$Scene" "facts" "[I", Cond.fieldLink RX8 54 "MistHeaps$Scene" "mist" "I", Cond.methodLink RX8 82 yX8_tellFacts, Cond.instanceMethod yX8_tellFacts, Cond.selects RX8 yX8_tellFacts yX8_tellFacts, Cond.code yX8_tellFacts cX8_tellFacts 5 none, Cond.static yX11_rowOf, Cond.initialized RX11, Cond.code yX11_rowOf cX11_rowOf 1 (some .int), Cond.static yX11_columnOf, Cond.code yX11_columnOf cX11_columnOf 1 (some .int)]
def wsX2_measure_r2 : List Cond := [Cond.methodLink RX8 89 yX5_total, Cond.instanceMethod yX5_total, Cond.selects RX5 yX5_total yX5_total, Cond.initialized RX5, Cond.code yX5_total cX5_total 5 (some .int), Cond.fieldLink RX5 59 "MistHeaps$Hill" "clauses" "I", Cond.fieldLink RX5 15 "MistHeaps$Hill" "words" "[I", Cond.fieldLink RX5 19 "MistHeaps$Hill" "amounts" "[I", Cond.methodLink RX5 120 yX5_holds, Cond.instanceMethod yX5_holds, Cond.selects RX5 yX5_holds yX5_holds, Cond.code yX5_holds cX5_holds 7 (some .boolean), Cond.fieldLink RX5 22 "MistHeaps$Hill" "ends" "[I", Cond.fieldLink RX5 25 "MistHeaps$Hill" "codes" "[I", Cond.methodLink RX5 124 yX5_isSo, Cond.static yX5_isSo, Cond.code yX5_isSo cX5_isSo 4 (some .boolean), Cond.methodLink RX8 93 ⟨"MistHeaps$Heap", "reachBy", "(II)I"⟩, Cond.sameMethod "MistHeaps$Heap" "MistHeaps$Heap" "reachBy" "(II)I", Cond.selects RX1 ⟨"MistHeaps$Heap", "reachBy", "(II)I"⟩ yX3_reachBy, Cond.instanceMethod yX3_reachBy, Cond.initialized RX3, Cond.code yX3_reachBy cX3_reachBy 3 (some .int), Cond.methodLink RX3 28 Lib.Math.max.name]
def wsX2_measure_r3 : List Cond := [Cond.static Lib.Math.max.name, Cond.initialized "java/lang/Math", Cond.code Lib.Math.max.name Lib.Math.max.code 2 (some .int), Cond.methodLink RX8 93 yX3_reachBy, Cond.selects RX3 yX3_reachBy yX3_reachBy, Cond.instanceMethod ⟨"MistHeaps$Heap", "reachBy", "(II)I"⟩, Cond.selects RX4 ⟨"MistHeaps$Heap", "reachBy", "(II)I"⟩ yX4_reachBy, Cond.instanceMethod yX4_reachBy, Cond.initialized RX4, Cond.code yX4_reachBy cX4_reachBy 3 (some .int), Cond.fieldLink RX4 7 "MistHeaps$High" "v" "I", Cond.sameField "MistHeaps$High" "MistHeaps$Heap" "v" "I", Cond.methodLink RX4 13 yX3_reachBy, Cond.superclass RX4 RX3, Cond.selects RX6 ⟨"MistHeaps$Heap", "reachBy", "(II)I"⟩ yX6_reachBy, Cond.instanceMethod yX6_reachBy, Cond.initialized RX6, Cond.code yX6_reachBy cX6_reachBy 3 (some .int), Cond.methodLink RX6 7 yX3_reachBy, Cond.superclass RX6 RX3, Cond.selects RX7 ⟨"MistHeaps$Heap", "reachBy", "(II)I"⟩ yX7_reachBy, Cond.instanceMethod yX7_reachBy, Cond.initialized RX7, Cond.code yX7_reachBy cX7_reachBy 3 (some .int)]
def wsX2_measure_r4 : List Cond := [Cond.methodLink RX7 11 Lib.Math.min.name, Cond.static Lib.Math.min.name, Cond.code Lib.Math.min.name Lib.Math.min.code 2 (some .int), Cond.selects RX9 ⟨"MistHeaps$Heap", "reachBy", "(II)I"⟩ yX9_reachBy, Cond.instanceMethod yX9_reachBy, Cond.initialized RX9, Cond.code yX9_reachBy cX9_reachBy 3 (some .int), Cond.fieldLink RX9 7 "MistHeaps$Snowed" "v" "I", Cond.sameField "MistHeaps$Snowed" "MistHeaps$Heap" "v" "I", Cond.methodLink RX9 13 yX6_reachBy, Cond.sameMethod "MistHeaps$Low" "MistHeaps$Low" "reachBy" "(II)I", Cond.superclass RX9 RX6, Cond.selects RX10 ⟨"MistHeaps$Heap", "reachBy", "(II)I"⟩ yX4_reachBy]
def wsX2_measure : List Cond := .code yX2_measure cX2_measure 4 none :: ((wsX2_measure_r1 ++ (wsX2_measure_r2 ++ (wsX2_measure_r3 ++ wsX2_measure_r4))) ++ wsX80 ++ wsX20 ++ wsX10 ++ wsX30 ++ wsX40 ++ wsX60 ++ wsX70 ++ wsX90 ++ wsX100 ++ wsX50)
def wsX11_apart : List Cond := .code yX11_apart cX11_apart 2 (some .int) :: ([.methodLink RX11 263 Lib.Math.abs.name, .static Lib.Math.abs.name, .initialized "java/lang/Math", .code Lib.Math.abs.name Lib.Math.abs.code 1 (some .int), .methodLink RX11 204 Lib.Math.max.name, .static Lib.Math.max.name, .code Lib.Math.max.name Lib.Math.max.code 2 (some .int), .methodLink RX11 212 yX11_rowOf, .static yX11_rowOf, .initialized RX11, .code yX11_rowOf cX11_rowOf 1 (some .int), .methodLink RX11 215 yX11_columnOf, .static yX11_columnOf, .code yX11_columnOf cX11_columnOf 1 (some .int)])
def wsX2_seenFrom : List Cond := .code yX2_seenFrom cX2_seenFrom 5 (some .int) :: ([.fieldLink RX2 27 "MistHeaps$Scene" "heapCount" "I", .fieldLink RX2 33 "MistHeaps$Scene" "heaps" "[LMistHeaps$Heap;", .fieldLink RX2 41 "MistHeaps$Heap" "cell" "I", .fieldLink RX2 9 "MistHeaps$Goings" "reach" "[I", .static yX11_apart, .initialized RX11, .code yX11_apart cX11_apart 2 (some .int), .methodLink RX11 263 Lib.Math.abs.name, .static Lib.Math.abs.name, .initialized "java/lang/Math", .code Lib.Math.abs.name Lib.Math.abs.code 1 (some .int), .methodLink RX11 204 Lib.Math.max.name, .static Lib.Math.max.name, .code Lib.Math.max.name Lib.Math.max.code 2 (some .int), .methodLink RX11 212 yX11_rowOf, .static yX11_rowOf, .code yX11_rowOf cX11_rowOf 1 (some .int), .methodLink RX11 215 yX11_columnOf, .static yX11_columnOf, .code yX11_columnOf cX11_columnOf 1 (some .int)] ++ wsX80 ++ wsX10 ++ wsX30 ++ wsX40 ++ wsX60 ++ wsX70 ++ wsX90 ++ wsX100 ++ wsX20)
def wsX3_leadsTo : List Cond := .code yX3_leadsTo cX3_leadsTo 2 (some .boolean) :: ([])
def wsX10_isOnSide : List Cond := .code yX10_isOnSide cX10_isOnSide 2 (some .boolean) :: ([])
def wsX10_leadsTo : List Cond := .code yX10_leadsTo cX10_leadsTo 3 (some .boolean) :: ([.fieldLink RX10 9 "MistHeaps$Turning" "v" "I", .sameField "MistHeaps$Turning" "MistHeaps$Heap" "v" "I", .fieldLink RX10 23 "MistHeaps$Turning" "cell" "I", .sameField "MistHeaps$Turning" "MistHeaps$Heap" "cell" "I", .static yX11_rowOf, .initialized RX11, .code yX11_rowOf cX11_rowOf 1 (some .int), .methodLink RX10 26 yX10_isOnSide, .static yX10_isOnSide, .initialized RX10, .code yX10_isOnSide cX10_isOnSide 2 (some .boolean), .static yX11_columnOf, .code yX11_columnOf cX11_columnOf 1 (some .int)] ++ wsX10 ++ wsX30 ++ wsX40 ++ wsX60 ++ wsX70 ++ wsX90 ++ wsX100)
def wsX2_tellGoing_r1 : List Cond := [Cond.fieldLink RX2 59 "MistHeaps$Heap" "number" "I", Cond.fieldLink RX2 41 "MistHeaps$Heap" "cell" "I", Cond.fieldLink RX2 9 "MistHeaps$Goings" "reach" "[I", Cond.fieldLink RX2 15 "MistHeaps$Goings" "onward" "[I", Cond.static yX11_apart, Cond.initialized RX11, Cond.code yX11_apart cX11_apart 2 (some .int), Cond.methodLink RX11 263 Lib.Math.abs.name, Cond.static Lib.Math.abs.name, Cond.initialized "java/lang/Math", Cond.code Lib.Math.abs.name Lib.Math.abs.code 1 (some .int), Cond.methodLink RX11 204 Lib.Math.max.name, Cond.static Lib.Math.max.name, Cond.code Lib.Math.max.name Lib.Math.max.code 2 (some .int), Cond.methodLink RX11 212 yX11_rowOf, Cond.static yX11_rowOf, Cond.code yX11_rowOf cX11_rowOf 1 (some .int), Cond.methodLink RX11 215 yX11_columnOf, Cond.static yX11_columnOf, Cond.code yX11_columnOf cX11_columnOf 1 (some .int), Cond.methodLink RX2 62 ⟨"MistHeaps$Heap", "leadsTo", "(I)Z"⟩, Cond.sameMethod "MistHeaps$Heap" "MistHeaps$Heap" "leadsTo" "(I)Z", Cond.instanceMethod ⟨"MistHeaps$Heap", "leadsTo", "(I)Z"⟩, Cond.selects RX1 ⟨"MistHeaps$Heap", "leadsTo", "(I)Z"⟩ yX1_leadsTo]
def wsX2_tellGoing_r2 : List Cond := [Cond.instanceMethod yX1_leadsTo, Cond.initialized RX1, Cond.code yX1_leadsTo cX1_leadsTo 2 (some .boolean), Cond.code yX3_leadsTo cX3_leadsTo 2 (some .boolean), Cond.methodLink RX2 62 yX3_leadsTo, Cond.instanceMethod yX3_leadsTo, Cond.selects RX3 yX3_leadsTo yX3_leadsTo, Cond.initialized RX3, Cond.selects RX4 ⟨"MistHeaps$Heap", "leadsTo", "(I)Z"⟩ yX3_leadsTo, Cond.selects RX6 ⟨"MistHeaps$Heap", "leadsTo", "(I)Z"⟩ yX3_leadsTo, Cond.selects RX7 ⟨"MistHeaps$Heap", "leadsTo", "(I)Z"⟩ yX1_leadsTo, Cond.selects RX9 ⟨"MistHeaps$Heap", "leadsTo", "(I)Z"⟩ yX3_leadsTo, Cond.selects RX10 ⟨"MistHeaps$Heap", "leadsTo", "(I)Z"⟩ yX10_leadsTo, Cond.instanceMethod yX10_leadsTo, Cond.initialized RX10, Cond.code yX10_leadsTo cX10_leadsTo 3 (some .boolean), Cond.fieldLink RX10 9 "MistHeaps$Turning" "v" "I", Cond.sameField "MistHeaps$Turning" "MistHeaps$Heap" "v" "I", Cond.fieldLink RX10 23 "MistHeaps$Turning" "cell" "I", Cond.sameField "MistHeaps$Turning" "MistHeaps$Heap" "cell" "I", Cond.methodLink RX10 26 yX10_isOnSide, Cond.static yX10_isOnSide, Cond.code yX10_isOnSide cX10_isOnSide 2 (some .boolean)]
def wsX2_tellGoing : List Cond := .code yX2_tellGoing cX2_tellGoing 5 none :: ((wsX2_tellGoing_r1 ++ wsX2_tellGoing_r2) ++ wsX10 ++ wsX30 ++ wsX40 ++ wsX60 ++ wsX70 ++ wsX90 ++ wsX100 ++ wsX20)
def wsX2_link_r1 : List Cond := [Cond.fieldLink RX2 27 "MistHeaps$Scene" "heapCount" "I", Cond.fieldLink RX2 52 "MistHeaps$Goings" "linked" "I", Cond.fieldLink RX2 15 "MistHeaps$Goings" "onward" "[I", Cond.fieldLink RX2 33 "MistHeaps$Scene" "heaps" "[LMistHeaps$Heap;", Cond.methodLink RX2 48 yX2_measure, Cond.instanceMethod yX2_measure, Cond.selects RX2 yX2_measure yX2_measure, Cond.initialized RX2, Cond.code yX2_measure cX2_measure 4 none, Cond.fieldLink RX2 9 "MistHeaps$Goings" "reach" "[I", Cond.methodLink RX2 37 yX8_reachOf, Cond.instanceMethod yX8_reachOf, Cond.selects RX8 yX8_reachOf yX8_reachOf, Cond.initialized RX8, Cond.code yX8_reachOf cX8_reachOf 4 (some .int), Cond.fieldLink RX8 76 "MistHeaps$Heap" "number" "I", Cond.fieldLink RX8 79 "MistHeaps$Heap" "kind" "I", Cond.fieldLink RX8 73 "MistHeaps$Heap" "cell" "I", Cond.fieldLink RX8 18 "MistHeaps$Scene" "hill" "LMistHeaps$Hill;", Cond.fieldLink RX8 86 "MistHeaps$Hill" "sight" "I", Cond.fieldLink RX8 34 "MistHeaps$Scene" "facts" "[I", Cond.fieldLink RX8 54 "MistHeaps$Scene" "mist" "I", Cond.methodLink RX8 82 yX8_tellFacts, Cond.instanceMethod yX8_tellFacts]
def wsX2_link_r2 : List Cond := [Cond.selects RX8 yX8_tellFacts yX8_tellFacts, Cond.code yX8_tellFacts cX8_tellFacts 5 none, Cond.static yX11_rowOf, Cond.initialized RX11, Cond.code yX11_rowOf cX11_rowOf 1 (some .int), Cond.static yX11_columnOf, Cond.code yX11_columnOf cX11_columnOf 1 (some .int), Cond.methodLink RX8 89 yX5_total, Cond.instanceMethod yX5_total, Cond.selects RX5 yX5_total yX5_total, Cond.initialized RX5, Cond.code yX5_total cX5_total 5 (some .int), Cond.fieldLink RX5 59 "MistHeaps$Hill" "clauses" "I", Cond.fieldLink RX5 15 "MistHeaps$Hill" "words" "[I", Cond.fieldLink RX5 19 "MistHeaps$Hill" "amounts" "[I", Cond.methodLink RX5 120 yX5_holds, Cond.instanceMethod yX5_holds, Cond.selects RX5 yX5_holds yX5_holds, Cond.code yX5_holds cX5_holds 7 (some .boolean), Cond.fieldLink RX5 22 "MistHeaps$Hill" "ends" "[I", Cond.fieldLink RX5 25 "MistHeaps$Hill" "codes" "[I", Cond.methodLink RX5 124 yX5_isSo, Cond.static yX5_isSo, Cond.code yX5_isSo cX5_isSo 4 (some .boolean)]
def wsX2_link_r3 : List Cond := [Cond.methodLink RX8 93 ⟨"MistHeaps$Heap", "reachBy", "(II)I"⟩, Cond.sameMethod "MistHeaps$Heap" "MistHeaps$Heap" "reachBy" "(II)I", Cond.selects RX1 ⟨"MistHeaps$Heap", "reachBy", "(II)I"⟩ yX3_reachBy, Cond.instanceMethod yX3_reachBy, Cond.initialized RX3, Cond.code yX3_reachBy cX3_reachBy 3 (some .int), Cond.methodLink RX3 28 Lib.Math.max.name, Cond.static Lib.Math.max.name, Cond.initialized "java/lang/Math", Cond.code Lib.Math.max.name Lib.Math.max.code 2 (some .int), Cond.methodLink RX8 93 yX3_reachBy, Cond.selects RX3 yX3_reachBy yX3_reachBy, Cond.instanceMethod ⟨"MistHeaps$Heap", "reachBy", "(II)I"⟩, Cond.selects RX4 ⟨"MistHeaps$Heap", "reachBy", "(II)I"⟩ yX4_reachBy, Cond.instanceMethod yX4_reachBy, Cond.initialized RX4, Cond.code yX4_reachBy cX4_reachBy 3 (some .int), Cond.fieldLink RX4 7 "MistHeaps$High" "v" "I", Cond.sameField "MistHeaps$High" "MistHeaps$Heap" "v" "I", Cond.methodLink RX4 13 yX3_reachBy, Cond.superclass RX4 RX3, Cond.selects RX6 ⟨"MistHeaps$Heap", "reachBy", "(II)I"⟩ yX6_reachBy, Cond.instanceMethod yX6_reachBy, Cond.initialized RX6]
def wsX2_link_r4 : List Cond := [Cond.code yX6_reachBy cX6_reachBy 3 (some .int), Cond.methodLink RX6 7 yX3_reachBy, Cond.superclass RX6 RX3, Cond.selects RX7 ⟨"MistHeaps$Heap", "reachBy", "(II)I"⟩ yX7_reachBy, Cond.instanceMethod yX7_reachBy, Cond.initialized RX7, Cond.code yX7_reachBy cX7_reachBy 3 (some .int), Cond.methodLink RX7 11 Lib.Math.min.name, Cond.static Lib.Math.min.name, Cond.code Lib.Math.min.name Lib.Math.min.code 2 (some .int), Cond.selects RX9 ⟨"MistHeaps$Heap", "reachBy", "(II)I"⟩ yX9_reachBy, Cond.instanceMethod yX9_reachBy, Cond.initialized RX9, Cond.code yX9_reachBy cX9_reachBy 3 (some .int), Cond.fieldLink RX9 7 "MistHeaps$Snowed" "v" "I", Cond.sameField "MistHeaps$Snowed" "MistHeaps$Heap" "v" "I", Cond.methodLink RX9 13 yX6_reachBy, Cond.sameMethod "MistHeaps$Low" "MistHeaps$Low" "reachBy" "(II)I", Cond.superclass RX9 RX6, Cond.selects RX10 ⟨"MistHeaps$Heap", "reachBy", "(II)I"⟩ yX4_reachBy, Cond.methodLink RX2 55 yX2_tellGoing, Cond.instanceMethod yX2_tellGoing, Cond.selects RX2 yX2_tellGoing yX2_tellGoing, Cond.code yX2_tellGoing cX2_tellGoing 5 none]
def wsX2_link_r5 : List Cond := [Cond.fieldLink RX2 59 "MistHeaps$Heap" "number" "I", Cond.fieldLink RX2 41 "MistHeaps$Heap" "cell" "I", Cond.static yX11_apart, Cond.code yX11_apart cX11_apart 2 (some .int), Cond.methodLink RX11 263 Lib.Math.abs.name, Cond.static Lib.Math.abs.name, Cond.code Lib.Math.abs.name Lib.Math.abs.code 1 (some .int), Cond.methodLink RX11 204 Lib.Math.max.name, Cond.methodLink RX11 212 yX11_rowOf, Cond.methodLink RX11 215 yX11_columnOf, Cond.methodLink RX2 62 ⟨"MistHeaps$Heap", "leadsTo", "(I)Z"⟩, Cond.sameMethod "MistHeaps$Heap" "MistHeaps$Heap" "leadsTo" "(I)Z", Cond.instanceMethod ⟨"MistHeaps$Heap", "leadsTo", "(I)Z"⟩, Cond.selects RX1 ⟨"MistHeaps$Heap", "leadsTo", "(I)Z"⟩ yX1_leadsTo, Cond.instanceMethod yX1_leadsTo, Cond.initialized RX1, Cond.code yX1_leadsTo cX1_leadsTo 2 (some .boolean), Cond.code yX3_leadsTo cX3_leadsTo 2 (some .boolean), Cond.methodLink RX2 62 yX3_leadsTo, Cond.instanceMethod yX3_leadsTo, Cond.selects RX3 yX3_leadsTo yX3_leadsTo, Cond.selects RX4 ⟨"MistHeaps$Heap", "leadsTo", "(I)Z"⟩ yX3_leadsTo, Cond.selects RX6 ⟨"MistHeaps$Heap", "leadsTo", "(I)Z"⟩ yX3_leadsTo, Cond.selects RX7 ⟨"MistHeaps$Heap", "leadsTo", "(I)Z"⟩ yX1_leadsTo]
def wsX2_link_r6 : List Cond := [Cond.selects RX9 ⟨"MistHeaps$Heap", "leadsTo", "(I)Z"⟩ yX3_leadsTo, Cond.selects RX10 ⟨"MistHeaps$Heap", "leadsTo", "(I)Z"⟩ yX10_leadsTo, Cond.instanceMethod yX10_leadsTo, Cond.initialized RX10, Cond.code yX10_leadsTo cX10_leadsTo 3 (some .boolean), Cond.fieldLink RX10 9 "MistHeaps$Turning" "v" "I", Cond.sameField "MistHeaps$Turning" "MistHeaps$Heap" "v" "I", Cond.fieldLink RX10 23 "MistHeaps$Turning" "cell" "I", Cond.sameField "MistHeaps$Turning" "MistHeaps$Heap" "cell" "I", Cond.methodLink RX10 26 yX10_isOnSide, Cond.static yX10_isOnSide, Cond.code yX10_isOnSide cX10_isOnSide 2 (some .boolean)]
def wsX2_link : List Cond := .code yX2_link cX2_link 5 none :: ((wsX2_link_r1 ++ (wsX2_link_r2 ++ (wsX2_link_r3 ++ (wsX2_link_r4 ++ (wsX2_link_r5 ++ wsX2_link_r6))))) ++ wsX80 ++ wsX20 ++ wsX10 ++ wsX30 ++ wsX40 ++ wsX60 ++ wsX70 ++ wsX90 ++ wsX100 ++ wsX50)
def wsX2_isGoing : List Cond := .code yX2_isGoing cX2_isGoing 3 (some .boolean) :: ([.fieldLink RX2 15 "MistHeaps$Goings" "onward" "[I"] ++ wsX20)
def wsX2_onwardFrom : List Cond := .code yX2_onwardFrom cX2_onwardFrom 4 (some .int) :: ([.fieldLink RX2 52 "MistHeaps$Goings" "linked" "I", .fieldLink RX2 15 "MistHeaps$Goings" "onward" "[I"] ++ wsX20)
def wsX2_fewest : List Cond := .code yX2_fewest cX2_fewest 7 (some .int) :: ([.methodLink RX2 66 yX2_onwardFrom, .instanceMethod yX2_onwardFrom, .selects RX2 yX2_onwardFrom yX2_onwardFrom, .initialized RX2, .code yX2_onwardFrom cX2_onwardFrom 4 (some .int), .fieldLink RX2 52 "MistHeaps$Goings" "linked" "I", .fieldLink RX2 15 "MistHeaps$Goings" "onward" "[I"] ++ wsX20)
def wsX2_first : List Cond := .code yX2_first cX2_first 5 (some .int) :: ([.fieldLink RX2 52 "MistHeaps$Goings" "linked" "I", .methodLink RX2 70 yX2_fewest, .instanceMethod yX2_fewest, .selects RX2 yX2_fewest yX2_fewest, .initialized RX2, .code yX2_fewest cX2_fewest 7 (some .int), .methodLink RX2 66 yX2_onwardFrom, .instanceMethod yX2_onwardFrom, .selects RX2 yX2_onwardFrom yX2_onwardFrom, .code yX2_onwardFrom cX2_onwardFrom 4 (some .int), .fieldLink RX2 15 "MistHeaps$Goings" "onward" "[I", .methodLink RX2 74 yX2_isGoing, .instanceMethod yX2_isGoing, .selects RX2 yX2_isGoing yX2_isGoing, .code yX2_isGoing cX2_isGoing 3 (some .boolean)] ++ wsX20)
def wsX2_breaks : List Cond := .code yX2_breaks cX2_breaks 5 (some .int) :: ([.fieldLink RX2 52 "MistHeaps$Goings" "linked" "I", .methodLink RX2 70 yX2_fewest, .instanceMethod yX2_fewest, .selects RX2 yX2_fewest yX2_fewest, .initialized RX2, .code yX2_fewest cX2_fewest 7 (some .int), .methodLink RX2 66 yX2_onwardFrom, .instanceMethod yX2_onwardFrom, .selects RX2 yX2_onwardFrom yX2_onwardFrom, .code yX2_onwardFrom cX2_onwardFrom 4 (some .int), .fieldLink RX2 15 "MistHeaps$Goings" "onward" "[I"] ++ wsX20)
def wsX8_isTaken : List Cond := .code yX8_isTaken cX8_isTaken 3 (some .boolean) :: ([.fieldLink RX8 60 "MistHeaps$Scene" "heapCount" "I", .fieldLink RX8 24 "MistHeaps$Scene" "heaps" "[LMistHeaps$Heap;", .fieldLink RX8 73 "MistHeaps$Heap" "cell" "I"] ++ wsX80 ++ wsX10 ++ wsX30 ++ wsX40 ++ wsX60 ++ wsX70 ++ wsX90 ++ wsX100)
def wsX2_join_r1 : List Cond := [Cond.fieldLink RX2 27 "MistHeaps$Scene" "heapCount" "I", Cond.fieldLink RX2 23 "MistHeaps$Goings" "spare" "LMistHeaps$Heap;", Cond.fieldLink RX2 59 "MistHeaps$Heap" "number" "I", Cond.fieldLink RX2 41 "MistHeaps$Heap" "cell" "I", Cond.fieldLink RX2 9 "MistHeaps$Goings" "reach" "[I", Cond.fieldLink RX2 78 "MistHeaps$Scene" "snow" "I", Cond.fieldLink RX2 52 "MistHeaps$Goings" "linked" "I", Cond.fieldLink RX2 33 "MistHeaps$Scene" "heaps" "[LMistHeaps$Heap;", Cond.methodLink RX2 37 yX8_reachOf, Cond.instanceMethod yX8_reachOf, Cond.selects RX8 yX8_reachOf yX8_reachOf, Cond.initialized RX8, Cond.code yX8_reachOf cX8_reachOf 4 (some .int), Cond.fieldLink RX8 76 "MistHeaps$Heap" "number" "I", Cond.fieldLink RX8 79 "MistHeaps$Heap" "kind" "I", Cond.fieldLink RX8 73 "MistHeaps$Heap" "cell" "I", Cond.fieldLink RX8 18 "MistHeaps$Scene" "hill" "LMistHeaps$Hill;", Cond.fieldLink RX8 86 "MistHeaps$Hill" "sight" "I", Cond.fieldLink RX8 34 "MistHeaps$Scene" "facts" "[I", Cond.fieldLink RX8 54 "MistHeaps$Scene" "mist" "I", Cond.methodLink RX8 82 yX8_tellFacts, Cond.instanceMethod yX8_tellFacts, Cond.selects RX8 yX8_tellFacts yX8_tellFacts, Cond.code yX8_tellFacts cX8_tellFacts 5 none]
def wsX2_join_r2 : List Cond := [Cond.static yX11_rowOf, Cond.initialized RX11, Cond.code yX11_rowOf cX11_rowOf 1 (some .int), Cond.static yX11_columnOf, Cond.code yX11_columnOf cX11_columnOf 1 (some .int), Cond.methodLink RX8 89 yX5_total, Cond.instanceMethod yX5_total, Cond.selects RX5 yX5_total yX5_total, Cond.initialized RX5, Cond.code yX5_total cX5_total 5 (some .int), Cond.fieldLink RX5 59 "MistHeaps$Hill" "clauses" "I", Cond.fieldLink RX5 15 "MistHeaps$Hill" "words" "[I", Cond.fieldLink RX5 19 "MistHeaps$Hill" "amounts" "[I", Cond.methodLink RX5 120 yX5_holds, Cond.instanceMethod yX5_holds, Cond.selects RX5 yX5_holds yX5_holds, Cond.code yX5_holds cX5_holds 7 (some .boolean), Cond.fieldLink RX5 22 "MistHeaps$Hill" "ends" "[I", Cond.fieldLink RX5 25 "MistHeaps$Hill" "codes" "[I", Cond.methodLink RX5 124 yX5_isSo, Cond.static yX5_isSo, Cond.code yX5_isSo cX5_isSo 4 (some .boolean), Cond.methodLink RX8 93 ⟨"MistHeaps$Heap", "reachBy", "(II)I"⟩, Cond.sameMethod "MistHeaps$Heap" "MistHeaps$Heap" "reachBy" "(II)I"]
def wsX2_join_r3 : List Cond := [Cond.selects RX1 ⟨"MistHeaps$Heap", "reachBy", "(II)I"⟩ yX3_reachBy, Cond.instanceMethod yX3_reachBy, Cond.initialized RX3, Cond.code yX3_reachBy cX3_reachBy 3 (some .int), Cond.methodLink RX3 28 Lib.Math.max.name, Cond.static Lib.Math.max.name, Cond.initialized "java/lang/Math", Cond.code Lib.Math.max.name Lib.Math.max.code 2 (some .int), Cond.methodLink RX8 93 yX3_reachBy, Cond.selects RX3 yX3_reachBy yX3_reachBy, Cond.instanceMethod ⟨"MistHeaps$Heap", "reachBy", "(II)I"⟩, Cond.selects RX4 ⟨"MistHeaps$Heap", "reachBy", "(II)I"⟩ yX4_reachBy, Cond.instanceMethod yX4_reachBy, Cond.initialized RX4, Cond.code yX4_reachBy cX4_reachBy 3 (some .int), Cond.fieldLink RX4 7 "MistHeaps$High" "v" "I", Cond.sameField "MistHeaps$High" "MistHeaps$Heap" "v" "I", Cond.methodLink RX4 13 yX3_reachBy, Cond.superclass RX4 RX3, Cond.selects RX6 ⟨"MistHeaps$Heap", "reachBy", "(II)I"⟩ yX6_reachBy, Cond.instanceMethod yX6_reachBy, Cond.initialized RX6, Cond.code yX6_reachBy cX6_reachBy 3 (some .int), Cond.methodLink RX6 7 yX3_reachBy]
def wsX2_join_r4 : List Cond := [Cond.superclass RX6 RX3, Cond.selects RX7 ⟨"MistHeaps$Heap", "reachBy", "(II)I"⟩ yX7_reachBy, Cond.instanceMethod yX7_reachBy, Cond.initialized RX7, Cond.code yX7_reachBy cX7_reachBy 3 (some .int), Cond.methodLink RX7 11 Lib.Math.min.name, Cond.static Lib.Math.min.name, Cond.code Lib.Math.min.name Lib.Math.min.code 2 (some .int), Cond.selects RX9 ⟨"MistHeaps$Heap", "reachBy", "(II)I"⟩ yX9_reachBy, Cond.instanceMethod yX9_reachBy, Cond.initialized RX9, Cond.code yX9_reachBy cX9_reachBy 3 (some .int), Cond.fieldLink RX9 7 "MistHeaps$Snowed" "v" "I", Cond.sameField "MistHeaps$Snowed" "MistHeaps$Heap" "v" "I", Cond.methodLink RX9 13 yX6_reachBy, Cond.sameMethod "MistHeaps$Low" "MistHeaps$Low" "reachBy" "(II)I", Cond.superclass RX9 RX6, Cond.selects RX10 ⟨"MistHeaps$Heap", "reachBy", "(II)I"⟩ yX4_reachBy, Cond.methodLink RX2 55 yX2_tellGoing, Cond.instanceMethod yX2_tellGoing, Cond.selects RX2 yX2_tellGoing yX2_tellGoing, Cond.initialized RX2, Cond.code yX2_tellGoing cX2_tellGoing 5 none, Cond.fieldLink RX2 15 "MistHeaps$Goings" "onward" "[I"]
def wsX2_join_r5 : List Cond := [Cond.static yX11_apart, Cond.code yX11_apart cX11_apart 2 (some .int), Cond.methodLink RX11 263 Lib.Math.abs.name, Cond.static Lib.Math.abs.name, Cond.code Lib.Math.abs.name Lib.Math.abs.code 1 (some .int), Cond.methodLink RX11 204 Lib.Math.max.name, Cond.methodLink RX11 212 yX11_rowOf, Cond.methodLink RX11 215 yX11_columnOf, Cond.methodLink RX2 62 ⟨"MistHeaps$Heap", "leadsTo", "(I)Z"⟩, Cond.sameMethod "MistHeaps$Heap" "MistHeaps$Heap" "leadsTo" "(I)Z", Cond.instanceMethod ⟨"MistHeaps$Heap", "leadsTo", "(I)Z"⟩, Cond.selects RX1 ⟨"MistHeaps$Heap", "leadsTo", "(I)Z"⟩ yX1_leadsTo, Cond.instanceMethod yX1_leadsTo, Cond.initialized RX1, Cond.code yX1_leadsTo cX1_leadsTo 2 (some .boolean), Cond.code yX3_leadsTo cX3_leadsTo 2 (some .boolean), Cond.methodLink RX2 62 yX3_leadsTo, Cond.instanceMethod yX3_leadsTo, Cond.selects RX3 yX3_leadsTo yX3_leadsTo, Cond.selects RX4 ⟨"MistHeaps$Heap", "leadsTo", "(I)Z"⟩ yX3_leadsTo, Cond.selects RX6 ⟨"MistHeaps$Heap", "leadsTo", "(I)Z"⟩ yX3_leadsTo, Cond.selects RX7 ⟨"MistHeaps$Heap", "leadsTo", "(I)Z"⟩ yX1_leadsTo, Cond.selects RX9 ⟨"MistHeaps$Heap", "leadsTo", "(I)Z"⟩ yX3_leadsTo, Cond.selects RX10 ⟨"MistHeaps$Heap", "leadsTo", "(I)Z"⟩ yX10_leadsTo]
def wsX2_join_r6 : List Cond := [Cond.instanceMethod yX10_leadsTo, Cond.initialized RX10, Cond.code yX10_leadsTo cX10_leadsTo 3 (some .boolean), Cond.fieldLink RX10 9 "MistHeaps$Turning" "v" "I", Cond.sameField "MistHeaps$Turning" "MistHeaps$Heap" "v" "I", Cond.fieldLink RX10 23 "MistHeaps$Turning" "cell" "I", Cond.sameField "MistHeaps$Turning" "MistHeaps$Heap" "cell" "I", Cond.methodLink RX10 26 yX10_isOnSide, Cond.static yX10_isOnSide, Cond.code yX10_isOnSide cX10_isOnSide 2 (some .boolean)]
def wsX2_join : List Cond := .code yX2_join cX2_join 5 none :: ((wsX2_join_r1 ++ (wsX2_join_r2 ++ (wsX2_join_r3 ++ (wsX2_join_r4 ++ (wsX2_join_r5 ++ wsX2_join_r6))))) ++ wsX80 ++ wsX20 ++ wsX10 ++ wsX30 ++ wsX40 ++ wsX60 ++ wsX70 ++ wsX90 ++ wsX100 ++ wsX50)
def wsX2_bestCell_r1 : List Cond := [Cond.fieldLink RX2 27 "MistHeaps$Scene" "heapCount" "I", Cond.fieldLink RX2 78 "MistHeaps$Scene" "snow" "I", Cond.methodLink RX2 81 yX2_link, Cond.instanceMethod yX2_link, Cond.selects RX2 yX2_link yX2_link, Cond.initialized RX2, Cond.code yX2_link cX2_link 5 none, Cond.fieldLink RX2 52 "MistHeaps$Goings" "linked" "I", Cond.fieldLink RX2 15 "MistHeaps$Goings" "onward" "[I", Cond.fieldLink RX2 33 "MistHeaps$Scene" "heaps" "[LMistHeaps$Heap;", Cond.methodLink RX2 48 yX2_measure, Cond.instanceMethod yX2_measure, Cond.selects RX2 yX2_measure yX2_measure, Cond.code yX2_measure cX2_measure 4 none, Cond.fieldLink RX2 9 "MistHeaps$Goings" "reach" "[I", Cond.methodLink RX2 37 yX8_reachOf, Cond.instanceMethod yX8_reachOf, Cond.selects RX8 yX8_reachOf yX8_reachOf, Cond.initialized RX8, Cond.code yX8_reachOf cX8_reachOf 4 (some .int), Cond.fieldLink RX8 76 "MistHeaps$Heap" "number" "I", Cond.fieldLink RX8 79 "MistHeaps$Heap" "kind" "I", Cond.fieldLink RX8 73 "MistHeaps$Heap" "cell" "I", Cond.fieldLink RX8 18 "MistHeaps$Scene" "hill" "LMistHeaps$Hill;"]
def wsX2_bestCell_r2 : List Cond := [Cond.fieldLink RX8 86 "MistHeaps$Hill" "sight" "I", Cond.fieldLink RX8 34 "MistHeaps$Scene" "facts" "[I", Cond.fieldLink RX8 54 "MistHeaps$Scene" "mist" "I", Cond.methodLink RX8 82 yX8_tellFacts, Cond.instanceMethod yX8_tellFacts, Cond.selects RX8 yX8_tellFacts yX8_tellFacts, Cond.code yX8_tellFacts cX8_tellFacts 5 none, Cond.static yX11_rowOf, Cond.initialized RX11, Cond.code yX11_rowOf cX11_rowOf 1 (some .int), Cond.static yX11_columnOf, Cond.code yX11_columnOf cX11_columnOf 1 (some .int), Cond.methodLink RX8 89 yX5_total, Cond.instanceMethod yX5_total, Cond.selects RX5 yX5_total yX5_total, Cond.initialized RX5, Cond.code yX5_total cX5_total 5 (some .int), Cond.fieldLink RX5 59 "MistHeaps$Hill" "clauses" "I", Cond.fieldLink RX5 15 "MistHeaps$Hill" "words" "[I", Cond.fieldLink RX5 19 "MistHeaps$Hill" "amounts" "[I", Cond.methodLink RX5 120 yX5_holds, Cond.instanceMethod yX5_holds, Cond.selects RX5 yX5_holds yX5_holds, Cond.code yX5_holds cX5_holds 7 (some .boolean)]
def wsX2_bestCell_r3 : List Cond := [Cond.fieldLink RX5 22 "MistHeaps$Hill" "ends" "[I", Cond.fieldLink RX5 25 "MistHeaps$Hill" "codes" "[I", Cond.methodLink RX5 124 yX5_isSo, Cond.static yX5_isSo, Cond.code yX5_isSo cX5_isSo 4 (some .boolean), Cond.methodLink RX8 93 ⟨"MistHeaps$Heap", "reachBy", "(II)I"⟩, Cond.sameMethod "MistHeaps$Heap" "MistHeaps$Heap" "reachBy" "(II)I", Cond.selects RX1 ⟨"MistHeaps$Heap", "reachBy", "(II)I"⟩ yX3_reachBy, Cond.instanceMethod yX3_reachBy, Cond.initialized RX3, Cond.code yX3_reachBy cX3_reachBy 3 (some .int), Cond.methodLink RX3 28 Lib.Math.max.name, Cond.static Lib.Math.max.name, Cond.initialized "java/lang/Math", Cond.code Lib.Math.max.name Lib.Math.max.code 2 (some .int), Cond.methodLink RX8 93 yX3_reachBy, Cond.selects RX3 yX3_reachBy yX3_reachBy, Cond.instanceMethod ⟨"MistHeaps$Heap", "reachBy", "(II)I"⟩, Cond.selects RX4 ⟨"MistHeaps$Heap", "reachBy", "(II)I"⟩ yX4_reachBy, Cond.instanceMethod yX4_reachBy, Cond.initialized RX4, Cond.code yX4_reachBy cX4_reachBy 3 (some .int), Cond.fieldLink RX4 7 "MistHeaps$High" "v" "I", Cond.sameField "MistHeaps$High" "MistHeaps$Heap" "v" "I"]
def wsX2_bestCell_r4 : List Cond := [Cond.methodLink RX4 13 yX3_reachBy, Cond.superclass RX4 RX3, Cond.selects RX6 ⟨"MistHeaps$Heap", "reachBy", "(II)I"⟩ yX6_reachBy, Cond.instanceMethod yX6_reachBy, Cond.initialized RX6, Cond.code yX6_reachBy cX6_reachBy 3 (some .int), Cond.methodLink RX6 7 yX3_reachBy, Cond.superclass RX6 RX3, Cond.selects RX7 ⟨"MistHeaps$Heap", "reachBy", "(II)I"⟩ yX7_reachBy, Cond.instanceMethod yX7_reachBy, Cond.initialized RX7, Cond.code yX7_reachBy cX7_reachBy 3 (some .int), Cond.methodLink RX7 11 Lib.Math.min.name, Cond.static Lib.Math.min.name, Cond.code Lib.Math.min.name Lib.Math.min.code 2 (some .int), Cond.selects RX9 ⟨"MistHeaps$Heap", "reachBy", "(II)I"⟩ yX9_reachBy, Cond.instanceMethod yX9_reachBy, Cond.initialized RX9, Cond.code yX9_reachBy cX9_reachBy 3 (some .int), Cond.fieldLink RX9 7 "MistHeaps$Snowed" "v" "I", Cond.sameField "MistHeaps$Snowed" "MistHeaps$Heap" "v" "I", Cond.methodLink RX9 13 yX6_reachBy, Cond.sameMethod "MistHeaps$Low" "MistHeaps$Low" "reachBy" "(II)I", Cond.superclass RX9 RX6]
def wsX2_bestCell_r5 : List Cond := [Cond.selects RX10 ⟨"MistHeaps$Heap", "reachBy", "(II)I"⟩ yX4_reachBy, Cond.methodLink RX2 55 yX2_tellGoing, Cond.instanceMethod yX2_tellGoing, Cond.selects RX2 yX2_tellGoing yX2_tellGoing, Cond.code yX2_tellGoing cX2_tellGoing 5 none, Cond.fieldLink RX2 59 "MistHeaps$Heap" "number" "I", Cond.fieldLink RX2 41 "MistHeaps$Heap" "cell" "I", Cond.static yX11_apart, Cond.code yX11_apart cX11_apart 2 (some .int), Cond.methodLink RX11 263 Lib.Math.abs.name, Cond.static Lib.Math.abs.name, Cond.code Lib.Math.abs.name Lib.Math.abs.code 1 (some .int), Cond.methodLink RX11 204 Lib.Math.max.name, Cond.methodLink RX11 212 yX11_rowOf, Cond.methodLink RX11 215 yX11_columnOf, Cond.methodLink RX2 62 ⟨"MistHeaps$Heap", "leadsTo", "(I)Z"⟩, Cond.sameMethod "MistHeaps$Heap" "MistHeaps$Heap" "leadsTo" "(I)Z", Cond.instanceMethod ⟨"MistHeaps$Heap", "leadsTo", "(I)Z"⟩, Cond.selects RX1 ⟨"MistHeaps$Heap", "leadsTo", "(I)Z"⟩ yX1_leadsTo, Cond.instanceMethod yX1_leadsTo, Cond.initialized RX1, Cond.code yX1_leadsTo cX1_leadsTo 2 (some .boolean), Cond.code yX3_leadsTo cX3_leadsTo 2 (some .boolean), Cond.methodLink RX2 62 yX3_leadsTo]
def wsX2_bestCell_r6 : List Cond := [Cond.instanceMethod yX3_leadsTo, Cond.selects RX3 yX3_leadsTo yX3_leadsTo, Cond.selects RX4 ⟨"MistHeaps$Heap", "leadsTo", "(I)Z"⟩ yX3_leadsTo, Cond.selects RX6 ⟨"MistHeaps$Heap", "leadsTo", "(I)Z"⟩ yX3_leadsTo, Cond.selects RX7 ⟨"MistHeaps$Heap", "leadsTo", "(I)Z"⟩ yX1_leadsTo, Cond.selects RX9 ⟨"MistHeaps$Heap", "leadsTo", "(I)Z"⟩ yX3_leadsTo, Cond.selects RX10 ⟨"MistHeaps$Heap", "leadsTo", "(I)Z"⟩ yX10_leadsTo, Cond.instanceMethod yX10_leadsTo, Cond.initialized RX10, Cond.code yX10_leadsTo cX10_leadsTo 3 (some .boolean), Cond.fieldLink RX10 9 "MistHeaps$Turning" "v" "I", Cond.sameField "MistHeaps$Turning" "MistHeaps$Heap" "v" "I", Cond.fieldLink RX10 23 "MistHeaps$Turning" "cell" "I", Cond.sameField "MistHeaps$Turning" "MistHeaps$Heap" "cell" "I", Cond.methodLink RX10 26 yX10_isOnSide, Cond.static yX10_isOnSide, Cond.code yX10_isOnSide cX10_isOnSide 2 (some .boolean), Cond.methodLink RX2 70 yX2_fewest, Cond.instanceMethod yX2_fewest, Cond.selects RX2 yX2_fewest yX2_fewest, Cond.code yX2_fewest cX2_fewest 7 (some .int), Cond.methodLink RX2 66 yX2_onwardFrom, Cond.instanceMethod yX2_onwardFrom, Cond.selects RX2 yX2_onwardFrom yX2_onwardFrom]
def wsX2_bestCell_r7 : List Cond := [Cond.code yX2_onwardFrom cX2_onwardFrom 4 (some .int), Cond.methodLink RX2 84 yX8_isTaken, Cond.instanceMethod yX8_isTaken, Cond.selects RX8 yX8_isTaken yX8_isTaken, Cond.code yX8_isTaken cX8_isTaken 3 (some .boolean), Cond.fieldLink RX8 60 "MistHeaps$Scene" "heapCount" "I", Cond.fieldLink RX8 24 "MistHeaps$Scene" "heaps" "[LMistHeaps$Heap;", Cond.methodLink RX2 87 yX2_join, Cond.instanceMethod yX2_join, Cond.selects RX2 yX2_join yX2_join, Cond.code yX2_join cX2_join 5 none, Cond.fieldLink RX2 23 "MistHeaps$Goings" "spare" "LMistHeaps$Heap;"]
def wsX2_bestCell : List Cond := .code yX2_bestCell cX2_bestCell 8 (some .int) :: ((wsX2_bestCell_r1 ++ (wsX2_bestCell_r2 ++ (wsX2_bestCell_r3 ++ (wsX2_bestCell_r4 ++ (wsX2_bestCell_r5 ++ (wsX2_bestCell_r6 ++ wsX2_bestCell_r7)))))) ++ wsX80 ++ wsX20 ++ wsX10 ++ wsX30 ++ wsX40 ++ wsX60 ++ wsX70 ++ wsX90 ++ wsX100 ++ wsX50)
def wsX3_isOfKind : List Cond := .code yX3_isOfKind cX3_isOfKind 4 (some .boolean) :: ([.fieldLink RX3 9 "MistHeaps$Heap" "kind" "I"] ++ wsX10 ++ wsX30 ++ wsX40 ++ wsX60 ++ wsX70 ++ wsX90 ++ wsX100)
def wsX4_init : List Cond := .code yX4_init cX4_init 5 none :: ([.methodLink RX4 1 yX3_init, .instanceMethod yX3_init, .initialized RX3, .code yX3_init cX3_init 5 none, .methodLink RX3 3 objectInit, .instanceMethod objectInit, .code objectInit ⟨#[0xb1]⟩ 1 none, .fieldLink RX3 9 "MistHeaps$Heap" "kind" "I", .fieldLink RX3 15 "MistHeaps$Heap" "number" "I", .fieldLink RX3 18 "MistHeaps$Heap" "v" "I", .fieldLink RX3 21 "MistHeaps$Heap" "cell" "I"] ++ wsX10 ++ wsX30 ++ wsX40 ++ wsX60 ++ wsX70 ++ wsX90 ++ wsX100)
def wsX5_init : List Cond := .code yX5_init cX5_init 1 none :: ([.methodLink RX5 3 objectInit, .instanceMethod objectInit, .code objectInit ⟨#[0xb1]⟩ 1 none, .fieldLink RX5 11 "MistHeaps$Hill" "sight" "I", .arrayClass .int, .fieldLink RX5 15 "MistHeaps$Hill" "words" "[I", .fieldLink RX5 19 "MistHeaps$Hill" "amounts" "[I", .fieldLink RX5 22 "MistHeaps$Hill" "ends" "[I", .fieldLink RX5 25 "MistHeaps$Hill" "codes" "[I"] ++ wsX50)
def wsX5_textOf : List Cond := .code yX5_textOf cX5_textOf 1 (some (.object "java/lang/String")) :: ([])
def wsJ0_coder_7d493 : List Cond := .code yJ0_coder_7d493 cJ0_coder_7d493 1 (some .byte) :: ([.fieldLink RJ0 38 "java/lang/String" "COMPACT_STRINGS" "Z", .fieldLink RJ0 15 "java/lang/String" "coder" "B"])
def wsJ0_length_8abf5 : List Cond := .code yJ0_length_8abf5 cJ0_length_8abf5 1 (some .int) :: ([.fieldLink RJ0 9 "java/lang/String" "value" "[B", .methodLink RJ0 335 yJ0_coder_7d493, .instanceMethod yJ0_coder_7d493, .selects RJ0 yJ0_coder_7d493 yJ0_coder_7d493, .initialized RJ0, .code yJ0_coder_7d493 cJ0_coder_7d493 1 (some .byte), .fieldLink RJ0 38 "java/lang/String" "COMPACT_STRINGS" "Z", .fieldLink RJ0 15 "java/lang/String" "coder" "B"])
def wsJ0_isLatin1_aae02 : List Cond := .code yJ0_isLatin1_aae02 cJ0_isLatin1_aae02 1 (some .boolean) :: ([.fieldLink RJ0 38 "java/lang/String" "COMPACT_STRINGS" "Z", .fieldLink RJ0 15 "java/lang/String" "coder" "B"])
def wsJ3_checkIndex_8e157 : List Cond := .code yJ3_checkIndex_8e157 cJ3_checkIndex_8e157 3 (some .int) :: ([])
def wsJ0_checkIndex_df160 : List Cond := .code yJ0_checkIndex_df160 cJ0_checkIndex_df160 2 none :: ([.fieldLink RJ0 1053 "jdk/internal/util/Preconditions" "SIOOBE_FORMATTER" "Ljava/util/function/BiFunction;", .methodLink RJ0 1059 yJ3_checkIndex_8e157, .static yJ3_checkIndex_8e157, .initialized RJ3, .code yJ3_checkIndex_8e157 cJ3_checkIndex_8e157 3 (some .int)])
def wsJ1_charAt_3b067 : List Cond := .code yJ1_charAt_3b067 cJ1_charAt_3b067 2 (some .char) :: ([.methodLink RJ1 9 yJ0_checkIndex_df160, .static yJ0_checkIndex_df160, .initialized RJ0, .code yJ0_checkIndex_df160 cJ0_checkIndex_df160 2 none, .fieldLink RJ0 1053 "jdk/internal/util/Preconditions" "SIOOBE_FORMATTER" "Ljava/util/function/BiFunction;", .methodLink RJ0 1059 yJ3_checkIndex_8e157, .static yJ3_checkIndex_8e157, .initialized RJ3, .code yJ3_checkIndex_8e157 cJ3_checkIndex_8e157 3 (some .int)])
def wsJ2_length_9d52b : List Cond := .code yJ2_length_9d52b cJ2_length_9d52b 1 (some .int) :: ([])
def wsJ2_checkIndex_2214a : List Cond := .code yJ2_checkIndex_2214a cJ2_checkIndex_2214a 2 none :: ([.methodLink RJ2 48 yJ2_length_9d52b, .static yJ2_length_9d52b, .initialized RJ2, .code yJ2_length_9d52b cJ2_length_9d52b 1 (some .int), .methodLink RJ2 414 yJ0_checkIndex_df160, .static yJ0_checkIndex_df160, .initialized RJ0, .code yJ0_checkIndex_df160 cJ0_checkIndex_df160 2 none, .fieldLink RJ0 1053 "jdk/internal/util/Preconditions" "SIOOBE_FORMATTER" "Ljava/util/function/BiFunction;", .methodLink RJ0 1059 yJ3_checkIndex_8e157, .static yJ3_checkIndex_8e157, .initialized RJ3, .code yJ3_checkIndex_8e157 cJ3_checkIndex_8e157 3 (some .int)])
def wsJ2_getChar_3b067 : List Cond := .code yJ2_getChar_3b067 cJ2_getChar_3b067 2 (some .char) :: ([.fieldLink RJ2 44 "java/lang/StringUTF16" "$assertionsDisabled" "Z", .fieldLink RJ2 59 "java/lang/StringUTF16" "HI_BYTE_SHIFT" "I", .fieldLink RJ2 63 "java/lang/StringUTF16" "LO_BYTE_SHIFT" "I", .methodLink RJ2 48 yJ2_length_9d52b, .static yJ2_length_9d52b, .initialized RJ2, .code yJ2_length_9d52b cJ2_length_9d52b 1 (some .int)])
def wsJ2_charAt_3b067 : List Cond := .code yJ2_charAt_3b067 cJ2_charAt_3b067 2 (some .char) :: ([.methodLink RJ2 67 yJ2_checkIndex_2214a, .static yJ2_checkIndex_2214a, .initialized RJ2, .code yJ2_checkIndex_2214a cJ2_checkIndex_2214a 2 none, .methodLink RJ2 48 yJ2_length_9d52b, .static yJ2_length_9d52b, .code yJ2_length_9d52b cJ2_length_9d52b 1 (some .int), .methodLink RJ2 414 yJ0_checkIndex_df160, .static yJ0_checkIndex_df160, .initialized RJ0, .code yJ0_checkIndex_df160 cJ0_checkIndex_df160 2 none, .fieldLink RJ0 1053 "jdk/internal/util/Preconditions" "SIOOBE_FORMATTER" "Ljava/util/function/BiFunction;", .methodLink RJ0 1059 yJ3_checkIndex_8e157, .static yJ3_checkIndex_8e157, .initialized RJ3, .code yJ3_checkIndex_8e157 cJ3_checkIndex_8e157 3 (some .int), .methodLink RJ2 71 yJ2_getChar_3b067, .static yJ2_getChar_3b067, .code yJ2_getChar_3b067 cJ2_getChar_3b067 2 (some .char), .fieldLink RJ2 44 "java/lang/StringUTF16" "$assertionsDisabled" "Z", .fieldLink RJ2 59 "java/lang/StringUTF16" "HI_BYTE_SHIFT" "I", .fieldLink RJ2 63 "java/lang/StringUTF16" "LO_BYTE_SHIFT" "I"])
def wsJ0_charAt_5068e_r1 : List Cond := [Cond.fieldLink RJ0 9 "java/lang/String" "value" "[B", Cond.methodLink RJ0 492 yJ0_isLatin1_aae02, Cond.instanceMethod yJ0_isLatin1_aae02, Cond.selects RJ0 yJ0_isLatin1_aae02 yJ0_isLatin1_aae02, Cond.initialized RJ0, Cond.code yJ0_isLatin1_aae02 cJ0_isLatin1_aae02 1 (some .boolean), Cond.fieldLink RJ0 38 "java/lang/String" "COMPACT_STRINGS" "Z", Cond.fieldLink RJ0 15 "java/lang/String" "coder" "B", Cond.methodLink RJ0 495 yJ1_charAt_3b067, Cond.static yJ1_charAt_3b067, Cond.initialized RJ1, Cond.code yJ1_charAt_3b067 cJ1_charAt_3b067 2 (some .char), Cond.methodLink RJ1 9 yJ0_checkIndex_df160, Cond.static yJ0_checkIndex_df160, Cond.code yJ0_checkIndex_df160 cJ0_checkIndex_df160 2 none, Cond.fieldLink RJ0 1053 "jdk/internal/util/Preconditions" "SIOOBE_FORMATTER" "Ljava/util/function/BiFunction;", Cond.methodLink RJ0 1059 yJ3_checkIndex_8e157, Cond.static yJ3_checkIndex_8e157, Cond.initialized RJ3, Cond.code yJ3_checkIndex_8e157 cJ3_checkIndex_8e157 3 (some .int), Cond.methodLink RJ0 498 yJ2_charAt_3b067, Cond.static yJ2_charAt_3b067, Cond.initialized RJ2, Cond.code yJ2_charAt_3b067 cJ2_charAt_3b067 2 (some .char)]
def wsJ0_charAt_5068e_r2 : List Cond := [Cond.methodLink RJ2 67 yJ2_checkIndex_2214a, Cond.static yJ2_checkIndex_2214a, Cond.code yJ2_checkIndex_2214a cJ2_checkIndex_2214a 2 none, Cond.methodLink RJ2 48 yJ2_length_9d52b, Cond.static yJ2_length_9d52b, Cond.code yJ2_length_9d52b cJ2_length_9d52b 1 (some .int), Cond.methodLink RJ2 414 yJ0_checkIndex_df160, Cond.methodLink RJ2 71 yJ2_getChar_3b067, Cond.static yJ2_getChar_3b067, Cond.code yJ2_getChar_3b067 cJ2_getChar_3b067 2 (some .char), Cond.fieldLink RJ2 44 "java/lang/StringUTF16" "$assertionsDisabled" "Z", Cond.fieldLink RJ2 59 "java/lang/StringUTF16" "HI_BYTE_SHIFT" "I", Cond.fieldLink RJ2 63 "java/lang/StringUTF16" "LO_BYTE_SHIFT" "I"]
def wsJ0_charAt_5068e : List Cond := .code yJ0_charAt_5068e cJ0_charAt_5068e 2 (some .char) :: ((wsJ0_charAt_5068e_r1 ++ wsJ0_charAt_5068e_r2))
def wsX5_sameSigns_r1 : List Cond := [Cond.fieldLink RX5 34 "MistHeaps$Hill" "at" "I", Cond.fieldLink RX5 31 "MistHeaps$Hill" "size" "I", Cond.fieldLink RX5 28 "MistHeaps$Hill" "tape" "[I", Cond.methodLink RX5 76 yJ0_length_8abf5, Cond.instanceMethod yJ0_length_8abf5, Cond.selects RJ0 yJ0_length_8abf5 yJ0_length_8abf5, Cond.initialized RJ0, Cond.code yJ0_length_8abf5 cJ0_length_8abf5 1 (some .int), Cond.fieldLink RJ0 9 "java/lang/String" "value" "[B", Cond.methodLink RJ0 335 yJ0_coder_7d493, Cond.instanceMethod yJ0_coder_7d493, Cond.selects RJ0 yJ0_coder_7d493 yJ0_coder_7d493, Cond.code yJ0_coder_7d493 cJ0_coder_7d493 1 (some .byte), Cond.fieldLink RJ0 38 "java/lang/String" "COMPACT_STRINGS" "Z", Cond.fieldLink RJ0 15 "java/lang/String" "coder" "B", Cond.methodLink RX5 89 yJ0_charAt_5068e, Cond.instanceMethod yJ0_charAt_5068e, Cond.selects RJ0 yJ0_charAt_5068e yJ0_charAt_5068e, Cond.code yJ0_charAt_5068e cJ0_charAt_5068e 2 (some .char), Cond.methodLink RJ0 492 yJ0_isLatin1_aae02, Cond.instanceMethod yJ0_isLatin1_aae02, Cond.selects RJ0 yJ0_isLatin1_aae02 yJ0_isLatin1_aae02, Cond.code yJ0_isLatin1_aae02 cJ0_isLatin1_aae02 1 (some .boolean), Cond.methodLink RJ0 495 yJ1_charAt_3b067]
def wsX5_sameSigns_r2 : List Cond := [Cond.static yJ1_charAt_3b067, Cond.initialized RJ1, Cond.code yJ1_charAt_3b067 cJ1_charAt_3b067 2 (some .char), Cond.methodLink RJ1 9 yJ0_checkIndex_df160, Cond.static yJ0_checkIndex_df160, Cond.code yJ0_checkIndex_df160 cJ0_checkIndex_df160 2 none, Cond.fieldLink RJ0 1053 "jdk/internal/util/Preconditions" "SIOOBE_FORMATTER" "Ljava/util/function/BiFunction;", Cond.methodLink RJ0 1059 yJ3_checkIndex_8e157, Cond.static yJ3_checkIndex_8e157, Cond.initialized RJ3, Cond.code yJ3_checkIndex_8e157 cJ3_checkIndex_8e157 3 (some .int), Cond.methodLink RJ0 498 yJ2_charAt_3b067, Cond.static yJ2_charAt_3b067, Cond.initialized RJ2, Cond.code yJ2_charAt_3b067 cJ2_charAt_3b067 2 (some .char), Cond.methodLink RJ2 67 yJ2_checkIndex_2214a, Cond.static yJ2_checkIndex_2214a, Cond.code yJ2_checkIndex_2214a cJ2_checkIndex_2214a 2 none, Cond.methodLink RJ2 48 yJ2_length_9d52b, Cond.static yJ2_length_9d52b, Cond.code yJ2_length_9d52b cJ2_length_9d52b 1 (some .int), Cond.methodLink RJ2 414 yJ0_checkIndex_df160, Cond.methodLink RJ2 71 yJ2_getChar_3b067, Cond.static yJ2_getChar_3b067]
def wsX5_sameSigns_r3 : List Cond := [Cond.code yJ2_getChar_3b067 cJ2_getChar_3b067 2 (some .char), Cond.fieldLink RJ2 44 "java/lang/StringUTF16" "$assertionsDisabled" "Z", Cond.fieldLink RJ2 59 "java/lang/StringUTF16" "HI_BYTE_SHIFT" "I", Cond.fieldLink RJ2 63 "java/lang/StringUTF16" "LO_BYTE_SHIFT" "I"]
def wsX5_sameSigns : List Cond := .code yX5_sameSigns cX5_sameSigns 3 (some .int) :: ((wsX5_sameSigns_r1 ++ (wsX5_sameSigns_r2 ++ wsX5_sameSigns_r3)) ++ wsX50)
def wsX5_readWord_r1 : List Cond := [Cond.methodLink RX5 70 Lib.Math.max.name, Cond.static Lib.Math.max.name, Cond.initialized "java/lang/Math", Cond.code Lib.Math.max.name Lib.Math.max.code 2 (some .int), Cond.fieldLink RX5 34 "MistHeaps$Hill" "at" "I", Cond.methodLink RX5 62 yX5_textOf, Cond.static yX5_textOf, Cond.initialized RX5, Cond.code yX5_textOf cX5_textOf 1 (some (.object "java/lang/String")), Cond.methodLink RX5 66 yX5_sameSigns, Cond.instanceMethod yX5_sameSigns, Cond.selects RX5 yX5_sameSigns yX5_sameSigns, Cond.code yX5_sameSigns cX5_sameSigns 3 (some .int), Cond.fieldLink RX5 31 "MistHeaps$Hill" "size" "I", Cond.fieldLink RX5 28 "MistHeaps$Hill" "tape" "[I", Cond.methodLink RX5 76 yJ0_length_8abf5, Cond.instanceMethod yJ0_length_8abf5, Cond.selects RJ0 yJ0_length_8abf5 yJ0_length_8abf5, Cond.initialized RJ0, Cond.code yJ0_length_8abf5 cJ0_length_8abf5 1 (some .int), Cond.fieldLink RJ0 9 "java/lang/String" "value" "[B", Cond.methodLink RJ0 335 yJ0_coder_7d493, Cond.instanceMethod yJ0_coder_7d493, Cond.selects RJ0 yJ0_coder_7d493 yJ0_coder_7d493]
def wsX5_readWord_r2 : List Cond := [Cond.code yJ0_coder_7d493 cJ0_coder_7d493 1 (some .byte), Cond.fieldLink RJ0 38 "java/lang/String" "COMPACT_STRINGS" "Z", Cond.fieldLink RJ0 15 "java/lang/String" "coder" "B", Cond.methodLink RX5 89 yJ0_charAt_5068e, Cond.instanceMethod yJ0_charAt_5068e, Cond.selects RJ0 yJ0_charAt_5068e yJ0_charAt_5068e, Cond.code yJ0_charAt_5068e cJ0_charAt_5068e 2 (some .char), Cond.methodLink RJ0 492 yJ0_isLatin1_aae02, Cond.instanceMethod yJ0_isLatin1_aae02, Cond.selects RJ0 yJ0_isLatin1_aae02 yJ0_isLatin1_aae02, Cond.code yJ0_isLatin1_aae02 cJ0_isLatin1_aae02 1 (some .boolean), Cond.methodLink RJ0 495 yJ1_charAt_3b067, Cond.static yJ1_charAt_3b067, Cond.initialized RJ1, Cond.code yJ1_charAt_3b067 cJ1_charAt_3b067 2 (some .char), Cond.methodLink RJ1 9 yJ0_checkIndex_df160, Cond.static yJ0_checkIndex_df160, Cond.code yJ0_checkIndex_df160 cJ0_checkIndex_df160 2 none, Cond.fieldLink RJ0 1053 "jdk/internal/util/Preconditions" "SIOOBE_FORMATTER" "Ljava/util/function/BiFunction;", Cond.methodLink RJ0 1059 yJ3_checkIndex_8e157, Cond.static yJ3_checkIndex_8e157, Cond.initialized RJ3, Cond.code yJ3_checkIndex_8e157 cJ3_checkIndex_8e157 3 (some .int), Cond.methodLink RJ0 498 yJ2_charAt_3b067]
def wsX5_readWord_r3 : List Cond := [Cond.static yJ2_charAt_3b067, Cond.initialized RJ2, Cond.code yJ2_charAt_3b067 cJ2_charAt_3b067 2 (some .char), Cond.methodLink RJ2 67 yJ2_checkIndex_2214a, Cond.static yJ2_checkIndex_2214a, Cond.code yJ2_checkIndex_2214a cJ2_checkIndex_2214a 2 none, Cond.methodLink RJ2 48 yJ2_length_9d52b, Cond.static yJ2_length_9d52b, Cond.code yJ2_length_9d52b cJ2_length_9d52b 1 (some .int), Cond.methodLink RJ2 414 yJ0_checkIndex_df160, Cond.methodLink RJ2 71 yJ2_getChar_3b067, Cond.static yJ2_getChar_3b067, Cond.code yJ2_getChar_3b067 cJ2_getChar_3b067 2 (some .char), Cond.fieldLink RJ2 44 "java/lang/StringUTF16" "$assertionsDisabled" "Z", Cond.fieldLink RJ2 59 "java/lang/StringUTF16" "HI_BYTE_SHIFT" "I", Cond.fieldLink RJ2 63 "java/lang/StringUTF16" "LO_BYTE_SHIFT" "I"]
def wsX5_readWord : List Cond := .code yX5_readWord cX5_readWord 5 (some .int) :: ((wsX5_readWord_r1 ++ (wsX5_readWord_r2 ++ wsX5_readWord_r3)) ++ wsX50)
def wsX5_sign : List Cond := .code yX5_sign cX5_sign 1 (some .int) :: ([.fieldLink RX5 34 "MistHeaps$Hill" "at" "I", .fieldLink RX5 31 "MistHeaps$Hill" "size" "I", .fieldLink RX5 28 "MistHeaps$Hill" "tape" "[I"] ++ wsX50)
def wsX5_isDigit : List Cond := .code yX5_isDigit cX5_isDigit 1 (some .boolean) :: ([])
def wsX5_readNumber : List Cond := .code yX5_readNumber cX5_readNumber 1 (some .boolean) :: ([.fieldLink RX5 48 "MistHeaps$Hill" "number" "I", .fieldLink RX5 34 "MistHeaps$Hill" "at" "I", .methodLink RX5 93 yX5_sign, .instanceMethod yX5_sign, .selects RX5 yX5_sign yX5_sign, .initialized RX5, .code yX5_sign cX5_sign 1 (some .int), .fieldLink RX5 31 "MistHeaps$Hill" "size" "I", .fieldLink RX5 28 "MistHeaps$Hill" "tape" "[I", .methodLink RX5 96 yX5_isDigit, .static yX5_isDigit, .code yX5_isDigit cX5_isDigit 1 (some .boolean)] ++ wsX50)
def wsX5_readSign : List Cond := .code yX5_readSign cX5_readSign 2 (some .boolean) :: ([.fieldLink RX5 34 "MistHeaps$Hill" "at" "I", .methodLink RX5 93 yX5_sign, .instanceMethod yX5_sign, .selects RX5 yX5_sign yX5_sign, .initialized RX5, .code yX5_sign cX5_sign 1 (some .int), .fieldLink RX5 31 "MistHeaps$Hill" "size" "I", .fieldLink RX5 28 "MistHeaps$Hill" "tape" "[I"] ++ wsX50)
def wsX5_code : List Cond := .code yX5_code cX5_code 2 none :: ([.fieldLink RX5 37 "MistHeaps$Hill" "coded" "I", .fieldLink RX5 25 "MistHeaps$Hill" "codes" "[I"] ++ wsX50)
def wsJ1_canEncode_9a6ad : List Cond := .code yJ1_canEncode_9a6ad cJ1_canEncode_9a6ad 1 (some .boolean) :: ([])
def wsJ1_indexOfChar_4cfef : List Cond := .code yJ1_indexOfChar_4cfef cJ1_indexOfChar_4cfef 6 (some .int) :: ([])
def wsJ1_indexOf_4cfef : List Cond := .code yJ1_indexOf_4cfef cJ1_indexOf_4cfef 4 (some .int) :: ([.methodLink RJ1 92 Lib.Math.max.name, .static Lib.Math.max.name, .initialized "java/lang/Math", .code Lib.Math.max.name Lib.Math.max.code 2 (some .int), .methodLink RJ1 38 Lib.Math.min.name, .static Lib.Math.min.name, .code Lib.Math.min.name Lib.Math.min.code 2 (some .int), .methodLink RJ1 88 yJ1_canEncode_9a6ad, .static yJ1_canEncode_9a6ad, .initialized RJ1, .code yJ1_canEncode_9a6ad cJ1_canEncode_9a6ad 1 (some .boolean), .methodLink RJ1 95 yJ1_indexOfChar_4cfef, .static yJ1_indexOfChar_4cfef, .code yJ1_indexOfChar_4cfef cJ1_indexOfChar_4cfef 6 (some .int)])
def wsJ3_checkFromToIndex_8c36e : List Cond := .code yJ3_checkFromToIndex_8c36e cJ3_checkFromToIndex_8c36e 4 (some .int) :: ([])
def wsJ0_checkBoundsBeginEnd_23922 : List Cond := .code yJ0_checkBoundsBeginEnd_23922 cJ0_checkBoundsBeginEnd_23922 3 none :: ([.fieldLink RJ0 1053 "jdk/internal/util/Preconditions" "SIOOBE_FORMATTER" "Ljava/util/function/BiFunction;", .methodLink RJ0 1062 yJ3_checkFromToIndex_8c36e, .static yJ3_checkFromToIndex_8c36e, .initialized RJ3, .code yJ3_checkFromToIndex_8c36e cJ3_checkFromToIndex_8c36e 4 (some .int)])
def wsJ2_checkBoundsBeginEnd_d044e : List Cond := .code yJ2_checkBoundsBeginEnd_d044e cJ2_checkBoundsBeginEnd_d044e 3 none :: ([.methodLink RJ2 48 yJ2_length_9d52b, .static yJ2_length_9d52b, .initialized RJ2, .code yJ2_length_9d52b cJ2_length_9d52b 1 (some .int), .methodLink RJ2 241 yJ0_checkBoundsBeginEnd_23922, .static yJ0_checkBoundsBeginEnd_23922, .initialized RJ0, .code yJ0_checkBoundsBeginEnd_23922 cJ0_checkBoundsBeginEnd_23922 3 none, .fieldLink RJ0 1053 "jdk/internal/util/Preconditions" "SIOOBE_FORMATTER" "Ljava/util/function/BiFunction;", .methodLink RJ0 1062 yJ3_checkFromToIndex_8c36e, .static yJ3_checkFromToIndex_8c36e, .initialized RJ3, .code yJ3_checkFromToIndex_8c36e cJ3_checkFromToIndex_8c36e 4 (some .int)])
def wsJ2_indexOfCharUnsafe_4cfef : List Cond := .code yJ2_indexOfCharUnsafe_4cfef cJ2_indexOfCharUnsafe_4cfef 5 (some .int) :: ([.methodLink RJ2 71 yJ2_getChar_3b067, .static yJ2_getChar_3b067, .initialized RJ2, .code yJ2_getChar_3b067 cJ2_getChar_3b067 2 (some .char), .fieldLink RJ2 44 "java/lang/StringUTF16" "$assertionsDisabled" "Z", .fieldLink RJ2 59 "java/lang/StringUTF16" "HI_BYTE_SHIFT" "I", .fieldLink RJ2 63 "java/lang/StringUTF16" "LO_BYTE_SHIFT" "I", .methodLink RJ2 48 yJ2_length_9d52b, .static yJ2_length_9d52b, .code yJ2_length_9d52b cJ2_length_9d52b 1 (some .int)])
def wsJ2_indexOfChar_4cfef_r1 : List Cond := [Cond.methodLink RJ2 96 yJ2_checkBoundsBeginEnd_d044e, Cond.static yJ2_checkBoundsBeginEnd_d044e, Cond.initialized RJ2, Cond.code yJ2_checkBoundsBeginEnd_d044e cJ2_checkBoundsBeginEnd_d044e 3 none, Cond.methodLink RJ2 48 yJ2_length_9d52b, Cond.static yJ2_length_9d52b, Cond.code yJ2_length_9d52b cJ2_length_9d52b 1 (some .int), Cond.methodLink RJ2 241 yJ0_checkBoundsBeginEnd_23922, Cond.static yJ0_checkBoundsBeginEnd_23922, Cond.initialized RJ0, Cond.code yJ0_checkBoundsBeginEnd_23922 cJ0_checkBoundsBeginEnd_23922 3 none, Cond.fieldLink RJ0 1053 "jdk/internal/util/Preconditions" "SIOOBE_FORMATTER" "Ljava/util/function/BiFunction;", Cond.methodLink RJ0 1062 yJ3_checkFromToIndex_8c36e, Cond.static yJ3_checkFromToIndex_8c36e, Cond.initialized RJ3, Cond.code yJ3_checkFromToIndex_8c36e cJ3_checkFromToIndex_8c36e 4 (some .int), Cond.methodLink RJ2 244 yJ2_indexOfCharUnsafe_4cfef, Cond.static yJ2_indexOfCharUnsafe_4cfef, Cond.code yJ2_indexOfCharUnsafe_4cfef cJ2_indexOfCharUnsafe_4cfef 5 (some .int), Cond.methodLink RJ2 71 yJ2_getChar_3b067, Cond.static yJ2_getChar_3b067, Cond.code yJ2_getChar_3b067 cJ2_getChar_3b067 2 (some .char), Cond.fieldLink RJ2 44 "java/lang/StringUTF16" "$assertionsDisabled" "Z", Cond.fieldLink RJ2 59 "java/lang/StringUTF16" "HI_BYTE_SHIFT" "I"]
def wsJ2_indexOfChar_4cfef_r2 : List Cond := [Cond.fieldLink RJ2 63 "java/lang/StringUTF16" "LO_BYTE_SHIFT" "I"]
def wsJ2_indexOfChar_4cfef : List Cond := .code yJ2_indexOfChar_4cfef cJ2_indexOfChar_4cfef 4 (some .int) :: ((wsJ2_indexOfChar_4cfef_r1 ++ wsJ2_indexOfChar_4cfef_r2))
def wsJ11_isValidCodePoint_9a6ad : List Cond := .code yJ11_isValidCodePoint_9a6ad cJ11_isValidCodePoint_9a6ad 2 (some .boolean) :: ([])
def wsJ11_highSurrogate_5068e : List Cond := .code yJ11_highSurrogate_5068e cJ11_highSurrogate_5068e 1 (some .char) :: ([.constant RJ11 110 (55232)])
def wsJ11_lowSurrogate_5068e : List Cond := .code yJ11_lowSurrogate_5068e cJ11_lowSurrogate_5068e 1 (some .char) :: ([.constant RJ11 76 (56320)])
def wsJ2_indexOfSupplementary_4cfef_r1 : List Cond := [Cond.methodLink RJ2 164 yJ11_isValidCodePoint_9a6ad, Cond.static yJ11_isValidCodePoint_9a6ad, Cond.initialized RJ11, Cond.code yJ11_isValidCodePoint_9a6ad cJ11_isValidCodePoint_9a6ad 2 (some .boolean), Cond.methodLink RJ2 157 yJ11_highSurrogate_5068e, Cond.static yJ11_highSurrogate_5068e, Cond.code yJ11_highSurrogate_5068e cJ11_highSurrogate_5068e 1 (some .char), Cond.constant RJ11 110 (55232), Cond.methodLink RJ2 161 yJ11_lowSurrogate_5068e, Cond.static yJ11_lowSurrogate_5068e, Cond.code yJ11_lowSurrogate_5068e cJ11_lowSurrogate_5068e 1 (some .char), Cond.constant RJ11 76 (56320), Cond.methodLink RJ2 96 yJ2_checkBoundsBeginEnd_d044e, Cond.static yJ2_checkBoundsBeginEnd_d044e, Cond.initialized RJ2, Cond.code yJ2_checkBoundsBeginEnd_d044e cJ2_checkBoundsBeginEnd_d044e 3 none, Cond.methodLink RJ2 48 yJ2_length_9d52b, Cond.static yJ2_length_9d52b, Cond.code yJ2_length_9d52b cJ2_length_9d52b 1 (some .int), Cond.methodLink RJ2 241 yJ0_checkBoundsBeginEnd_23922, Cond.static yJ0_checkBoundsBeginEnd_23922, Cond.initialized RJ0, Cond.code yJ0_checkBoundsBeginEnd_23922 cJ0_checkBoundsBeginEnd_23922 3 none, Cond.fieldLink RJ0 1053 "jdk/internal/util/Preconditions" "SIOOBE_FORMATTER" "Ljava/util/function/BiFunction;"]
def wsJ2_indexOfSupplementary_4cfef_r2 : List Cond := [Cond.methodLink RJ0 1062 yJ3_checkFromToIndex_8c36e, Cond.static yJ3_checkFromToIndex_8c36e, Cond.initialized RJ3, Cond.code yJ3_checkFromToIndex_8c36e cJ3_checkFromToIndex_8c36e 4 (some .int), Cond.methodLink RJ2 71 yJ2_getChar_3b067, Cond.static yJ2_getChar_3b067, Cond.code yJ2_getChar_3b067 cJ2_getChar_3b067 2 (some .char), Cond.fieldLink RJ2 44 "java/lang/StringUTF16" "$assertionsDisabled" "Z", Cond.fieldLink RJ2 59 "java/lang/StringUTF16" "HI_BYTE_SHIFT" "I", Cond.fieldLink RJ2 63 "java/lang/StringUTF16" "LO_BYTE_SHIFT" "I"]
def wsJ2_indexOfSupplementary_4cfef : List Cond := .code yJ2_indexOfSupplementary_4cfef cJ2_indexOfSupplementary_4cfef 7 (some .int) :: ((wsJ2_indexOfSupplementary_4cfef_r1 ++ wsJ2_indexOfSupplementary_4cfef_r2))
def wsJ2_indexOf_4cfef_r1 : List Cond := [Cond.methodLink RJ2 224 Lib.Math.max.name, Cond.static Lib.Math.max.name, Cond.initialized "java/lang/Math", Cond.code Lib.Math.max.name Lib.Math.max.code 2 (some .int), Cond.methodLink RJ2 183 Lib.Math.min.name, Cond.static Lib.Math.min.name, Cond.code Lib.Math.min.name Lib.Math.min.code 2 (some .int), Cond.constant RJ2 227 (65536), Cond.methodLink RJ2 228 yJ2_indexOfChar_4cfef, Cond.static yJ2_indexOfChar_4cfef, Cond.initialized RJ2, Cond.code yJ2_indexOfChar_4cfef cJ2_indexOfChar_4cfef 4 (some .int), Cond.methodLink RJ2 96 yJ2_checkBoundsBeginEnd_d044e, Cond.static yJ2_checkBoundsBeginEnd_d044e, Cond.code yJ2_checkBoundsBeginEnd_d044e cJ2_checkBoundsBeginEnd_d044e 3 none, Cond.methodLink RJ2 48 yJ2_length_9d52b, Cond.static yJ2_length_9d52b, Cond.code yJ2_length_9d52b cJ2_length_9d52b 1 (some .int), Cond.methodLink RJ2 241 yJ0_checkBoundsBeginEnd_23922, Cond.static yJ0_checkBoundsBeginEnd_23922, Cond.initialized RJ0, Cond.code yJ0_checkBoundsBeginEnd_23922 cJ0_checkBoundsBeginEnd_23922 3 none, Cond.fieldLink RJ0 1053 "jdk/internal/util/Preconditions" "SIOOBE_FORMATTER" "Ljava/util/function/BiFunction;", Cond.methodLink RJ0 1062 yJ3_checkFromToIndex_8c36e]
def wsJ2_indexOf_4cfef_r2 : List Cond := [Cond.static yJ3_checkFromToIndex_8c36e, Cond.initialized RJ3, Cond.code yJ3_checkFromToIndex_8c36e cJ3_checkFromToIndex_8c36e 4 (some .int), Cond.methodLink RJ2 244 yJ2_indexOfCharUnsafe_4cfef, Cond.static yJ2_indexOfCharUnsafe_4cfef, Cond.code yJ2_indexOfCharUnsafe_4cfef cJ2_indexOfCharUnsafe_4cfef 5 (some .int), Cond.methodLink RJ2 71 yJ2_getChar_3b067, Cond.static yJ2_getChar_3b067, Cond.code yJ2_getChar_3b067 cJ2_getChar_3b067 2 (some .char), Cond.fieldLink RJ2 44 "java/lang/StringUTF16" "$assertionsDisabled" "Z", Cond.fieldLink RJ2 59 "java/lang/StringUTF16" "HI_BYTE_SHIFT" "I", Cond.fieldLink RJ2 63 "java/lang/StringUTF16" "LO_BYTE_SHIFT" "I", Cond.methodLink RJ2 232 yJ2_indexOfSupplementary_4cfef, Cond.static yJ2_indexOfSupplementary_4cfef, Cond.code yJ2_indexOfSupplementary_4cfef cJ2_indexOfSupplementary_4cfef 7 (some .int), Cond.methodLink RJ2 164 yJ11_isValidCodePoint_9a6ad, Cond.static yJ11_isValidCodePoint_9a6ad, Cond.initialized RJ11, Cond.code yJ11_isValidCodePoint_9a6ad cJ11_isValidCodePoint_9a6ad 2 (some .boolean), Cond.methodLink RJ2 157 yJ11_highSurrogate_5068e, Cond.static yJ11_highSurrogate_5068e, Cond.code yJ11_highSurrogate_5068e cJ11_highSurrogate_5068e 1 (some .char), Cond.constant RJ11 110 (55232), Cond.methodLink RJ2 161 yJ11_lowSurrogate_5068e]
def wsJ2_indexOf_4cfef_r3 : List Cond := [Cond.static yJ11_lowSurrogate_5068e, Cond.code yJ11_lowSurrogate_5068e cJ11_lowSurrogate_5068e 1 (some .char), Cond.constant RJ11 76 (56320)]
def wsJ2_indexOf_4cfef : List Cond := .code yJ2_indexOf_4cfef cJ2_indexOf_4cfef 4 (some .int) :: ((wsJ2_indexOf_4cfef_r1 ++ (wsJ2_indexOf_4cfef_r2 ++ wsJ2_indexOf_4cfef_r3)))
def wsJ0_indexOf_7cf53_r1 : List Cond := [Cond.fieldLink RJ0 9 "java/lang/String" "value" "[B", Cond.methodLink RJ0 492 yJ0_isLatin1_aae02, Cond.instanceMethod yJ0_isLatin1_aae02, Cond.selects RJ0 yJ0_isLatin1_aae02 yJ0_isLatin1_aae02, Cond.initialized RJ0, Cond.code yJ0_isLatin1_aae02 cJ0_isLatin1_aae02 1 (some .boolean), Cond.fieldLink RJ0 38 "java/lang/String" "COMPACT_STRINGS" "Z", Cond.fieldLink RJ0 15 "java/lang/String" "coder" "B", Cond.methodLink RJ0 505 yJ0_length_8abf5, Cond.instanceMethod yJ0_length_8abf5, Cond.selects RJ0 yJ0_length_8abf5 yJ0_length_8abf5, Cond.code yJ0_length_8abf5 cJ0_length_8abf5 1 (some .int), Cond.methodLink RJ0 335 yJ0_coder_7d493, Cond.instanceMethod yJ0_coder_7d493, Cond.selects RJ0 yJ0_coder_7d493 yJ0_coder_7d493, Cond.code yJ0_coder_7d493 cJ0_coder_7d493 1 (some .byte), Cond.methodLink RJ0 637 yJ1_indexOf_4cfef, Cond.static yJ1_indexOf_4cfef, Cond.initialized RJ1, Cond.code yJ1_indexOf_4cfef cJ1_indexOf_4cfef 4 (some .int), Cond.methodLink RJ1 92 Lib.Math.max.name, Cond.static Lib.Math.max.name, Cond.initialized "java/lang/Math", Cond.code Lib.Math.max.name Lib.Math.max.code 2 (some .int)]
def wsJ0_indexOf_7cf53_r2 : List Cond := [Cond.methodLink RJ1 38 Lib.Math.min.name, Cond.static Lib.Math.min.name, Cond.code Lib.Math.min.name Lib.Math.min.code 2 (some .int), Cond.methodLink RJ1 88 yJ1_canEncode_9a6ad, Cond.static yJ1_canEncode_9a6ad, Cond.code yJ1_canEncode_9a6ad cJ1_canEncode_9a6ad 1 (some .boolean), Cond.methodLink RJ1 95 yJ1_indexOfChar_4cfef, Cond.static yJ1_indexOfChar_4cfef, Cond.code yJ1_indexOfChar_4cfef cJ1_indexOfChar_4cfef 6 (some .int), Cond.methodLink RJ0 640 yJ2_indexOf_4cfef, Cond.static yJ2_indexOf_4cfef, Cond.initialized RJ2, Cond.code yJ2_indexOf_4cfef cJ2_indexOf_4cfef 4 (some .int), Cond.methodLink RJ2 224 Lib.Math.max.name, Cond.methodLink RJ2 183 Lib.Math.min.name, Cond.constant RJ2 227 (65536), Cond.methodLink RJ2 228 yJ2_indexOfChar_4cfef, Cond.static yJ2_indexOfChar_4cfef, Cond.code yJ2_indexOfChar_4cfef cJ2_indexOfChar_4cfef 4 (some .int), Cond.methodLink RJ2 96 yJ2_checkBoundsBeginEnd_d044e, Cond.static yJ2_checkBoundsBeginEnd_d044e, Cond.code yJ2_checkBoundsBeginEnd_d044e cJ2_checkBoundsBeginEnd_d044e 3 none, Cond.methodLink RJ2 48 yJ2_length_9d52b, Cond.static yJ2_length_9d52b]
def wsJ0_indexOf_7cf53_r3 : List Cond := [Cond.code yJ2_length_9d52b cJ2_length_9d52b 1 (some .int), Cond.methodLink RJ2 241 yJ0_checkBoundsBeginEnd_23922, Cond.static yJ0_checkBoundsBeginEnd_23922, Cond.code yJ0_checkBoundsBeginEnd_23922 cJ0_checkBoundsBeginEnd_23922 3 none, Cond.fieldLink RJ0 1053 "jdk/internal/util/Preconditions" "SIOOBE_FORMATTER" "Ljava/util/function/BiFunction;", Cond.methodLink RJ0 1062 yJ3_checkFromToIndex_8c36e, Cond.static yJ3_checkFromToIndex_8c36e, Cond.initialized RJ3, Cond.code yJ3_checkFromToIndex_8c36e cJ3_checkFromToIndex_8c36e 4 (some .int), Cond.methodLink RJ2 244 yJ2_indexOfCharUnsafe_4cfef, Cond.static yJ2_indexOfCharUnsafe_4cfef, Cond.code yJ2_indexOfCharUnsafe_4cfef cJ2_indexOfCharUnsafe_4cfef 5 (some .int), Cond.methodLink RJ2 71 yJ2_getChar_3b067, Cond.static yJ2_getChar_3b067, Cond.code yJ2_getChar_3b067 cJ2_getChar_3b067 2 (some .char), Cond.fieldLink RJ2 44 "java/lang/StringUTF16" "$assertionsDisabled" "Z", Cond.fieldLink RJ2 59 "java/lang/StringUTF16" "HI_BYTE_SHIFT" "I", Cond.fieldLink RJ2 63 "java/lang/StringUTF16" "LO_BYTE_SHIFT" "I", Cond.methodLink RJ2 232 yJ2_indexOfSupplementary_4cfef, Cond.static yJ2_indexOfSupplementary_4cfef, Cond.code yJ2_indexOfSupplementary_4cfef cJ2_indexOfSupplementary_4cfef 7 (some .int), Cond.methodLink RJ2 164 yJ11_isValidCodePoint_9a6ad, Cond.static yJ11_isValidCodePoint_9a6ad, Cond.initialized RJ11]
def wsJ0_indexOf_7cf53_r4 : List Cond := [Cond.code yJ11_isValidCodePoint_9a6ad cJ11_isValidCodePoint_9a6ad 2 (some .boolean), Cond.methodLink RJ2 157 yJ11_highSurrogate_5068e, Cond.static yJ11_highSurrogate_5068e, Cond.code yJ11_highSurrogate_5068e cJ11_highSurrogate_5068e 1 (some .char), Cond.constant RJ11 110 (55232), Cond.methodLink RJ2 161 yJ11_lowSurrogate_5068e, Cond.static yJ11_lowSurrogate_5068e, Cond.code yJ11_lowSurrogate_5068e cJ11_lowSurrogate_5068e 1 (some .char), Cond.constant RJ11 76 (56320)]
def wsJ0_indexOf_7cf53 : List Cond := .code yJ0_indexOf_7cf53 cJ0_indexOf_7cf53 3 (some .int) :: ((wsJ0_indexOf_7cf53_r1 ++ (wsJ0_indexOf_7cf53_r2 ++ (wsJ0_indexOf_7cf53_r3 ++ wsJ0_indexOf_7cf53_r4))))
def wsJ0_indexOf_0f7a4_r1 : List Cond := [Cond.methodLink RJ0 633 yJ0_indexOf_7cf53, Cond.instanceMethod yJ0_indexOf_7cf53, Cond.selects RJ0 yJ0_indexOf_7cf53 yJ0_indexOf_7cf53, Cond.initialized RJ0, Cond.code yJ0_indexOf_7cf53 cJ0_indexOf_7cf53 3 (some .int), Cond.fieldLink RJ0 9 "java/lang/String" "value" "[B", Cond.methodLink RJ0 492 yJ0_isLatin1_aae02, Cond.instanceMethod yJ0_isLatin1_aae02, Cond.selects RJ0 yJ0_isLatin1_aae02 yJ0_isLatin1_aae02, Cond.code yJ0_isLatin1_aae02 cJ0_isLatin1_aae02 1 (some .boolean), Cond.fieldLink RJ0 38 "java/lang/String" "COMPACT_STRINGS" "Z", Cond.fieldLink RJ0 15 "java/lang/String" "coder" "B", Cond.methodLink RJ0 505 yJ0_length_8abf5, Cond.instanceMethod yJ0_length_8abf5, Cond.selects RJ0 yJ0_length_8abf5 yJ0_length_8abf5, Cond.code yJ0_length_8abf5 cJ0_length_8abf5 1 (some .int), Cond.methodLink RJ0 335 yJ0_coder_7d493, Cond.instanceMethod yJ0_coder_7d493, Cond.selects RJ0 yJ0_coder_7d493 yJ0_coder_7d493, Cond.code yJ0_coder_7d493 cJ0_coder_7d493 1 (some .byte), Cond.methodLink RJ0 637 yJ1_indexOf_4cfef, Cond.static yJ1_indexOf_4cfef, Cond.initialized RJ1, Cond.code yJ1_indexOf_4cfef cJ1_indexOf_4cfef 4 (some .int)]
def wsJ0_indexOf_0f7a4_r2 : List Cond := [Cond.methodLink RJ1 92 Lib.Math.max.name, Cond.static Lib.Math.max.name, Cond.initialized "java/lang/Math", Cond.code Lib.Math.max.name Lib.Math.max.code 2 (some .int), Cond.methodLink RJ1 38 Lib.Math.min.name, Cond.static Lib.Math.min.name, Cond.code Lib.Math.min.name Lib.Math.min.code 2 (some .int), Cond.methodLink RJ1 88 yJ1_canEncode_9a6ad, Cond.static yJ1_canEncode_9a6ad, Cond.code yJ1_canEncode_9a6ad cJ1_canEncode_9a6ad 1 (some .boolean), Cond.methodLink RJ1 95 yJ1_indexOfChar_4cfef, Cond.static yJ1_indexOfChar_4cfef, Cond.code yJ1_indexOfChar_4cfef cJ1_indexOfChar_4cfef 6 (some .int), Cond.methodLink RJ0 640 yJ2_indexOf_4cfef, Cond.static yJ2_indexOf_4cfef, Cond.initialized RJ2, Cond.code yJ2_indexOf_4cfef cJ2_indexOf_4cfef 4 (some .int), Cond.methodLink RJ2 224 Lib.Math.max.name, Cond.methodLink RJ2 183 Lib.Math.min.name, Cond.constant RJ2 227 (65536), Cond.methodLink RJ2 228 yJ2_indexOfChar_4cfef, Cond.static yJ2_indexOfChar_4cfef, Cond.code yJ2_indexOfChar_4cfef cJ2_indexOfChar_4cfef 4 (some .int), Cond.methodLink RJ2 96 yJ2_checkBoundsBeginEnd_d044e]
def wsJ0_indexOf_0f7a4_r3 : List Cond := [Cond.static yJ2_checkBoundsBeginEnd_d044e, Cond.code yJ2_checkBoundsBeginEnd_d044e cJ2_checkBoundsBeginEnd_d044e 3 none, Cond.methodLink RJ2 48 yJ2_length_9d52b, Cond.static yJ2_length_9d52b, Cond.code yJ2_length_9d52b cJ2_length_9d52b 1 (some .int), Cond.methodLink RJ2 241 yJ0_checkBoundsBeginEnd_23922, Cond.static yJ0_checkBoundsBeginEnd_23922, Cond.code yJ0_checkBoundsBeginEnd_23922 cJ0_checkBoundsBeginEnd_23922 3 none, Cond.fieldLink RJ0 1053 "jdk/internal/util/Preconditions" "SIOOBE_FORMATTER" "Ljava/util/function/BiFunction;", Cond.methodLink RJ0 1062 yJ3_checkFromToIndex_8c36e, Cond.static yJ3_checkFromToIndex_8c36e, Cond.initialized RJ3, Cond.code yJ3_checkFromToIndex_8c36e cJ3_checkFromToIndex_8c36e 4 (some .int), Cond.methodLink RJ2 244 yJ2_indexOfCharUnsafe_4cfef, Cond.static yJ2_indexOfCharUnsafe_4cfef, Cond.code yJ2_indexOfCharUnsafe_4cfef cJ2_indexOfCharUnsafe_4cfef 5 (some .int), Cond.methodLink RJ2 71 yJ2_getChar_3b067, Cond.static yJ2_getChar_3b067, Cond.code yJ2_getChar_3b067 cJ2_getChar_3b067 2 (some .char), Cond.fieldLink RJ2 44 "java/lang/StringUTF16" "$assertionsDisabled" "Z", Cond.fieldLink RJ2 59 "java/lang/StringUTF16" "HI_BYTE_SHIFT" "I", Cond.fieldLink RJ2 63 "java/lang/StringUTF16" "LO_BYTE_SHIFT" "I", Cond.methodLink RJ2 232 yJ2_indexOfSupplementary_4cfef, Cond.static yJ2_indexOfSupplementary_4cfef]
def wsJ0_indexOf_0f7a4_r4 : List Cond := [Cond.code yJ2_indexOfSupplementary_4cfef cJ2_indexOfSupplementary_4cfef 7 (some .int), Cond.methodLink RJ2 164 yJ11_isValidCodePoint_9a6ad, Cond.static yJ11_isValidCodePoint_9a6ad, Cond.initialized RJ11, Cond.code yJ11_isValidCodePoint_9a6ad cJ11_isValidCodePoint_9a6ad 2 (some .boolean), Cond.methodLink RJ2 157 yJ11_highSurrogate_5068e, Cond.static yJ11_highSurrogate_5068e, Cond.code yJ11_highSurrogate_5068e cJ11_highSurrogate_5068e 1 (some .char), Cond.constant RJ11 110 (55232), Cond.methodLink RJ2 161 yJ11_lowSurrogate_5068e, Cond.static yJ11_lowSurrogate_5068e, Cond.code yJ11_lowSurrogate_5068e cJ11_lowSurrogate_5068e 1 (some .char), Cond.constant RJ11 76 (56320)]
def wsJ0_indexOf_0f7a4 : List Cond := .code yJ0_indexOf_0f7a4 cJ0_indexOf_0f7a4 2 (some .int) :: ((wsJ0_indexOf_0f7a4_r1 ++ (wsJ0_indexOf_0f7a4_r2 ++ (wsJ0_indexOf_0f7a4_r3 ++ wsJ0_indexOf_0f7a4_r4))))
def wsX5_readTest_r1 : List Cond := [Cond.fieldLink RX5 34 "MistHeaps$Hill" "at" "I", Cond.fieldLink RX5 48 "MistHeaps$Hill" "number" "I", Cond.methodLink RX5 93 yX5_sign, Cond.instanceMethod yX5_sign, Cond.selects RX5 yX5_sign yX5_sign, Cond.initialized RX5, Cond.code yX5_sign cX5_sign 1 (some .int), Cond.fieldLink RX5 31 "MistHeaps$Hill" "size" "I", Cond.fieldLink RX5 28 "MistHeaps$Hill" "tape" "[I", Cond.methodLink RX5 114 yJ0_indexOf_0f7a4, Cond.instanceMethod yJ0_indexOf_0f7a4, Cond.selects RJ0 yJ0_indexOf_0f7a4 yJ0_indexOf_0f7a4, Cond.initialized RJ0, Cond.code yJ0_indexOf_0f7a4 cJ0_indexOf_0f7a4 2 (some .int), Cond.methodLink RJ0 633 yJ0_indexOf_7cf53, Cond.instanceMethod yJ0_indexOf_7cf53, Cond.selects RJ0 yJ0_indexOf_7cf53 yJ0_indexOf_7cf53, Cond.code yJ0_indexOf_7cf53 cJ0_indexOf_7cf53 3 (some .int), Cond.fieldLink RJ0 9 "java/lang/String" "value" "[B", Cond.methodLink RJ0 492 yJ0_isLatin1_aae02, Cond.instanceMethod yJ0_isLatin1_aae02, Cond.selects RJ0 yJ0_isLatin1_aae02 yJ0_isLatin1_aae02, Cond.code yJ0_isLatin1_aae02 cJ0_isLatin1_aae02 1 (some .boolean), Cond.fieldLink RJ0 38 "java/lang/String" "COMPACT_STRINGS" "Z"]
def wsX5_readTest_r2 : List Cond := [Cond.fieldLink RJ0 15 "java/lang/String" "coder" "B", Cond.methodLink RJ0 505 yJ0_length_8abf5, Cond.instanceMethod yJ0_length_8abf5, Cond.selects RJ0 yJ0_length_8abf5 yJ0_length_8abf5, Cond.code yJ0_length_8abf5 cJ0_length_8abf5 1 (some .int), Cond.methodLink RJ0 335 yJ0_coder_7d493, Cond.instanceMethod yJ0_coder_7d493, Cond.selects RJ0 yJ0_coder_7d493 yJ0_coder_7d493, Cond.code yJ0_coder_7d493 cJ0_coder_7d493 1 (some .byte), Cond.methodLink RJ0 637 yJ1_indexOf_4cfef, Cond.static yJ1_indexOf_4cfef, Cond.initialized RJ1, Cond.code yJ1_indexOf_4cfef cJ1_indexOf_4cfef 4 (some .int), Cond.methodLink RJ1 92 Lib.Math.max.name, Cond.static Lib.Math.max.name, Cond.initialized "java/lang/Math", Cond.code Lib.Math.max.name Lib.Math.max.code 2 (some .int), Cond.methodLink RJ1 38 Lib.Math.min.name, Cond.static Lib.Math.min.name, Cond.code Lib.Math.min.name Lib.Math.min.code 2 (some .int), Cond.methodLink RJ1 88 yJ1_canEncode_9a6ad, Cond.static yJ1_canEncode_9a6ad, Cond.code yJ1_canEncode_9a6ad cJ1_canEncode_9a6ad 1 (some .boolean), Cond.methodLink RJ1 95 yJ1_indexOfChar_4cfef]
def wsX5_readTest_r3 : List Cond := [Cond.static yJ1_indexOfChar_4cfef, Cond.code yJ1_indexOfChar_4cfef cJ1_indexOfChar_4cfef 6 (some .int), Cond.methodLink RJ0 640 yJ2_indexOf_4cfef, Cond.static yJ2_indexOf_4cfef, Cond.initialized RJ2, Cond.code yJ2_indexOf_4cfef cJ2_indexOf_4cfef 4 (some .int), Cond.methodLink RJ2 224 Lib.Math.max.name, Cond.methodLink RJ2 183 Lib.Math.min.name, Cond.constant RJ2 227 (65536), Cond.methodLink RJ2 228 yJ2_indexOfChar_4cfef, Cond.static yJ2_indexOfChar_4cfef, Cond.code yJ2_indexOfChar_4cfef cJ2_indexOfChar_4cfef 4 (some .int), Cond.methodLink RJ2 96 yJ2_checkBoundsBeginEnd_d044e, Cond.static yJ2_checkBoundsBeginEnd_d044e, Cond.code yJ2_checkBoundsBeginEnd_d044e cJ2_checkBoundsBeginEnd_d044e 3 none, Cond.methodLink RJ2 48 yJ2_length_9d52b, Cond.static yJ2_length_9d52b, Cond.code yJ2_length_9d52b cJ2_length_9d52b 1 (some .int), Cond.methodLink RJ2 241 yJ0_checkBoundsBeginEnd_23922, Cond.static yJ0_checkBoundsBeginEnd_23922, Cond.code yJ0_checkBoundsBeginEnd_23922 cJ0_checkBoundsBeginEnd_23922 3 none, Cond.fieldLink RJ0 1053 "jdk/internal/util/Preconditions" "SIOOBE_FORMATTER" "Ljava/util/function/BiFunction;", Cond.methodLink RJ0 1062 yJ3_checkFromToIndex_8c36e, Cond.static yJ3_checkFromToIndex_8c36e]
def wsX5_readTest_r4 : List Cond := [Cond.initialized RJ3, Cond.code yJ3_checkFromToIndex_8c36e cJ3_checkFromToIndex_8c36e 4 (some .int), Cond.methodLink RJ2 244 yJ2_indexOfCharUnsafe_4cfef, Cond.static yJ2_indexOfCharUnsafe_4cfef, Cond.code yJ2_indexOfCharUnsafe_4cfef cJ2_indexOfCharUnsafe_4cfef 5 (some .int), Cond.methodLink RJ2 71 yJ2_getChar_3b067, Cond.static yJ2_getChar_3b067, Cond.code yJ2_getChar_3b067 cJ2_getChar_3b067 2 (some .char), Cond.fieldLink RJ2 44 "java/lang/StringUTF16" "$assertionsDisabled" "Z", Cond.fieldLink RJ2 59 "java/lang/StringUTF16" "HI_BYTE_SHIFT" "I", Cond.fieldLink RJ2 63 "java/lang/StringUTF16" "LO_BYTE_SHIFT" "I", Cond.methodLink RJ2 232 yJ2_indexOfSupplementary_4cfef, Cond.static yJ2_indexOfSupplementary_4cfef, Cond.code yJ2_indexOfSupplementary_4cfef cJ2_indexOfSupplementary_4cfef 7 (some .int), Cond.methodLink RJ2 164 yJ11_isValidCodePoint_9a6ad, Cond.static yJ11_isValidCodePoint_9a6ad, Cond.initialized RJ11, Cond.code yJ11_isValidCodePoint_9a6ad cJ11_isValidCodePoint_9a6ad 2 (some .boolean), Cond.methodLink RJ2 157 yJ11_highSurrogate_5068e, Cond.static yJ11_highSurrogate_5068e, Cond.code yJ11_highSurrogate_5068e cJ11_highSurrogate_5068e 1 (some .char), Cond.constant RJ11 110 (55232), Cond.methodLink RJ2 161 yJ11_lowSurrogate_5068e, Cond.static yJ11_lowSurrogate_5068e]
def wsX5_readTest_r5 : List Cond := [Cond.code yJ11_lowSurrogate_5068e cJ11_lowSurrogate_5068e 1 (some .char), Cond.constant RJ11 76 (56320), Cond.methodLink RX5 44 yX5_readNumber, Cond.instanceMethod yX5_readNumber, Cond.selects RX5 yX5_readNumber yX5_readNumber, Cond.code yX5_readNumber cX5_readNumber 1 (some .boolean), Cond.methodLink RX5 96 yX5_isDigit, Cond.static yX5_isDigit, Cond.code yX5_isDigit cX5_isDigit 1 (some .boolean), Cond.methodLink RX5 102 yX5_code, Cond.instanceMethod yX5_code, Cond.selects RX5 yX5_code yX5_code, Cond.code yX5_code cX5_code 2 none, Cond.fieldLink RX5 37 "MistHeaps$Hill" "coded" "I", Cond.fieldLink RX5 25 "MistHeaps$Hill" "codes" "[I"]
def wsX5_readTest : List Cond := .code yX5_readTest cX5_readTest 3 (some .boolean) :: ((wsX5_readTest_r1 ++ (wsX5_readTest_r2 ++ (wsX5_readTest_r3 ++ (wsX5_readTest_r4 ++ wsX5_readTest_r5)))) ++ wsX50)
def wsX5_readBoth_r1 : List Cond := [Cond.fieldLink RX5 31 "MistHeaps$Hill" "size" "I", Cond.methodLink RX5 106 yX5_readPlain, Cond.instanceMethod yX5_readPlain, Cond.selects RX5 yX5_readPlain yX5_readPlain, Cond.initialized RX5, Cond.methodLink RX5 51 yX5_readSign, Cond.instanceMethod yX5_readSign, Cond.selects RX5 yX5_readSign yX5_readSign, Cond.code yX5_readSign cX5_readSign 2 (some .boolean), Cond.fieldLink RX5 34 "MistHeaps$Hill" "at" "I", Cond.methodLink RX5 93 yX5_sign, Cond.instanceMethod yX5_sign, Cond.selects RX5 yX5_sign yX5_sign, Cond.code yX5_sign cX5_sign 1 (some .int), Cond.fieldLink RX5 28 "MistHeaps$Hill" "tape" "[I", Cond.methodLink RX5 102 yX5_code, Cond.instanceMethod yX5_code, Cond.selects RX5 yX5_code yX5_code, Cond.code yX5_code cX5_code 2 none, Cond.fieldLink RX5 37 "MistHeaps$Hill" "coded" "I", Cond.fieldLink RX5 25 "MistHeaps$Hill" "codes" "[I", Cond.code yX5_readEither cX5_readEither 3 (some .boolean), Cond.methodLink RX5 99 yX5_readBoth, Cond.instanceMethod yX5_readBoth]
def wsX5_readBoth_r2 : List Cond := [Cond.selects RX5 yX5_readBoth yX5_readBoth, Cond.code yX5_readPlain cX5_readPlain 3 (some .boolean), Cond.methodLink RX5 109 yX5_readTest, Cond.instanceMethod yX5_readTest, Cond.selects RX5 yX5_readTest yX5_readTest, Cond.code yX5_readTest cX5_readTest 3 (some .boolean), Cond.fieldLink RX5 48 "MistHeaps$Hill" "number" "I", Cond.methodLink RX5 114 yJ0_indexOf_0f7a4, Cond.instanceMethod yJ0_indexOf_0f7a4, Cond.selects RJ0 yJ0_indexOf_0f7a4 yJ0_indexOf_0f7a4, Cond.initialized RJ0, Cond.code yJ0_indexOf_0f7a4 cJ0_indexOf_0f7a4 2 (some .int), Cond.methodLink RJ0 633 yJ0_indexOf_7cf53, Cond.instanceMethod yJ0_indexOf_7cf53, Cond.selects RJ0 yJ0_indexOf_7cf53 yJ0_indexOf_7cf53, Cond.code yJ0_indexOf_7cf53 cJ0_indexOf_7cf53 3 (some .int), Cond.fieldLink RJ0 9 "java/lang/String" "value" "[B", Cond.methodLink RJ0 492 yJ0_isLatin1_aae02, Cond.instanceMethod yJ0_isLatin1_aae02, Cond.selects RJ0 yJ0_isLatin1_aae02 yJ0_isLatin1_aae02, Cond.code yJ0_isLatin1_aae02 cJ0_isLatin1_aae02 1 (some .boolean), Cond.fieldLink RJ0 38 "java/lang/String" "COMPACT_STRINGS" "Z", Cond.fieldLink RJ0 15 "java/lang/String" "coder" "B", Cond.methodLink RJ0 505 yJ0_length_8abf5]
def wsX5_readBoth_r3 : List Cond := [Cond.instanceMethod yJ0_length_8abf5, Cond.selects RJ0 yJ0_length_8abf5 yJ0_length_8abf5, Cond.code yJ0_length_8abf5 cJ0_length_8abf5 1 (some .int), Cond.methodLink RJ0 335 yJ0_coder_7d493, Cond.instanceMethod yJ0_coder_7d493, Cond.selects RJ0 yJ0_coder_7d493 yJ0_coder_7d493, Cond.code yJ0_coder_7d493 cJ0_coder_7d493 1 (some .byte), Cond.methodLink RJ0 637 yJ1_indexOf_4cfef, Cond.static yJ1_indexOf_4cfef, Cond.initialized RJ1, Cond.code yJ1_indexOf_4cfef cJ1_indexOf_4cfef 4 (some .int), Cond.methodLink RJ1 92 Lib.Math.max.name, Cond.static Lib.Math.max.name, Cond.initialized "java/lang/Math", Cond.code Lib.Math.max.name Lib.Math.max.code 2 (some .int), Cond.methodLink RJ1 38 Lib.Math.min.name, Cond.static Lib.Math.min.name, Cond.code Lib.Math.min.name Lib.Math.min.code 2 (some .int), Cond.methodLink RJ1 88 yJ1_canEncode_9a6ad, Cond.static yJ1_canEncode_9a6ad, Cond.code yJ1_canEncode_9a6ad cJ1_canEncode_9a6ad 1 (some .boolean), Cond.methodLink RJ1 95 yJ1_indexOfChar_4cfef, Cond.static yJ1_indexOfChar_4cfef, Cond.code yJ1_indexOfChar_4cfef cJ1_indexOfChar_4cfef 6 (some .int)]
def wsX5_readBoth_r4 : List Cond := [Cond.methodLink RJ0 640 yJ2_indexOf_4cfef, Cond.static yJ2_indexOf_4cfef, Cond.initialized RJ2, Cond.code yJ2_indexOf_4cfef cJ2_indexOf_4cfef 4 (some .int), Cond.methodLink RJ2 224 Lib.Math.max.name, Cond.methodLink RJ2 183 Lib.Math.min.name, Cond.constant RJ2 227 (65536), Cond.methodLink RJ2 228 yJ2_indexOfChar_4cfef, Cond.static yJ2_indexOfChar_4cfef, Cond.code yJ2_indexOfChar_4cfef cJ2_indexOfChar_4cfef 4 (some .int), Cond.methodLink RJ2 96 yJ2_checkBoundsBeginEnd_d044e, Cond.static yJ2_checkBoundsBeginEnd_d044e, Cond.code yJ2_checkBoundsBeginEnd_d044e cJ2_checkBoundsBeginEnd_d044e 3 none, Cond.methodLink RJ2 48 yJ2_length_9d52b, Cond.static yJ2_length_9d52b, Cond.code yJ2_length_9d52b cJ2_length_9d52b 1 (some .int), Cond.methodLink RJ2 241 yJ0_checkBoundsBeginEnd_23922, Cond.static yJ0_checkBoundsBeginEnd_23922, Cond.code yJ0_checkBoundsBeginEnd_23922 cJ0_checkBoundsBeginEnd_23922 3 none, Cond.fieldLink RJ0 1053 "jdk/internal/util/Preconditions" "SIOOBE_FORMATTER" "Ljava/util/function/BiFunction;", Cond.methodLink RJ0 1062 yJ3_checkFromToIndex_8c36e, Cond.static yJ3_checkFromToIndex_8c36e, Cond.initialized RJ3, Cond.code yJ3_checkFromToIndex_8c36e cJ3_checkFromToIndex_8c36e 4 (some .int)]
def wsX5_readBoth_r5 : List Cond := [Cond.methodLink RJ2 244 yJ2_indexOfCharUnsafe_4cfef, Cond.static yJ2_indexOfCharUnsafe_4cfef, Cond.code yJ2_indexOfCharUnsafe_4cfef cJ2_indexOfCharUnsafe_4cfef 5 (some .int), Cond.methodLink RJ2 71 yJ2_getChar_3b067, Cond.static yJ2_getChar_3b067, Cond.code yJ2_getChar_3b067 cJ2_getChar_3b067 2 (some .char), Cond.fieldLink RJ2 44 "java/lang/StringUTF16" "$assertionsDisabled" "Z", Cond.fieldLink RJ2 59 "java/lang/StringUTF16" "HI_BYTE_SHIFT" "I", Cond.fieldLink RJ2 63 "java/lang/StringUTF16" "LO_BYTE_SHIFT" "I", Cond.methodLink RJ2 232 yJ2_indexOfSupplementary_4cfef, Cond.static yJ2_indexOfSupplementary_4cfef, Cond.code yJ2_indexOfSupplementary_4cfef cJ2_indexOfSupplementary_4cfef 7 (some .int), Cond.methodLink RJ2 164 yJ11_isValidCodePoint_9a6ad, Cond.static yJ11_isValidCodePoint_9a6ad, Cond.initialized RJ11, Cond.code yJ11_isValidCodePoint_9a6ad cJ11_isValidCodePoint_9a6ad 2 (some .boolean), Cond.methodLink RJ2 157 yJ11_highSurrogate_5068e, Cond.static yJ11_highSurrogate_5068e, Cond.code yJ11_highSurrogate_5068e cJ11_highSurrogate_5068e 1 (some .char), Cond.constant RJ11 110 (55232), Cond.methodLink RJ2 161 yJ11_lowSurrogate_5068e, Cond.static yJ11_lowSurrogate_5068e, Cond.code yJ11_lowSurrogate_5068e cJ11_lowSurrogate_5068e 1 (some .char), Cond.constant RJ11 76 (56320)]
def wsX5_readBoth_r6 : List Cond := [Cond.methodLink RX5 44 yX5_readNumber, Cond.instanceMethod yX5_readNumber, Cond.selects RX5 yX5_readNumber yX5_readNumber, Cond.code yX5_readNumber cX5_readNumber 1 (some .boolean), Cond.methodLink RX5 96 yX5_isDigit, Cond.static yX5_isDigit, Cond.code yX5_isDigit cX5_isDigit 1 (some .boolean), Cond.methodLink RX5 55 yX5_readEither, Cond.instanceMethod yX5_readEither, Cond.selects RX5 yX5_readEither yX5_readEither]
def wsX5_readBoth : List Cond := .code yX5_readBoth cX5_readBoth 3 (some .boolean) :: ((wsX5_readBoth_r1 ++ (wsX5_readBoth_r2 ++ (wsX5_readBoth_r3 ++ (wsX5_readBoth_r4 ++ (wsX5_readBoth_r5 ++ wsX5_readBoth_r6))))) ++ wsX50)
def wsX5_readEither_r1 : List Cond := [Cond.fieldLink RX5 31 "MistHeaps$Hill" "size" "I", Cond.methodLink RX5 99 yX5_readBoth, Cond.instanceMethod yX5_readBoth, Cond.selects RX5 yX5_readBoth yX5_readBoth, Cond.initialized RX5, Cond.methodLink RX5 51 yX5_readSign, Cond.instanceMethod yX5_readSign, Cond.selects RX5 yX5_readSign yX5_readSign, Cond.code yX5_readSign cX5_readSign 2 (some .boolean), Cond.fieldLink RX5 34 "MistHeaps$Hill" "at" "I", Cond.methodLink RX5 93 yX5_sign, Cond.instanceMethod yX5_sign, Cond.selects RX5 yX5_sign yX5_sign, Cond.code yX5_sign cX5_sign 1 (some .int), Cond.fieldLink RX5 28 "MistHeaps$Hill" "tape" "[I", Cond.methodLink RX5 102 yX5_code, Cond.instanceMethod yX5_code, Cond.selects RX5 yX5_code yX5_code, Cond.code yX5_code cX5_code 2 none, Cond.fieldLink RX5 37 "MistHeaps$Hill" "coded" "I", Cond.fieldLink RX5 25 "MistHeaps$Hill" "codes" "[I", Cond.code yX5_readBoth cX5_readBoth 3 (some .boolean), Cond.methodLink RX5 106 yX5_readPlain, Cond.instanceMethod yX5_readPlain]
def wsX5_readEither_r2 : List Cond := [Cond.selects RX5 yX5_readPlain yX5_readPlain, Cond.code yX5_readPlain cX5_readPlain 3 (some .boolean), Cond.methodLink RX5 109 yX5_readTest, Cond.instanceMethod yX5_readTest, Cond.selects RX5 yX5_readTest yX5_readTest, Cond.code yX5_readTest cX5_readTest 3 (some .boolean), Cond.fieldLink RX5 48 "MistHeaps$Hill" "number" "I", Cond.methodLink RX5 114 yJ0_indexOf_0f7a4, Cond.instanceMethod yJ0_indexOf_0f7a4, Cond.selects RJ0 yJ0_indexOf_0f7a4 yJ0_indexOf_0f7a4, Cond.initialized RJ0, Cond.code yJ0_indexOf_0f7a4 cJ0_indexOf_0f7a4 2 (some .int), Cond.methodLink RJ0 633 yJ0_indexOf_7cf53, Cond.instanceMethod yJ0_indexOf_7cf53, Cond.selects RJ0 yJ0_indexOf_7cf53 yJ0_indexOf_7cf53, Cond.code yJ0_indexOf_7cf53 cJ0_indexOf_7cf53 3 (some .int), Cond.fieldLink RJ0 9 "java/lang/String" "value" "[B", Cond.methodLink RJ0 492 yJ0_isLatin1_aae02, Cond.instanceMethod yJ0_isLatin1_aae02, Cond.selects RJ0 yJ0_isLatin1_aae02 yJ0_isLatin1_aae02, Cond.code yJ0_isLatin1_aae02 cJ0_isLatin1_aae02 1 (some .boolean), Cond.fieldLink RJ0 38 "java/lang/String" "COMPACT_STRINGS" "Z", Cond.fieldLink RJ0 15 "java/lang/String" "coder" "B", Cond.methodLink RJ0 505 yJ0_length_8abf5]
def wsX5_readEither_r3 : List Cond := [Cond.instanceMethod yJ0_length_8abf5, Cond.selects RJ0 yJ0_length_8abf5 yJ0_length_8abf5, Cond.code yJ0_length_8abf5 cJ0_length_8abf5 1 (some .int), Cond.methodLink RJ0 335 yJ0_coder_7d493, Cond.instanceMethod yJ0_coder_7d493, Cond.selects RJ0 yJ0_coder_7d493 yJ0_coder_7d493, Cond.code yJ0_coder_7d493 cJ0_coder_7d493 1 (some .byte), Cond.methodLink RJ0 637 yJ1_indexOf_4cfef, Cond.static yJ1_indexOf_4cfef, Cond.initialized RJ1, Cond.code yJ1_indexOf_4cfef cJ1_indexOf_4cfef 4 (some .int), Cond.methodLink RJ1 92 Lib.Math.max.name, Cond.static Lib.Math.max.name, Cond.initialized "java/lang/Math", Cond.code Lib.Math.max.name Lib.Math.max.code 2 (some .int), Cond.methodLink RJ1 38 Lib.Math.min.name, Cond.static Lib.Math.min.name, Cond.code Lib.Math.min.name Lib.Math.min.code 2 (some .int), Cond.methodLink RJ1 88 yJ1_canEncode_9a6ad, Cond.static yJ1_canEncode_9a6ad, Cond.code yJ1_canEncode_9a6ad cJ1_canEncode_9a6ad 1 (some .boolean), Cond.methodLink RJ1 95 yJ1_indexOfChar_4cfef, Cond.static yJ1_indexOfChar_4cfef, Cond.code yJ1_indexOfChar_4cfef cJ1_indexOfChar_4cfef 6 (some .int)]
def wsX5_readEither_r4 : List Cond := [Cond.methodLink RJ0 640 yJ2_indexOf_4cfef, Cond.static yJ2_indexOf_4cfef, Cond.initialized RJ2, Cond.code yJ2_indexOf_4cfef cJ2_indexOf_4cfef 4 (some .int), Cond.methodLink RJ2 224 Lib.Math.max.name, Cond.methodLink RJ2 183 Lib.Math.min.name, Cond.constant RJ2 227 (65536), Cond.methodLink RJ2 228 yJ2_indexOfChar_4cfef, Cond.static yJ2_indexOfChar_4cfef, Cond.code yJ2_indexOfChar_4cfef cJ2_indexOfChar_4cfef 4 (some .int), Cond.methodLink RJ2 96 yJ2_checkBoundsBeginEnd_d044e, Cond.static yJ2_checkBoundsBeginEnd_d044e, Cond.code yJ2_checkBoundsBeginEnd_d044e cJ2_checkBoundsBeginEnd_d044e 3 none, Cond.methodLink RJ2 48 yJ2_length_9d52b, Cond.static yJ2_length_9d52b, Cond.code yJ2_length_9d52b cJ2_length_9d52b 1 (some .int), Cond.methodLink RJ2 241 yJ0_checkBoundsBeginEnd_23922, Cond.static yJ0_checkBoundsBeginEnd_23922, Cond.code yJ0_checkBoundsBeginEnd_23922 cJ0_checkBoundsBeginEnd_23922 3 none, Cond.fieldLink RJ0 1053 "jdk/internal/util/Preconditions" "SIOOBE_FORMATTER" "Ljava/util/function/BiFunction;", Cond.methodLink RJ0 1062 yJ3_checkFromToIndex_8c36e, Cond.static yJ3_checkFromToIndex_8c36e, Cond.initialized RJ3, Cond.code yJ3_checkFromToIndex_8c36e cJ3_checkFromToIndex_8c36e 4 (some .int)]
def wsX5_readEither_r5 : List Cond := [Cond.methodLink RJ2 244 yJ2_indexOfCharUnsafe_4cfef, Cond.static yJ2_indexOfCharUnsafe_4cfef, Cond.code yJ2_indexOfCharUnsafe_4cfef cJ2_indexOfCharUnsafe_4cfef 5 (some .int), Cond.methodLink RJ2 71 yJ2_getChar_3b067, Cond.static yJ2_getChar_3b067, Cond.code yJ2_getChar_3b067 cJ2_getChar_3b067 2 (some .char), Cond.fieldLink RJ2 44 "java/lang/StringUTF16" "$assertionsDisabled" "Z", Cond.fieldLink RJ2 59 "java/lang/StringUTF16" "HI_BYTE_SHIFT" "I", Cond.fieldLink RJ2 63 "java/lang/StringUTF16" "LO_BYTE_SHIFT" "I", Cond.methodLink RJ2 232 yJ2_indexOfSupplementary_4cfef, Cond.static yJ2_indexOfSupplementary_4cfef, Cond.code yJ2_indexOfSupplementary_4cfef cJ2_indexOfSupplementary_4cfef 7 (some .int), Cond.methodLink RJ2 164 yJ11_isValidCodePoint_9a6ad, Cond.static yJ11_isValidCodePoint_9a6ad, Cond.initialized RJ11, Cond.code yJ11_isValidCodePoint_9a6ad cJ11_isValidCodePoint_9a6ad 2 (some .boolean), Cond.methodLink RJ2 157 yJ11_highSurrogate_5068e, Cond.static yJ11_highSurrogate_5068e, Cond.code yJ11_highSurrogate_5068e cJ11_highSurrogate_5068e 1 (some .char), Cond.constant RJ11 110 (55232), Cond.methodLink RJ2 161 yJ11_lowSurrogate_5068e, Cond.static yJ11_lowSurrogate_5068e, Cond.code yJ11_lowSurrogate_5068e cJ11_lowSurrogate_5068e 1 (some .char), Cond.constant RJ11 76 (56320)]
def wsX5_readEither_r6 : List Cond := [Cond.methodLink RX5 44 yX5_readNumber, Cond.instanceMethod yX5_readNumber, Cond.selects RX5 yX5_readNumber yX5_readNumber, Cond.code yX5_readNumber cX5_readNumber 1 (some .boolean), Cond.methodLink RX5 96 yX5_isDigit, Cond.static yX5_isDigit, Cond.code yX5_isDigit cX5_isDigit 1 (some .boolean), Cond.methodLink RX5 55 yX5_readEither, Cond.instanceMethod yX5_readEither, Cond.selects RX5 yX5_readEither yX5_readEither]
def wsX5_readEither : List Cond := .code yX5_readEither cX5_readEither 3 (some .boolean) :: ((wsX5_readEither_r1 ++ (wsX5_readEither_r2 ++ (wsX5_readEither_r3 ++ (wsX5_readEither_r4 ++ (wsX5_readEither_r5 ++ wsX5_readEither_r6))))) ++ wsX50)
def wsX5_readPlain_r1 : List Cond := [Cond.fieldLink RX5 34 "MistHeaps$Hill" "at" "I", Cond.methodLink RX5 93 yX5_sign, Cond.instanceMethod yX5_sign, Cond.selects RX5 yX5_sign yX5_sign, Cond.initialized RX5, Cond.code yX5_sign cX5_sign 1 (some .int), Cond.fieldLink RX5 31 "MistHeaps$Hill" "size" "I", Cond.fieldLink RX5 28 "MistHeaps$Hill" "tape" "[I", Cond.methodLink RX5 109 yX5_readTest, Cond.instanceMethod yX5_readTest, Cond.selects RX5 yX5_readTest yX5_readTest, Cond.code yX5_readTest cX5_readTest 3 (some .boolean), Cond.fieldLink RX5 48 "MistHeaps$Hill" "number" "I", Cond.methodLink RX5 114 yJ0_indexOf_0f7a4, Cond.instanceMethod yJ0_indexOf_0f7a4, Cond.selects RJ0 yJ0_indexOf_0f7a4 yJ0_indexOf_0f7a4, Cond.initialized RJ0, Cond.code yJ0_indexOf_0f7a4 cJ0_indexOf_0f7a4 2 (some .int), Cond.methodLink RJ0 633 yJ0_indexOf_7cf53, Cond.instanceMethod yJ0_indexOf_7cf53, Cond.selects RJ0 yJ0_indexOf_7cf53 yJ0_indexOf_7cf53, Cond.code yJ0_indexOf_7cf53 cJ0_indexOf_7cf53 3 (some .int), Cond.fieldLink RJ0 9 "java/lang/String" "value" "[B", Cond.methodLink RJ0 492 yJ0_isLatin1_aae02]
def wsX5_readPlain_r2 : List Cond := [Cond.instanceMethod yJ0_isLatin1_aae02, Cond.selects RJ0 yJ0_isLatin1_aae02 yJ0_isLatin1_aae02, Cond.code yJ0_isLatin1_aae02 cJ0_isLatin1_aae02 1 (some .boolean), Cond.fieldLink RJ0 38 "java/lang/String" "COMPACT_STRINGS" "Z", Cond.fieldLink RJ0 15 "java/lang/String" "coder" "B", Cond.methodLink RJ0 505 yJ0_length_8abf5, Cond.instanceMethod yJ0_length_8abf5, Cond.selects RJ0 yJ0_length_8abf5 yJ0_length_8abf5, Cond.code yJ0_length_8abf5 cJ0_length_8abf5 1 (some .int), Cond.methodLink RJ0 335 yJ0_coder_7d493, Cond.instanceMethod yJ0_coder_7d493, Cond.selects RJ0 yJ0_coder_7d493 yJ0_coder_7d493, Cond.code yJ0_coder_7d493 cJ0_coder_7d493 1 (some .byte), Cond.methodLink RJ0 637 yJ1_indexOf_4cfef, Cond.static yJ1_indexOf_4cfef, Cond.initialized RJ1, Cond.code yJ1_indexOf_4cfef cJ1_indexOf_4cfef 4 (some .int), Cond.methodLink RJ1 92 Lib.Math.max.name, Cond.static Lib.Math.max.name, Cond.initialized "java/lang/Math", Cond.code Lib.Math.max.name Lib.Math.max.code 2 (some .int), Cond.methodLink RJ1 38 Lib.Math.min.name, Cond.static Lib.Math.min.name, Cond.code Lib.Math.min.name Lib.Math.min.code 2 (some .int)]
def wsX5_readPlain_r3 : List Cond := [Cond.methodLink RJ1 88 yJ1_canEncode_9a6ad, Cond.static yJ1_canEncode_9a6ad, Cond.code yJ1_canEncode_9a6ad cJ1_canEncode_9a6ad 1 (some .boolean), Cond.methodLink RJ1 95 yJ1_indexOfChar_4cfef, Cond.static yJ1_indexOfChar_4cfef, Cond.code yJ1_indexOfChar_4cfef cJ1_indexOfChar_4cfef 6 (some .int), Cond.methodLink RJ0 640 yJ2_indexOf_4cfef, Cond.static yJ2_indexOf_4cfef, Cond.initialized RJ2, Cond.code yJ2_indexOf_4cfef cJ2_indexOf_4cfef 4 (some .int), Cond.methodLink RJ2 224 Lib.Math.max.name, Cond.methodLink RJ2 183 Lib.Math.min.name, Cond.constant RJ2 227 (65536), Cond.methodLink RJ2 228 yJ2_indexOfChar_4cfef, Cond.static yJ2_indexOfChar_4cfef, Cond.code yJ2_indexOfChar_4cfef cJ2_indexOfChar_4cfef 4 (some .int), Cond.methodLink RJ2 96 yJ2_checkBoundsBeginEnd_d044e, Cond.static yJ2_checkBoundsBeginEnd_d044e, Cond.code yJ2_checkBoundsBeginEnd_d044e cJ2_checkBoundsBeginEnd_d044e 3 none, Cond.methodLink RJ2 48 yJ2_length_9d52b, Cond.static yJ2_length_9d52b, Cond.code yJ2_length_9d52b cJ2_length_9d52b 1 (some .int), Cond.methodLink RJ2 241 yJ0_checkBoundsBeginEnd_23922, Cond.static yJ0_checkBoundsBeginEnd_23922]
def wsX5_readPlain_r4 : List Cond := [Cond.code yJ0_checkBoundsBeginEnd_23922 cJ0_checkBoundsBeginEnd_23922 3 none, Cond.fieldLink RJ0 1053 "jdk/internal/util/Preconditions" "SIOOBE_FORMATTER" "Ljava/util/function/BiFunction;", Cond.methodLink RJ0 1062 yJ3_checkFromToIndex_8c36e, Cond.static yJ3_checkFromToIndex_8c36e, Cond.initialized RJ3, Cond.code yJ3_checkFromToIndex_8c36e cJ3_checkFromToIndex_8c36e 4 (some .int), Cond.methodLink RJ2 244 yJ2_indexOfCharUnsafe_4cfef, Cond.static yJ2_indexOfCharUnsafe_4cfef, Cond.code yJ2_indexOfCharUnsafe_4cfef cJ2_indexOfCharUnsafe_4cfef 5 (some .int), Cond.methodLink RJ2 71 yJ2_getChar_3b067, Cond.static yJ2_getChar_3b067, Cond.code yJ2_getChar_3b067 cJ2_getChar_3b067 2 (some .char), Cond.fieldLink RJ2 44 "java/lang/StringUTF16" "$assertionsDisabled" "Z", Cond.fieldLink RJ2 59 "java/lang/StringUTF16" "HI_BYTE_SHIFT" "I", Cond.fieldLink RJ2 63 "java/lang/StringUTF16" "LO_BYTE_SHIFT" "I", Cond.methodLink RJ2 232 yJ2_indexOfSupplementary_4cfef, Cond.static yJ2_indexOfSupplementary_4cfef, Cond.code yJ2_indexOfSupplementary_4cfef cJ2_indexOfSupplementary_4cfef 7 (some .int), Cond.methodLink RJ2 164 yJ11_isValidCodePoint_9a6ad, Cond.static yJ11_isValidCodePoint_9a6ad, Cond.initialized RJ11, Cond.code yJ11_isValidCodePoint_9a6ad cJ11_isValidCodePoint_9a6ad 2 (some .boolean), Cond.methodLink RJ2 157 yJ11_highSurrogate_5068e, Cond.static yJ11_highSurrogate_5068e]
def wsX5_readPlain_r5 : List Cond := [Cond.code yJ11_highSurrogate_5068e cJ11_highSurrogate_5068e 1 (some .char), Cond.constant RJ11 110 (55232), Cond.methodLink RJ2 161 yJ11_lowSurrogate_5068e, Cond.static yJ11_lowSurrogate_5068e, Cond.code yJ11_lowSurrogate_5068e cJ11_lowSurrogate_5068e 1 (some .char), Cond.constant RJ11 76 (56320), Cond.methodLink RX5 44 yX5_readNumber, Cond.instanceMethod yX5_readNumber, Cond.selects RX5 yX5_readNumber yX5_readNumber, Cond.code yX5_readNumber cX5_readNumber 1 (some .boolean), Cond.methodLink RX5 96 yX5_isDigit, Cond.static yX5_isDigit, Cond.code yX5_isDigit cX5_isDigit 1 (some .boolean), Cond.methodLink RX5 102 yX5_code, Cond.instanceMethod yX5_code, Cond.selects RX5 yX5_code yX5_code, Cond.code yX5_code cX5_code 2 none, Cond.fieldLink RX5 37 "MistHeaps$Hill" "coded" "I", Cond.fieldLink RX5 25 "MistHeaps$Hill" "codes" "[I", Cond.methodLink RX5 55 yX5_readEither, Cond.instanceMethod yX5_readEither, Cond.selects RX5 yX5_readEither yX5_readEither, Cond.methodLink RX5 51 yX5_readSign, Cond.instanceMethod yX5_readSign]
def wsX5_readPlain_r6 : List Cond := [Cond.selects RX5 yX5_readSign yX5_readSign, Cond.code yX5_readSign cX5_readSign 2 (some .boolean), Cond.methodLink RX5 106 yX5_readPlain, Cond.instanceMethod yX5_readPlain, Cond.selects RX5 yX5_readPlain yX5_readPlain, Cond.code yX5_readBoth cX5_readBoth 3 (some .boolean), Cond.code yX5_readEither cX5_readEither 3 (some .boolean), Cond.methodLink RX5 99 yX5_readBoth, Cond.instanceMethod yX5_readBoth, Cond.selects RX5 yX5_readBoth yX5_readBoth]
def wsX5_readPlain : List Cond := .code yX5_readPlain cX5_readPlain 3 (some .boolean) :: ((wsX5_readPlain_r1 ++ (wsX5_readPlain_r2 ++ (wsX5_readPlain_r3 ++ (wsX5_readPlain_r4 ++ (wsX5_readPlain_r5 ++ wsX5_readPlain_r6))))) ++ wsX50)
def wsX5_read_r1 : List Cond := [Cond.fieldLink RX5 28 "MistHeaps$Hill" "tape" "[I", Cond.fieldLink RX5 31 "MistHeaps$Hill" "size" "I", Cond.fieldLink RX5 34 "MistHeaps$Hill" "at" "I", Cond.fieldLink RX5 37 "MistHeaps$Hill" "coded" "I", Cond.fieldLink RX5 11 "MistHeaps$Hill" "sight" "I", Cond.fieldLink RX5 15 "MistHeaps$Hill" "words" "[I", Cond.fieldLink RX5 19 "MistHeaps$Hill" "amounts" "[I", Cond.fieldLink RX5 48 "MistHeaps$Hill" "number" "I", Cond.fieldLink RX5 22 "MistHeaps$Hill" "ends" "[I", Cond.fieldLink RX5 59 "MistHeaps$Hill" "clauses" "I", Cond.methodLink RX5 40 yX5_readWord, Cond.instanceMethod yX5_readWord, Cond.selects RX5 yX5_readWord yX5_readWord, Cond.initialized RX5, Cond.code yX5_readWord cX5_readWord 5 (some .int), Cond.methodLink RX5 70 Lib.Math.max.name, Cond.static Lib.Math.max.name, Cond.initialized "java/lang/Math", Cond.code Lib.Math.max.name Lib.Math.max.code 2 (some .int), Cond.methodLink RX5 62 yX5_textOf, Cond.static yX5_textOf, Cond.code yX5_textOf cX5_textOf 1 (some (.object "java/lang/String")), Cond.methodLink RX5 66 yX5_sameSigns, Cond.instanceMethod yX5_sameSigns]
def wsX5_read_r2 : List Cond := [Cond.selects RX5 yX5_sameSigns yX5_sameSigns, Cond.code yX5_sameSigns cX5_sameSigns 3 (some .int), Cond.methodLink RX5 76 yJ0_length_8abf5, Cond.instanceMethod yJ0_length_8abf5, Cond.selects RJ0 yJ0_length_8abf5 yJ0_length_8abf5, Cond.initialized RJ0, Cond.code yJ0_length_8abf5 cJ0_length_8abf5 1 (some .int), Cond.fieldLink RJ0 9 "java/lang/String" "value" "[B", Cond.methodLink RJ0 335 yJ0_coder_7d493, Cond.instanceMethod yJ0_coder_7d493, Cond.selects RJ0 yJ0_coder_7d493 yJ0_coder_7d493, Cond.code yJ0_coder_7d493 cJ0_coder_7d493 1 (some .byte), Cond.fieldLink RJ0 38 "java/lang/String" "COMPACT_STRINGS" "Z", Cond.fieldLink RJ0 15 "java/lang/String" "coder" "B", Cond.methodLink RX5 89 yJ0_charAt_5068e, Cond.instanceMethod yJ0_charAt_5068e, Cond.selects RJ0 yJ0_charAt_5068e yJ0_charAt_5068e, Cond.code yJ0_charAt_5068e cJ0_charAt_5068e 2 (some .char), Cond.methodLink RJ0 492 yJ0_isLatin1_aae02, Cond.instanceMethod yJ0_isLatin1_aae02, Cond.selects RJ0 yJ0_isLatin1_aae02 yJ0_isLatin1_aae02, Cond.code yJ0_isLatin1_aae02 cJ0_isLatin1_aae02 1 (some .boolean), Cond.methodLink RJ0 495 yJ1_charAt_3b067, Cond.static yJ1_charAt_3b067]
def wsX5_read_r3 : List Cond := [Cond.initialized RJ1, Cond.code yJ1_charAt_3b067 cJ1_charAt_3b067 2 (some .char), Cond.methodLink RJ1 9 yJ0_checkIndex_df160, Cond.static yJ0_checkIndex_df160, Cond.code yJ0_checkIndex_df160 cJ0_checkIndex_df160 2 none, Cond.fieldLink RJ0 1053 "jdk/internal/util/Preconditions" "SIOOBE_FORMATTER" "Ljava/util/function/BiFunction;", Cond.methodLink RJ0 1059 yJ3_checkIndex_8e157, Cond.static yJ3_checkIndex_8e157, Cond.initialized RJ3, Cond.code yJ3_checkIndex_8e157 cJ3_checkIndex_8e157 3 (some .int), Cond.methodLink RJ0 498 yJ2_charAt_3b067, Cond.static yJ2_charAt_3b067, Cond.initialized RJ2, Cond.code yJ2_charAt_3b067 cJ2_charAt_3b067 2 (some .char), Cond.methodLink RJ2 67 yJ2_checkIndex_2214a, Cond.static yJ2_checkIndex_2214a, Cond.code yJ2_checkIndex_2214a cJ2_checkIndex_2214a 2 none, Cond.methodLink RJ2 48 yJ2_length_9d52b, Cond.static yJ2_length_9d52b, Cond.code yJ2_length_9d52b cJ2_length_9d52b 1 (some .int), Cond.methodLink RJ2 414 yJ0_checkIndex_df160, Cond.methodLink RJ2 71 yJ2_getChar_3b067, Cond.static yJ2_getChar_3b067, Cond.code yJ2_getChar_3b067 cJ2_getChar_3b067 2 (some .char)]
def wsX5_read_r4 : List Cond := [Cond.fieldLink RJ2 44 "java/lang/StringUTF16" "$assertionsDisabled" "Z", Cond.fieldLink RJ2 59 "java/lang/StringUTF16" "HI_BYTE_SHIFT" "I", Cond.fieldLink RJ2 63 "java/lang/StringUTF16" "LO_BYTE_SHIFT" "I", Cond.methodLink RX5 44 yX5_readNumber, Cond.instanceMethod yX5_readNumber, Cond.selects RX5 yX5_readNumber yX5_readNumber, Cond.code yX5_readNumber cX5_readNumber 1 (some .boolean), Cond.methodLink RX5 93 yX5_sign, Cond.instanceMethod yX5_sign, Cond.selects RX5 yX5_sign yX5_sign, Cond.code yX5_sign cX5_sign 1 (some .int), Cond.methodLink RX5 96 yX5_isDigit, Cond.static yX5_isDigit, Cond.code yX5_isDigit cX5_isDigit 1 (some .boolean), Cond.methodLink RX5 51 yX5_readSign, Cond.instanceMethod yX5_readSign, Cond.selects RX5 yX5_readSign yX5_readSign, Cond.code yX5_readSign cX5_readSign 2 (some .boolean), Cond.methodLink RX5 55 yX5_readEither, Cond.instanceMethod yX5_readEither, Cond.selects RX5 yX5_readEither yX5_readEither, Cond.code yX5_readEither cX5_readEither 3 (some .boolean), Cond.methodLink RX5 99 yX5_readBoth, Cond.instanceMethod yX5_readBoth]
def wsX5_read_r5 : List Cond := [Cond.selects RX5 yX5_readBoth yX5_readBoth, Cond.methodLink RX5 102 yX5_code, Cond.instanceMethod yX5_code, Cond.selects RX5 yX5_code yX5_code, Cond.code yX5_code cX5_code 2 none, Cond.fieldLink RX5 25 "MistHeaps$Hill" "codes" "[I", Cond.code yX5_readBoth cX5_readBoth 3 (some .boolean), Cond.methodLink RX5 106 yX5_readPlain, Cond.instanceMethod yX5_readPlain, Cond.selects RX5 yX5_readPlain yX5_readPlain, Cond.code yX5_readPlain cX5_readPlain 3 (some .boolean), Cond.methodLink RX5 109 yX5_readTest, Cond.instanceMethod yX5_readTest, Cond.selects RX5 yX5_readTest yX5_readTest, Cond.code yX5_readTest cX5_readTest 3 (some .boolean), Cond.methodLink RX5 114 yJ0_indexOf_0f7a4, Cond.instanceMethod yJ0_indexOf_0f7a4, Cond.selects RJ0 yJ0_indexOf_0f7a4 yJ0_indexOf_0f7a4, Cond.code yJ0_indexOf_0f7a4 cJ0_indexOf_0f7a4 2 (some .int), Cond.methodLink RJ0 633 yJ0_indexOf_7cf53, Cond.instanceMethod yJ0_indexOf_7cf53, Cond.selects RJ0 yJ0_indexOf_7cf53 yJ0_indexOf_7cf53, Cond.code yJ0_indexOf_7cf53 cJ0_indexOf_7cf53 3 (some .int), Cond.methodLink RJ0 505 yJ0_length_8abf5]
def wsX5_read_r6 : List Cond := [Cond.methodLink RJ0 637 yJ1_indexOf_4cfef, Cond.static yJ1_indexOf_4cfef, Cond.code yJ1_indexOf_4cfef cJ1_indexOf_4cfef 4 (some .int), Cond.methodLink RJ1 92 Lib.Math.max.name, Cond.methodLink RJ1 38 Lib.Math.min.name, Cond.static Lib.Math.min.name, Cond.code Lib.Math.min.name Lib.Math.min.code 2 (some .int), Cond.methodLink RJ1 88 yJ1_canEncode_9a6ad, Cond.static yJ1_canEncode_9a6ad, Cond.code yJ1_canEncode_9a6ad cJ1_canEncode_9a6ad 1 (some .boolean), Cond.methodLink RJ1 95 yJ1_indexOfChar_4cfef, Cond.static yJ1_indexOfChar_4cfef, Cond.code yJ1_indexOfChar_4cfef cJ1_indexOfChar_4cfef 6 (some .int), Cond.methodLink RJ0 640 yJ2_indexOf_4cfef, Cond.static yJ2_indexOf_4cfef, Cond.code yJ2_indexOf_4cfef cJ2_indexOf_4cfef 4 (some .int), Cond.methodLink RJ2 224 Lib.Math.max.name, Cond.methodLink RJ2 183 Lib.Math.min.name, Cond.constant RJ2 227 (65536), Cond.methodLink RJ2 228 yJ2_indexOfChar_4cfef, Cond.static yJ2_indexOfChar_4cfef, Cond.code yJ2_indexOfChar_4cfef cJ2_indexOfChar_4cfef 4 (some .int), Cond.methodLink RJ2 96 yJ2_checkBoundsBeginEnd_d044e, Cond.static yJ2_checkBoundsBeginEnd_d044e]
def wsX5_read_r7 : List Cond := [Cond.code yJ2_checkBoundsBeginEnd_d044e cJ2_checkBoundsBeginEnd_d044e 3 none, Cond.methodLink RJ2 241 yJ0_checkBoundsBeginEnd_23922, Cond.static yJ0_checkBoundsBeginEnd_23922, Cond.code yJ0_checkBoundsBeginEnd_23922 cJ0_checkBoundsBeginEnd_23922 3 none, Cond.methodLink RJ0 1062 yJ3_checkFromToIndex_8c36e, Cond.static yJ3_checkFromToIndex_8c36e, Cond.code yJ3_checkFromToIndex_8c36e cJ3_checkFromToIndex_8c36e 4 (some .int), Cond.methodLink RJ2 244 yJ2_indexOfCharUnsafe_4cfef, Cond.static yJ2_indexOfCharUnsafe_4cfef, Cond.code yJ2_indexOfCharUnsafe_4cfef cJ2_indexOfCharUnsafe_4cfef 5 (some .int), Cond.methodLink RJ2 232 yJ2_indexOfSupplementary_4cfef, Cond.static yJ2_indexOfSupplementary_4cfef, Cond.code yJ2_indexOfSupplementary_4cfef cJ2_indexOfSupplementary_4cfef 7 (some .int), Cond.methodLink RJ2 164 yJ11_isValidCodePoint_9a6ad, Cond.static yJ11_isValidCodePoint_9a6ad, Cond.initialized RJ11, Cond.code yJ11_isValidCodePoint_9a6ad cJ11_isValidCodePoint_9a6ad 2 (some .boolean), Cond.methodLink RJ2 157 yJ11_highSurrogate_5068e, Cond.static yJ11_highSurrogate_5068e, Cond.code yJ11_highSurrogate_5068e cJ11_highSurrogate_5068e 1 (some .char), Cond.constant RJ11 110 (55232), Cond.methodLink RJ2 161 yJ11_lowSurrogate_5068e, Cond.static yJ11_lowSurrogate_5068e, Cond.code yJ11_lowSurrogate_5068e cJ11_lowSurrogate_5068e 1 (some .char)]
def wsX5_read_r8 : List Cond := [Cond.constant RJ11 76 (56320)]
def wsX5_read : List Cond := .code yX5_read cX5_read 5 (some .int) :: ((wsX5_read_r1 ++ (wsX5_read_r2 ++ (wsX5_read_r3 ++ (wsX5_read_r4 ++ (wsX5_read_r5 ++ (wsX5_read_r6 ++ (wsX5_read_r7 ++ wsX5_read_r8))))))) ++ wsX50)
def wsX6_init : List Cond := .code yX6_init cX6_init 5 none :: ([.methodLink RX6 1 yX3_init, .instanceMethod yX3_init, .initialized RX3, .code yX3_init cX3_init 5 none, .methodLink RX3 3 objectInit, .instanceMethod objectInit, .code objectInit ⟨#[0xb1]⟩ 1 none, .fieldLink RX3 9 "MistHeaps$Heap" "kind" "I", .fieldLink RX3 15 "MistHeaps$Heap" "number" "I", .fieldLink RX3 18 "MistHeaps$Heap" "v" "I", .fieldLink RX3 21 "MistHeaps$Heap" "cell" "I"] ++ wsX10 ++ wsX30 ++ wsX40 ++ wsX60 ++ wsX70 ++ wsX90 ++ wsX100)
def wsX7_init : List Cond := .code yX7_init cX7_init 5 none :: ([.methodLink RX7 1 yX1_init, .instanceMethod yX1_init, .initialized RX1, .code yX1_init cX1_init 5 none, .methodLink RX1 1 yX3_init, .instanceMethod yX3_init, .initialized RX3, .code yX3_init cX3_init 5 none, .methodLink RX3 3 objectInit, .instanceMethod objectInit, .code objectInit ⟨#[0xb1]⟩ 1 none, .fieldLink RX3 9 "MistHeaps$Heap" "kind" "I", .fieldLink RX3 15 "MistHeaps$Heap" "number" "I", .fieldLink RX3 18 "MistHeaps$Heap" "v" "I", .fieldLink RX3 21 "MistHeaps$Heap" "cell" "I"] ++ wsX10 ++ wsX30 ++ wsX40 ++ wsX60 ++ wsX70 ++ wsX90 ++ wsX100)
def wsX8_init : List Cond := .code yX8_init cX8_init 1 none :: ([.methodLink RX8 3 objectInit, .instanceMethod objectInit, .code objectInit ⟨#[0xb1]⟩ 1 none, .arrayClass .int, .fieldLink RX8 9 "MistHeaps$Scene" "tape" "[I", .classLink RX8 15 RX5, .instantiable RX5 11, .initialized RX5, .fieldLink RX8 18 "MistHeaps$Scene" "hill" "LMistHeaps$Hill;", .classLink RX8 22 RX3, .fieldLink RX8 24 "MistHeaps$Scene" "heaps" "[LMistHeaps$Heap;", .fieldLink RX8 28 "MistHeaps$Scene" "walk" "[I", .fieldLink RX8 31 "MistHeaps$Scene" "book" "[I", .fieldLink RX8 34 "MistHeaps$Scene" "facts" "[I", .methodLink RX8 17 yX5_init, .instanceMethod yX5_init, .code yX5_init cX5_init 1 none, .methodLink RX5 3 objectInit, .fieldLink RX5 11 "MistHeaps$Hill" "sight" "I", .fieldLink RX5 15 "MistHeaps$Hill" "words" "[I", .fieldLink RX5 19 "MistHeaps$Hill" "amounts" "[I", .fieldLink RX5 22 "MistHeaps$Hill" "ends" "[I", .fieldLink RX5 25 "MistHeaps$Hill" "codes" "[I"] ++ wsX80 ++ wsX50)
def wsX8_copyFrom : List Cond := .code yX8_copyFrom cX8_copyFrom 3 none :: ([.fieldLink RX8 9 "MistHeaps$Scene" "tape" "[I", .methodLink RX8 37 arraycopyName, .native arraycopyName, .static arraycopyName, .initialized "java/lang/System", .fieldLink RX8 43 "MistHeaps$Scene" "tapeSize" "I", .fieldLink RX8 18 "MistHeaps$Scene" "hill" "LMistHeaps$Hill;", .fieldLink RX8 47 "MistHeaps$Scene" "hills" "I", .fieldLink RX8 50 "MistHeaps$Scene" "edges" "J", .fieldLink RX8 54 "MistHeaps$Scene" "mist" "I", .fieldLink RX8 57 "MistHeaps$Scene" "snow" "I", .fieldLink RX8 24 "MistHeaps$Scene" "heaps" "[LMistHeaps$Heap;", .fieldLink RX8 60 "MistHeaps$Scene" "heapCount" "I", .fieldLink RX8 28 "MistHeaps$Scene" "walk" "[I", .fieldLink RX8 63 "MistHeaps$Scene" "walkSize" "I", .fieldLink RX8 31 "MistHeaps$Scene" "book" "[I", .fieldLink RX8 66 "MistHeaps$Scene" "bookSize" "I"] ++ wsX80)
def wsX8_heapAt : List Cond := .code yX8_heapAt cX8_heapAt 2 (some (.object "MistHeaps$Heap")) :: ([.fieldLink RX8 60 "MistHeaps$Scene" "heapCount" "I", .fieldLink RX8 24 "MistHeaps$Scene" "heaps" "[LMistHeaps$Heap;"] ++ wsX80)
def wsX8_areHeaps : List Cond := .code yX8_areHeaps cX8_areHeaps 3 (some .boolean) :: ([.methodLink RX8 69 yX8_heapAt, .instanceMethod yX8_heapAt, .selects RX8 yX8_heapAt yX8_heapAt, .initialized RX8, .code yX8_heapAt cX8_heapAt 2 (some (.object "MistHeaps$Heap")), .fieldLink RX8 60 "MistHeaps$Scene" "heapCount" "I", .fieldLink RX8 24 "MistHeaps$Scene" "heaps" "[LMistHeaps$Heap;"] ++ wsX80)
def wsX8_cellsSeeing_r1 : List Cond := [Cond.fieldLink RX8 57 "MistHeaps$Scene" "snow" "I", Cond.fieldLink RX8 73 "MistHeaps$Heap" "cell" "I", Cond.methodLink RX8 69 yX8_heapAt, Cond.instanceMethod yX8_heapAt, Cond.selects RX8 yX8_heapAt yX8_heapAt, Cond.initialized RX8, Cond.code yX8_heapAt cX8_heapAt 2 (some (.object "MistHeaps$Heap")), Cond.fieldLink RX8 60 "MistHeaps$Scene" "heapCount" "I", Cond.fieldLink RX8 24 "MistHeaps$Scene" "heaps" "[LMistHeaps$Heap;", Cond.methodLink RX8 109 yX8_reachOf, Cond.instanceMethod yX8_reachOf, Cond.selects RX8 yX8_reachOf yX8_reachOf, Cond.code yX8_reachOf cX8_reachOf 4 (some .int), Cond.fieldLink RX8 76 "MistHeaps$Heap" "number" "I", Cond.fieldLink RX8 79 "MistHeaps$Heap" "kind" "I", Cond.fieldLink RX8 18 "MistHeaps$Scene" "hill" "LMistHeaps$Hill;", Cond.fieldLink RX8 86 "MistHeaps$Hill" "sight" "I", Cond.fieldLink RX8 34 "MistHeaps$Scene" "facts" "[I", Cond.fieldLink RX8 54 "MistHeaps$Scene" "mist" "I", Cond.methodLink RX8 82 yX8_tellFacts, Cond.instanceMethod yX8_tellFacts, Cond.selects RX8 yX8_tellFacts yX8_tellFacts, Cond.code yX8_tellFacts cX8_tellFacts 5 none, Cond.static yX11_rowOf]
def wsX8_cellsSeeing_r2 : List Cond := [Cond.initialized RX11, Cond.code yX11_rowOf cX11_rowOf 1 (some .int), Cond.static yX11_columnOf, Cond.code yX11_columnOf cX11_columnOf 1 (some .int), Cond.methodLink RX8 89 yX5_total, Cond.instanceMethod yX5_total, Cond.selects RX5 yX5_total yX5_total, Cond.initialized RX5, Cond.code yX5_total cX5_total 5 (some .int), Cond.fieldLink RX5 59 "MistHeaps$Hill" "clauses" "I", Cond.fieldLink RX5 15 "MistHeaps$Hill" "words" "[I", Cond.fieldLink RX5 19 "MistHeaps$Hill" "amounts" "[I", Cond.methodLink RX5 120 yX5_holds, Cond.instanceMethod yX5_holds, Cond.selects RX5 yX5_holds yX5_holds, Cond.code yX5_holds cX5_holds 7 (some .boolean), Cond.fieldLink RX5 22 "MistHeaps$Hill" "ends" "[I", Cond.fieldLink RX5 25 "MistHeaps$Hill" "codes" "[I", Cond.methodLink RX5 124 yX5_isSo, Cond.static yX5_isSo, Cond.code yX5_isSo cX5_isSo 4 (some .boolean), Cond.methodLink RX8 93 ⟨"MistHeaps$Heap", "reachBy", "(II)I"⟩, Cond.sameMethod "MistHeaps$Heap" "MistHeaps$Heap" "reachBy" "(II)I", Cond.selects RX1 ⟨"MistHeaps$Heap", "reachBy", "(II)I"⟩ yX3_reachBy]
def wsX8_cellsSeeing_r3 : List Cond := [Cond.instanceMethod yX3_reachBy, Cond.initialized RX3, Cond.code yX3_reachBy cX3_reachBy 3 (some .int), Cond.methodLink RX3 28 Lib.Math.max.name, Cond.static Lib.Math.max.name, Cond.initialized "java/lang/Math", Cond.code Lib.Math.max.name Lib.Math.max.code 2 (some .int), Cond.methodLink RX8 93 yX3_reachBy, Cond.selects RX3 yX3_reachBy yX3_reachBy, Cond.instanceMethod ⟨"MistHeaps$Heap", "reachBy", "(II)I"⟩, Cond.selects RX4 ⟨"MistHeaps$Heap", "reachBy", "(II)I"⟩ yX4_reachBy, Cond.instanceMethod yX4_reachBy, Cond.initialized RX4, Cond.code yX4_reachBy cX4_reachBy 3 (some .int), Cond.fieldLink RX4 7 "MistHeaps$High" "v" "I", Cond.sameField "MistHeaps$High" "MistHeaps$Heap" "v" "I", Cond.methodLink RX4 13 yX3_reachBy, Cond.superclass RX4 RX3, Cond.selects RX6 ⟨"MistHeaps$Heap", "reachBy", "(II)I"⟩ yX6_reachBy, Cond.instanceMethod yX6_reachBy, Cond.initialized RX6, Cond.code yX6_reachBy cX6_reachBy 3 (some .int), Cond.methodLink RX6 7 yX3_reachBy, Cond.superclass RX6 RX3]
def wsX8_cellsSeeing_r4 : List Cond := [Cond.selects RX7 ⟨"MistHeaps$Heap", "reachBy", "(II)I"⟩ yX7_reachBy, Cond.instanceMethod yX7_reachBy, Cond.initialized RX7, Cond.code yX7_reachBy cX7_reachBy 3 (some .int), Cond.methodLink RX7 11 Lib.Math.min.name, Cond.static Lib.Math.min.name, Cond.code Lib.Math.min.name Lib.Math.min.code 2 (some .int), Cond.selects RX9 ⟨"MistHeaps$Heap", "reachBy", "(II)I"⟩ yX9_reachBy, Cond.instanceMethod yX9_reachBy, Cond.initialized RX9, Cond.code yX9_reachBy cX9_reachBy 3 (some .int), Cond.fieldLink RX9 7 "MistHeaps$Snowed" "v" "I", Cond.sameField "MistHeaps$Snowed" "MistHeaps$Heap" "v" "I", Cond.methodLink RX9 13 yX6_reachBy, Cond.sameMethod "MistHeaps$Low" "MistHeaps$Low" "reachBy" "(II)I", Cond.superclass RX9 RX6, Cond.selects RX10 ⟨"MistHeaps$Heap", "reachBy", "(II)I"⟩ yX4_reachBy, Cond.static yX11_apart, Cond.code yX11_apart cX11_apart 2 (some .int), Cond.methodLink RX11 263 Lib.Math.abs.name, Cond.static Lib.Math.abs.name, Cond.code Lib.Math.abs.name Lib.Math.abs.code 1 (some .int), Cond.methodLink RX11 204 Lib.Math.max.name, Cond.methodLink RX11 212 yX11_rowOf]
def wsX8_cellsSeeing_r5 : List Cond := [Cond.methodLink RX11 215 yX11_columnOf]
def wsX8_cellsSeeing : List Cond := .code yX8_cellsSeeing cX8_cellsSeeing 7 (some .long) :: ((wsX8_cellsSeeing_r1 ++ (wsX8_cellsSeeing_r2 ++ (wsX8_cellsSeeing_r3 ++ (wsX8_cellsSeeing_r4 ++ wsX8_cellsSeeing_r5)))) ++ wsX80 ++ wsX10 ++ wsX30 ++ wsX40 ++ wsX60 ++ wsX70 ++ wsX90 ++ wsX100 ++ wsX50)
def wsX9_init : List Cond := .code yX9_init cX9_init 5 none :: ([.methodLink RX9 1 yX6_init, .instanceMethod yX6_init, .initialized RX6, .code yX6_init cX6_init 5 none, .methodLink RX6 1 yX3_init, .instanceMethod yX3_init, .initialized RX3, .code yX3_init cX3_init 5 none, .methodLink RX3 3 objectInit, .instanceMethod objectInit, .code objectInit ⟨#[0xb1]⟩ 1 none, .fieldLink RX3 9 "MistHeaps$Heap" "kind" "I", .fieldLink RX3 15 "MistHeaps$Heap" "number" "I", .fieldLink RX3 18 "MistHeaps$Heap" "v" "I", .fieldLink RX3 21 "MistHeaps$Heap" "cell" "I"] ++ wsX10 ++ wsX30 ++ wsX40 ++ wsX60 ++ wsX70 ++ wsX90 ++ wsX100)
def wsX10_init : List Cond := .code yX10_init cX10_init 5 none :: ([.methodLink RX10 3 yX4_init, .instanceMethod yX4_init, .initialized RX4, .code yX4_init cX4_init 5 none, .methodLink RX4 1 yX3_init, .instanceMethod yX3_init, .initialized RX3, .code yX3_init cX3_init 5 none, .methodLink RX3 3 objectInit, .instanceMethod objectInit, .code objectInit ⟨#[0xb1]⟩ 1 none, .fieldLink RX3 9 "MistHeaps$Heap" "kind" "I", .fieldLink RX3 15 "MistHeaps$Heap" "number" "I", .fieldLink RX3 18 "MistHeaps$Heap" "v" "I", .fieldLink RX3 21 "MistHeaps$Heap" "cell" "I"] ++ wsX10 ++ wsX30 ++ wsX40 ++ wsX60 ++ wsX70 ++ wsX90 ++ wsX100)
def wsX10_doLooks_r1 : List Cond := [Cond.methodLink RX10 44 ⟨"MistHeaps$Turning", "doSees", "(ILjava/util/ArrayList;)I"⟩, Cond.sameMethod "MistHeaps$Turning" "MistHeaps$High" "doSees" "(ILjava/util/ArrayList;)I", Cond.selects RX10 ⟨"MistHeaps$Turning", "doSees", "(ILjava/util/ArrayList;)I"⟩ yX4_doSees, Cond.instanceMethod yX4_doSees, Cond.initialized RX4, Cond.code yX4_doSees cX4_doSees 3 (some .int), Cond.methodLink RX4 21 yX3_doSees, Cond.sameMethod "MistHeaps$Heap" "MistHeaps$Heap" "doSees" "(ILjava/util/ArrayList;)I", Cond.superclass RX4 RX3, Cond.instanceMethod yX3_doSees, Cond.initialized RX3, Cond.code yX3_doSees cX3_doSees 3 (some .int), Cond.fieldLink RX3 15 "MistHeaps$Heap" "number" "I", Cond.methodLink RX3 34 yX3_begin, Cond.static yX3_begin, Cond.code yX3_begin cX3_begin 2 none, Cond.methodLink RX3 45 yJx4a65c_size_8abf5, Cond.instanceMethod yJx4a65c_size_8abf5, Cond.selects RJx4a65c yJx4a65c_size_8abf5 yJx4a65c_size_8abf5, Cond.initialized RJx4a65c, Cond.code yJx4a65c_size_8abf5 cJx4a65c_size_8abf5 1 (some .int), Cond.fieldLink RJx4a65c 48 "java/util/ArrayList" "size" "I", Cond.methodLink RX3 51 yJ6_valueOf_2dffe, Cond.static yJ6_valueOf_2dffe]
def wsX10_doLooks_r2 : List Cond := [Cond.initialized RJ6, Cond.code yJ6_valueOf_2dffe cJ6_valueOf_2dffe 1 (some (.object "java/lang/Integer")), Cond.fieldLink RJ6 191 "java/lang/Integer$IntegerCache" "high" "I", Cond.fieldLink RJ6 195 "java/lang/Integer$IntegerCache" "cache" "[Ljava/lang/Integer;", Cond.classLink RJ6 1 RJ6, Cond.instantiable RJ6 1, Cond.methodLink RJ6 199 yJ6_init_d00df, Cond.instanceMethod yJ6_init_d00df, Cond.code yJ6_init_d00df cJ6_init_d00df 2 none, Cond.fieldLink RJ6 205 "java/lang/Integer" "value" "I", Cond.methodLink RJ6 202 yJxd2413_init_da8c8, Cond.instanceMethod yJxd2413_init_da8c8, Cond.initialized RJxd2413, Cond.code yJxd2413_init_da8c8 cJxd2413_init_da8c8 1 none, Cond.methodLink RJxd2413 1 objectInit, Cond.instanceMethod objectInit, Cond.code objectInit ⟨#[0xb1]⟩ 1 none, Cond.methodLink RX3 57 yJx4a65c_add_9ea2d, Cond.instanceMethod yJx4a65c_add_9ea2d, Cond.selects RJx4a65c yJx4a65c_add_9ea2d yJx4a65c_add_9ea2d, Cond.code yJx4a65c_add_9ea2d cJx4a65c_add_9ea2d 2 (some .boolean), Cond.fieldLink RJx4a65c 63 "java/util/ArrayList" "modCount" "I", Cond.sameField "java/util/ArrayList" "java/util/AbstractList" "modCount" "I", Cond.fieldLink RJx4a65c 9 "java/util/ArrayList" "elementData" "[Ljava/lang/Object;"]
def wsX10_doLooks_r3 : List Cond := [Cond.methodLink RJx4a65c 131 yJx4a65c_add_72be8, Cond.instanceMethod yJx4a65c_add_72be8, Cond.selects RJx4a65c yJx4a65c_add_72be8 yJx4a65c_add_72be8, Cond.code yJx4a65c_add_72be8 cJx4a65c_add_72be8 4 none, Cond.methodLink RJx4a65c 129 yJx4a65c_grow_d5877, Cond.instanceMethod yJx4a65c_grow_d5877, Cond.selects RJx4a65c yJx4a65c_grow_d5877 yJx4a65c_grow_d5877, Cond.code yJx4a65c_grow_d5877 cJx4a65c_grow_d5877 1 (some (.array (.object "java/lang/Object"))), Cond.methodLink RJx4a65c 69 yJx4a65c_grow_92f84, Cond.instanceMethod yJx4a65c_grow_92f84, Cond.selects RJx4a65c yJx4a65c_grow_92f84 yJx4a65c_grow_92f84, Cond.code yJx4a65c_grow_92f84 cJx4a65c_grow_92f84 4 (some (.array (.object "java/lang/Object"))), Cond.fieldLink RJx4a65c 39 "java/util/ArrayList" "DEFAULTCAPACITY_EMPTY_ELEMENTDATA" "[Ljava/lang/Object;", Cond.methodLink RJx4a65c 79 Lib.Math.max.name, Cond.static Lib.Math.max.name, Cond.initialized "java/lang/Math", Cond.code Lib.Math.max.name Lib.Math.max.code 2 (some .int), Cond.classLink RJx4a65c 7 "java/lang/Object", Cond.methodLink RJx4a65c 73 yJ8_newLength_cabcc, Cond.static yJ8_newLength_cabcc, Cond.initialized RJ8, Cond.code yJ8_newLength_cabcc cJ8_newLength_cabcc 4 (some .int), Cond.methodLink RJ8 194 Lib.Math.max.name, Cond.constant RJ8 200 (2147483639)]
def wsX10_doLooks_r4 : List Cond := [Cond.methodLink RJ8 201 yJ8_hugeLength_7cf53, Cond.static yJ8_hugeLength_7cf53, Cond.code yJ8_hugeLength_7cf53 cJ8_hugeLength_7cf53 3 (some .int), Cond.methodLink RJx4a65c 66 yJ7_copyOf_1904c, Cond.static yJ7_copyOf_1904c, Cond.initialized RJ7, Cond.code yJ7_copyOf_1904c cJ7_copyOf_1904c 2 (some (.array (.object "java/lang/Object"))), Cond.methodLink RJ7 86 ⟨"java/lang/Object", "getClass", "()Ljava/lang/Class;"⟩, Cond.selects "[Ljava/lang/Object;" ⟨"java/lang/Object", "getClass", "()Ljava/lang/Class;"⟩ ⟨"java/lang/Object", "getClass", "()Ljava/lang/Class;"⟩, Cond.instanceMethod ⟨"java/lang/Object", "getClass", "()Ljava/lang/Class;"⟩, Cond.native ⟨"java/lang/Object", "getClass", "()Ljava/lang/Class;"⟩, Cond.methodLink RJ7 300 yJ7_copyOf_6403c, Cond.static yJ7_copyOf_6403c, Cond.code yJ7_copyOf_6403c cJ7_copyOf_6403c 4 (some (.array (.object "java/lang/Object"))), Cond.classLink RJ7 110 "[Ljava/lang/Object;", Cond.classLink RJ7 2 "java/lang/Object", Cond.methodLink RJ7 304 Lib.Math.min.name, Cond.static Lib.Math.min.name, Cond.code Lib.Math.min.name Lib.Math.min.code 2 (some .int), Cond.methodLink RJ7 150 arraycopyName, Cond.native arraycopyName, Cond.static arraycopyName, Cond.initialized "java/lang/System"]
def wsX10_doLooks : List Cond := .code yX10_doLooks cX10_doLooks 4 (some .int) :: ((wsX10_doLooks_r1 ++ (wsX10_doLooks_r2 ++ (wsX10_doLooks_r3 ++ wsX10_doLooks_r4))) ++ wsX10 ++ wsX30 ++ wsX40 ++ wsX60 ++ wsX70 ++ wsX90 ++ wsX100 ++ wsJx4a65c0 ++ wsJ60)
def wsJxa1e45_init_da8c8 : List Cond := .code yJxa1e45_init_da8c8 cJxa1e45_init_da8c8 1 none :: ([.methodLink RJxa1e45 1 objectInit, .instanceMethod objectInit, .code objectInit ⟨#[0xb1]⟩ 1 none])
def wsJxc12de_init_da8c8 : List Cond := .code yJxc12de_init_da8c8 cJxc12de_init_da8c8 1 none :: ([.fieldLink RJxc12de 7 "java/util/AbstractList" "modCount" "I", .methodLink RJxc12de 1 yJxa1e45_init_da8c8, .instanceMethod yJxa1e45_init_da8c8, .initialized RJxa1e45, .code yJxa1e45_init_da8c8 cJxa1e45_init_da8c8 1 none, .methodLink RJxa1e45 1 objectInit, .instanceMethod objectInit, .code objectInit ⟨#[0xb1]⟩ 1 none] ++ wsJx4a65c0)
def wsJx4a65c_init_da8c8 : List Cond := .code yJx4a65c_init_da8c8 cJx4a65c_init_da8c8 1 none :: ([.fieldLink RJx4a65c 39 "java/util/ArrayList" "DEFAULTCAPACITY_EMPTY_ELEMENTDATA" "[Ljava/lang/Object;", .fieldLink RJx4a65c 9 "java/util/ArrayList" "elementData" "[Ljava/lang/Object;", .methodLink RJx4a65c 1 yJxc12de_init_da8c8, .instanceMethod yJxc12de_init_da8c8, .initialized RJxc12de, .code yJxc12de_init_da8c8 cJxc12de_init_da8c8 1 none, .fieldLink RJxc12de 7 "java/util/AbstractList" "modCount" "I", .methodLink RJxc12de 1 yJxa1e45_init_da8c8, .instanceMethod yJxa1e45_init_da8c8, .initialized RJxa1e45, .code yJxa1e45_init_da8c8 cJxa1e45_init_da8c8 1 none, .methodLink RJxa1e45 1 objectInit, .instanceMethod objectInit, .code objectInit ⟨#[0xb1]⟩ 1 none] ++ wsJx4a65c0)
def wsX11_init_r1 : List Cond := [Cond.methodLink RX11 5 objectInit, Cond.instanceMethod objectInit, Cond.code objectInit ⟨#[0xb1]⟩ 1 none, Cond.classLink RX11 11 RX8, Cond.instantiable RX8 14, Cond.initialized RX8, Cond.fieldLink RX11 14 "MistHeaps" "scene" "LMistHeaps$Scene;", Cond.fieldLink RX11 18 "MistHeaps" "kept" "LMistHeaps$Scene;", Cond.fieldLink RX11 21 "MistHeaps" "isKept" "Z", Cond.classLink RX11 25 RX5, Cond.instantiable RX5 11, Cond.initialized RX5, Cond.fieldLink RX11 28 "MistHeaps" "blank" "LMistHeaps$Hill;", Cond.classLink RX11 32 RX2, Cond.instantiable RX2 4, Cond.initialized RX2, Cond.fieldLink RX11 35 "MistHeaps" "goings" "LMistHeaps$Goings;", Cond.classLink RX11 39 RX0, Cond.instantiable RX0 5, Cond.initialized RX0, Cond.fieldLink RX11 42 "MistHeaps" "chances" "LMistHeaps$Chances;", Cond.classLink RX11 46 RJx4a65c, Cond.instantiable RJx4a65c 3, Cond.initialized RJx4a65c]
def wsX11_init_r2 : List Cond := [Cond.fieldLink RX11 49 "MistHeaps" "bodies" "Ljava/util/ArrayList;", Cond.methodLink RX11 13 yX8_init, Cond.instanceMethod yX8_init, Cond.code yX8_init cX8_init 1 none, Cond.methodLink RX8 3 objectInit, Cond.arrayClass .int, Cond.fieldLink RX8 9 "MistHeaps$Scene" "tape" "[I", Cond.classLink RX8 15 RX5, Cond.fieldLink RX8 18 "MistHeaps$Scene" "hill" "LMistHeaps$Hill;", Cond.classLink RX8 22 RX3, Cond.fieldLink RX8 24 "MistHeaps$Scene" "heaps" "[LMistHeaps$Heap;", Cond.fieldLink RX8 28 "MistHeaps$Scene" "walk" "[I", Cond.fieldLink RX8 31 "MistHeaps$Scene" "book" "[I", Cond.fieldLink RX8 34 "MistHeaps$Scene" "facts" "[I", Cond.methodLink RX8 17 yX5_init, Cond.instanceMethod yX5_init, Cond.code yX5_init cX5_init 1 none, Cond.methodLink RX5 3 objectInit, Cond.fieldLink RX5 11 "MistHeaps$Hill" "sight" "I", Cond.fieldLink RX5 15 "MistHeaps$Hill" "words" "[I", Cond.fieldLink RX5 19 "MistHeaps$Hill" "amounts" "[I", Cond.fieldLink RX5 22 "MistHeaps$Hill" "ends" "[I", Cond.fieldLink RX5 25 "MistHeaps$Hill" "codes" "[I", Cond.methodLink RX11 27 yX5_init]
def wsX11_init_r3 : List Cond := [Cond.methodLink RX11 34 yX2_init, Cond.instanceMethod yX2_init, Cond.code yX2_init cX2_init 1 none, Cond.methodLink RX2 3 objectInit, Cond.fieldLink RX2 9 "MistHeaps$Goings" "reach" "[I", Cond.fieldLink RX2 15 "MistHeaps$Goings" "onward" "[I", Cond.classLink RX2 18 RX3, Cond.instantiable RX3 4, Cond.initialized RX3, Cond.fieldLink RX2 23 "MistHeaps$Goings" "spare" "LMistHeaps$Heap;", Cond.methodLink RX2 20 yX3_init, Cond.instanceMethod yX3_init, Cond.code yX3_init cX3_init 5 none, Cond.methodLink RX3 3 objectInit, Cond.fieldLink RX3 9 "MistHeaps$Heap" "kind" "I", Cond.fieldLink RX3 15 "MistHeaps$Heap" "number" "I", Cond.fieldLink RX3 18 "MistHeaps$Heap" "v" "I", Cond.fieldLink RX3 21 "MistHeaps$Heap" "cell" "I", Cond.methodLink RX11 41 yX0_init, Cond.instanceMethod yX0_init, Cond.code yX0_init cX0_init 1 none, Cond.methodLink RX0 3 objectInit, Cond.fieldLink RX0 9 "MistHeaps$Chances" "drifts" "[I", Cond.classLink RX0 15 "[[J"]
def wsX11_init_r4 : List Cond := [Cond.arrayClass .long, Cond.fieldLink RX0 17 "MistHeaps$Chances" "times" "[[J", Cond.classLink RX0 20 "[[I", Cond.fieldLink RX0 22 "MistHeaps$Chances" "hits" "[[I", Cond.methodLink RX11 48 yJx4a65c_init_da8c8, Cond.instanceMethod yJx4a65c_init_da8c8, Cond.code yJx4a65c_init_da8c8 cJx4a65c_init_da8c8 1 none, Cond.fieldLink RJx4a65c 39 "java/util/ArrayList" "DEFAULTCAPACITY_EMPTY_ELEMENTDATA" "[Ljava/lang/Object;", Cond.fieldLink RJx4a65c 9 "java/util/ArrayList" "elementData" "[Ljava/lang/Object;", Cond.methodLink RJx4a65c 1 yJxc12de_init_da8c8, Cond.instanceMethod yJxc12de_init_da8c8, Cond.initialized RJxc12de, Cond.code yJxc12de_init_da8c8 cJxc12de_init_da8c8 1 none, Cond.fieldLink RJxc12de 7 "java/util/AbstractList" "modCount" "I", Cond.methodLink RJxc12de 1 yJxa1e45_init_da8c8, Cond.instanceMethod yJxa1e45_init_da8c8, Cond.initialized RJxa1e45, Cond.code yJxa1e45_init_da8c8 cJxa1e45_init_da8c8 1 none, Cond.methodLink RJxa1e45 1 objectInit]
def wsX11_init : List Cond := .code yX11_init cX11_init 1 none :: ((wsX11_init_r1 ++ (wsX11_init_r2 ++ (wsX11_init_r3 ++ wsX11_init_r4))) ++ wsX80 ++ wsX110 ++ wsX50 ++ wsX20 ++ wsX00 ++ wsJx4a65c0 ++ wsX30 ++ wsX10 ++ wsX40 ++ wsX60 ++ wsX70 ++ wsX90 ++ wsX100)
def wsX11_feed : List Cond := .code yX11_feed cX11_feed 2 (some .int) :: ([.fieldLink RX11 14 "MistHeaps" "scene" "LMistHeaps$Scene;", .fieldLink RX11 53 "MistHeaps$Scene" "tapeSize" "I", .fieldLink RX11 57 "MistHeaps$Scene" "tape" "[I"] ++ wsX110 ++ wsX80)
def wsX11_hill_r1 : List Cond := [Cond.fieldLink RX11 14 "MistHeaps" "scene" "LMistHeaps$Scene;", Cond.fieldLink RX11 61 "MistHeaps$Scene" "hills" "I", Cond.fieldLink RX11 28 "MistHeaps" "blank" "LMistHeaps$Hill;", Cond.fieldLink RX11 57 "MistHeaps$Scene" "tape" "[I", Cond.fieldLink RX11 53 "MistHeaps$Scene" "tapeSize" "I", Cond.fieldLink RX11 68 "MistHeaps$Scene" "hill" "LMistHeaps$Hill;", Cond.classLink RX11 25 RX5, Cond.instantiable RX5 11, Cond.initialized RX5, Cond.methodLink RX11 64 yX5_read, Cond.instanceMethod yX5_read, Cond.selects RX5 yX5_read yX5_read, Cond.code yX5_read cX5_read 5 (some .int), Cond.fieldLink RX5 28 "MistHeaps$Hill" "tape" "[I", Cond.fieldLink RX5 31 "MistHeaps$Hill" "size" "I", Cond.fieldLink RX5 34 "MistHeaps$Hill" "at" "I", Cond.fieldLink RX5 37 "MistHeaps$Hill" "coded" "I", Cond.fieldLink RX5 11 "MistHeaps$Hill" "sight" "I", Cond.fieldLink RX5 15 "MistHeaps$Hill" "words" "[I", Cond.fieldLink RX5 19 "MistHeaps$Hill" "amounts" "[I", Cond.fieldLink RX5 48 "MistHeaps$Hill" "number" "I", Cond.fieldLink RX5 22 "MistHeaps$Hill" "ends" "[I", Cond.fieldLink RX5 59 "MistHeaps$Hill" "clauses" "I", Cond.methodLink RX5 40 yX5_readWord]
def wsX11_hill_r2 : List Cond := [Cond.instanceMethod yX5_readWord, Cond.selects RX5 yX5_readWord yX5_readWord, Cond.code yX5_readWord cX5_readWord 5 (some .int), Cond.methodLink RX5 70 Lib.Math.max.name, Cond.static Lib.Math.max.name, Cond.initialized "java/lang/Math", Cond.code Lib.Math.max.name Lib.Math.max.code 2 (some .int), Cond.methodLink RX5 62 yX5_textOf, Cond.static yX5_textOf, Cond.code yX5_textOf cX5_textOf 1 (some (.object "java/lang/String")), Cond.methodLink RX5 66 yX5_sameSigns, Cond.instanceMethod yX5_sameSigns, Cond.selects RX5 yX5_sameSigns yX5_sameSigns, Cond.code yX5_sameSigns cX5_sameSigns 3 (some .int), Cond.methodLink RX5 76 yJ0_length_8abf5, Cond.instanceMethod yJ0_length_8abf5, Cond.selects RJ0 yJ0_length_8abf5 yJ0_length_8abf5, Cond.initialized RJ0, Cond.code yJ0_length_8abf5 cJ0_length_8abf5 1 (some .int), Cond.fieldLink RJ0 9 "java/lang/String" "value" "[B", Cond.methodLink RJ0 335 yJ0_coder_7d493, Cond.instanceMethod yJ0_coder_7d493, Cond.selects RJ0 yJ0_coder_7d493 yJ0_coder_7d493, Cond.code yJ0_coder_7d493 cJ0_coder_7d493 1 (some .byte)]
def wsX11_hill_r3 : List Cond := [Cond.fieldLink RJ0 38 "java/lang/String" "COMPACT_STRINGS" "Z", Cond.fieldLink RJ0 15 "java/lang/String" "coder" "B", Cond.methodLink RX5 89 yJ0_charAt_5068e, Cond.instanceMethod yJ0_charAt_5068e, Cond.selects RJ0 yJ0_charAt_5068e yJ0_charAt_5068e, Cond.code yJ0_charAt_5068e cJ0_charAt_5068e 2 (some .char), Cond.methodLink RJ0 492 yJ0_isLatin1_aae02, Cond.instanceMethod yJ0_isLatin1_aae02, Cond.selects RJ0 yJ0_isLatin1_aae02 yJ0_isLatin1_aae02, Cond.code yJ0_isLatin1_aae02 cJ0_isLatin1_aae02 1 (some .boolean), Cond.methodLink RJ0 495 yJ1_charAt_3b067, Cond.static yJ1_charAt_3b067, Cond.initialized RJ1, Cond.code yJ1_charAt_3b067 cJ1_charAt_3b067 2 (some .char), Cond.methodLink RJ1 9 yJ0_checkIndex_df160, Cond.static yJ0_checkIndex_df160, Cond.code yJ0_checkIndex_df160 cJ0_checkIndex_df160 2 none, Cond.fieldLink RJ0 1053 "jdk/internal/util/Preconditions" "SIOOBE_FORMATTER" "Ljava/util/function/BiFunction;", Cond.methodLink RJ0 1059 yJ3_checkIndex_8e157, Cond.static yJ3_checkIndex_8e157, Cond.initialized RJ3, Cond.code yJ3_checkIndex_8e157 cJ3_checkIndex_8e157 3 (some .int), Cond.methodLink RJ0 498 yJ2_charAt_3b067, Cond.static yJ2_charAt_3b067]
def wsX11_hill_r4 : List Cond := [Cond.initialized RJ2, Cond.code yJ2_charAt_3b067 cJ2_charAt_3b067 2 (some .char), Cond.methodLink RJ2 67 yJ2_checkIndex_2214a, Cond.static yJ2_checkIndex_2214a, Cond.code yJ2_checkIndex_2214a cJ2_checkIndex_2214a 2 none, Cond.methodLink RJ2 48 yJ2_length_9d52b, Cond.static yJ2_length_9d52b, Cond.code yJ2_length_9d52b cJ2_length_9d52b 1 (some .int), Cond.methodLink RJ2 414 yJ0_checkIndex_df160, Cond.methodLink RJ2 71 yJ2_getChar_3b067, Cond.static yJ2_getChar_3b067, Cond.code yJ2_getChar_3b067 cJ2_getChar_3b067 2 (some .char), Cond.fieldLink RJ2 44 "java/lang/StringUTF16" "$assertionsDisabled" "Z", Cond.fieldLink RJ2 59 "java/lang/StringUTF16" "HI_BYTE_SHIFT" "I", Cond.fieldLink RJ2 63 "java/lang/StringUTF16" "LO_BYTE_SHIFT" "I", Cond.methodLink RX5 44 yX5_readNumber, Cond.instanceMethod yX5_readNumber, Cond.selects RX5 yX5_readNumber yX5_readNumber, Cond.code yX5_readNumber cX5_readNumber 1 (some .boolean), Cond.methodLink RX5 93 yX5_sign, Cond.instanceMethod yX5_sign, Cond.selects RX5 yX5_sign yX5_sign, Cond.code yX5_sign cX5_sign 1 (some .int), Cond.methodLink RX5 96 yX5_isDigit]
def wsX11_hill_r5 : List Cond := [Cond.static yX5_isDigit, Cond.code yX5_isDigit cX5_isDigit 1 (some .boolean), Cond.methodLink RX5 51 yX5_readSign, Cond.instanceMethod yX5_readSign, Cond.selects RX5 yX5_readSign yX5_readSign, Cond.code yX5_readSign cX5_readSign 2 (some .boolean), Cond.methodLink RX5 55 yX5_readEither, Cond.instanceMethod yX5_readEither, Cond.selects RX5 yX5_readEither yX5_readEither, Cond.code yX5_readEither cX5_readEither 3 (some .boolean), Cond.methodLink RX5 99 yX5_readBoth, Cond.instanceMethod yX5_readBoth, Cond.selects RX5 yX5_readBoth yX5_readBoth, Cond.methodLink RX5 102 yX5_code, Cond.instanceMethod yX5_code, Cond.selects RX5 yX5_code yX5_code, Cond.code yX5_code cX5_code 2 none, Cond.fieldLink RX5 25 "MistHeaps$Hill" "codes" "[I", Cond.code yX5_readBoth cX5_readBoth 3 (some .boolean), Cond.methodLink RX5 106 yX5_readPlain, Cond.instanceMethod yX5_readPlain, Cond.selects RX5 yX5_readPlain yX5_readPlain, Cond.code yX5_readPlain cX5_readPlain 3 (some .boolean), Cond.methodLink RX5 109 yX5_readTest]
def wsX11_hill_r6 : List Cond := [Cond.instanceMethod yX5_readTest, Cond.selects RX5 yX5_readTest yX5_readTest, Cond.code yX5_readTest cX5_readTest 3 (some .boolean), Cond.methodLink RX5 114 yJ0_indexOf_0f7a4, Cond.instanceMethod yJ0_indexOf_0f7a4, Cond.selects RJ0 yJ0_indexOf_0f7a4 yJ0_indexOf_0f7a4, Cond.code yJ0_indexOf_0f7a4 cJ0_indexOf_0f7a4 2 (some .int), Cond.methodLink RJ0 633 yJ0_indexOf_7cf53, Cond.instanceMethod yJ0_indexOf_7cf53, Cond.selects RJ0 yJ0_indexOf_7cf53 yJ0_indexOf_7cf53, Cond.code yJ0_indexOf_7cf53 cJ0_indexOf_7cf53 3 (some .int), Cond.methodLink RJ0 505 yJ0_length_8abf5, Cond.methodLink RJ0 637 yJ1_indexOf_4cfef, Cond.static yJ1_indexOf_4cfef, Cond.code yJ1_indexOf_4cfef cJ1_indexOf_4cfef 4 (some .int), Cond.methodLink RJ1 92 Lib.Math.max.name, Cond.methodLink RJ1 38 Lib.Math.min.name, Cond.static Lib.Math.min.name, Cond.code Lib.Math.min.name Lib.Math.min.code 2 (some .int), Cond.methodLink RJ1 88 yJ1_canEncode_9a6ad, Cond.static yJ1_canEncode_9a6ad, Cond.code yJ1_canEncode_9a6ad cJ1_canEncode_9a6ad 1 (some .boolean), Cond.methodLink RJ1 95 yJ1_indexOfChar_4cfef, Cond.static yJ1_indexOfChar_4cfef]
def wsX11_hill_r7 : List Cond := [Cond.code yJ1_indexOfChar_4cfef cJ1_indexOfChar_4cfef 6 (some .int), Cond.methodLink RJ0 640 yJ2_indexOf_4cfef, Cond.static yJ2_indexOf_4cfef, Cond.code yJ2_indexOf_4cfef cJ2_indexOf_4cfef 4 (some .int), Cond.methodLink RJ2 224 Lib.Math.max.name, Cond.methodLink RJ2 183 Lib.Math.min.name, Cond.constant RJ2 227 (65536), Cond.methodLink RJ2 228 yJ2_indexOfChar_4cfef, Cond.static yJ2_indexOfChar_4cfef, Cond.code yJ2_indexOfChar_4cfef cJ2_indexOfChar_4cfef 4 (some .int), Cond.methodLink RJ2 96 yJ2_checkBoundsBeginEnd_d044e, Cond.static yJ2_checkBoundsBeginEnd_d044e, Cond.code yJ2_checkBoundsBeginEnd_d044e cJ2_checkBoundsBeginEnd_d044e 3 none, Cond.methodLink RJ2 241 yJ0_checkBoundsBeginEnd_23922, Cond.static yJ0_checkBoundsBeginEnd_23922, Cond.code yJ0_checkBoundsBeginEnd_23922 cJ0_checkBoundsBeginEnd_23922 3 none, Cond.methodLink RJ0 1062 yJ3_checkFromToIndex_8c36e, Cond.static yJ3_checkFromToIndex_8c36e, Cond.code yJ3_checkFromToIndex_8c36e cJ3_checkFromToIndex_8c36e 4 (some .int), Cond.methodLink RJ2 244 yJ2_indexOfCharUnsafe_4cfef, Cond.static yJ2_indexOfCharUnsafe_4cfef, Cond.code yJ2_indexOfCharUnsafe_4cfef cJ2_indexOfCharUnsafe_4cfef 5 (some .int), Cond.methodLink RJ2 232 yJ2_indexOfSupplementary_4cfef, Cond.static yJ2_indexOfSupplementary_4cfef]
def wsX11_hill_r8 : List Cond := [Cond.code yJ2_indexOfSupplementary_4cfef cJ2_indexOfSupplementary_4cfef 7 (some .int), Cond.methodLink RJ2 164 yJ11_isValidCodePoint_9a6ad, Cond.static yJ11_isValidCodePoint_9a6ad, Cond.initialized RJ11, Cond.code yJ11_isValidCodePoint_9a6ad cJ11_isValidCodePoint_9a6ad 2 (some .boolean), Cond.methodLink RJ2 157 yJ11_highSurrogate_5068e, Cond.static yJ11_highSurrogate_5068e, Cond.code yJ11_highSurrogate_5068e cJ11_highSurrogate_5068e 1 (some .char), Cond.constant RJ11 110 (55232), Cond.methodLink RJ2 161 yJ11_lowSurrogate_5068e, Cond.static yJ11_lowSurrogate_5068e, Cond.code yJ11_lowSurrogate_5068e cJ11_lowSurrogate_5068e 1 (some .char), Cond.constant RJ11 76 (56320), Cond.methodLink RX11 27 yX5_init, Cond.instanceMethod yX5_init, Cond.code yX5_init cX5_init 1 none, Cond.methodLink RX5 3 objectInit, Cond.instanceMethod objectInit, Cond.code objectInit ⟨#[0xb1]⟩ 1 none, Cond.arrayClass .int]
def wsX11_hill : List Cond := .code yX11_hill cX11_hill 2 (some .int) :: ((wsX11_hill_r1 ++ (wsX11_hill_r2 ++ (wsX11_hill_r3 ++ (wsX11_hill_r4 ++ (wsX11_hill_r5 ++ (wsX11_hill_r6 ++ (wsX11_hill_r7 ++ wsX11_hill_r8))))))) ++ wsX110 ++ wsX80 ++ wsX50)
def wsJ13_bitCount_95d88 : List Cond := .code yJ13_bitCount_95d88 cJ13_bitCount_95d88 2 (some .int) :: ([.constantLong RJ13 314 (6148914691236517205), .constantLong RJ13 316 (3689348814741910323), .constantLong RJ13 318 (1085102592571150095)])
def wsX11_edges : List Cond := .code yX11_edges cX11_edges 4 (some .int) :: ([.constantLong RX11 71 (-68719476736), .fieldLink RX11 14 "MistHeaps" "scene" "LMistHeaps$Scene;", .fieldLink RX11 73 "MistHeaps$Scene" "edges" "J", .methodLink RX11 77 yJ13_bitCount_95d88, .static yJ13_bitCount_95d88, .initialized RJ13, .code yJ13_bitCount_95d88 cJ13_bitCount_95d88 2 (some .int), .constantLong RJ13 314 (6148914691236517205), .constantLong RJ13 316 (3689348814741910323), .constantLong RJ13 318 (1085102592571150095)] ++ wsX110 ++ wsX80)
def wsX11_told : List Cond := .code yX11_told cX11_told 2 (some .int) :: ([.fieldLink RX11 14 "MistHeaps" "scene" "LMistHeaps$Scene;", .fieldLink RX11 85 "MistHeaps$Scene" "mist" "I", .fieldLink RX11 88 "MistHeaps$Scene" "snow" "I", .fieldLink RX11 68 "MistHeaps$Scene" "hill" "LMistHeaps$Hill;", .fieldLink RX11 91 "MistHeaps$Hill" "sight" "I", .fieldLink RX11 73 "MistHeaps$Scene" "edges" "J", .methodLink RX11 77 yJ13_bitCount_95d88, .static yJ13_bitCount_95d88, .initialized RJ13, .code yJ13_bitCount_95d88 cJ13_bitCount_95d88 2 (some .int), .constantLong RJ13 314 (6148914691236517205), .constantLong RJ13 316 (3689348814741910323), .constantLong RJ13 318 (1085102592571150095)] ++ wsX110 ++ wsX80 ++ wsX50)
def wsX11_set : List Cond := .code yX11_set cX11_set 4 (some .int) :: ([.fieldLink RX11 14 "MistHeaps" "scene" "LMistHeaps$Scene;", .fieldLink RX11 85 "MistHeaps$Scene" "mist" "I", .fieldLink RX11 88 "MistHeaps$Scene" "snow" "I", .methodLink RX11 81 yX11_told, .instanceMethod yX11_told, .selects RX11 yX11_told yX11_told, .initialized RX11, .code yX11_told cX11_told 2 (some .int), .fieldLink RX11 68 "MistHeaps$Scene" "hill" "LMistHeaps$Hill;", .fieldLink RX11 91 "MistHeaps$Hill" "sight" "I", .fieldLink RX11 73 "MistHeaps$Scene" "edges" "J", .methodLink RX11 77 yJ13_bitCount_95d88, .static yJ13_bitCount_95d88, .initialized RJ13, .code yJ13_bitCount_95d88 cJ13_bitCount_95d88 2 (some .int), .constantLong RJ13 314 (6148914691236517205), .constantLong RJ13 316 (3689348814741910323), .constantLong RJ13 318 (1085102592571150095)] ++ wsX110 ++ wsX80 ++ wsX50)
def wsX11_isCell : List Cond := .code yX11_isCell cX11_isCell 1 (some .boolean) :: ([])
def wsX11_heapOfKind_r1 : List Cond := [Cond.classLink RX11 276 RX4, Cond.instantiable RX4 4, Cond.initialized RX4, Cond.classLink RX11 281 RX6, Cond.instantiable RX6 4, Cond.initialized RX6, Cond.classLink RX11 284 RX1, Cond.instantiable RX1 4, Cond.initialized RX1, Cond.classLink RX11 287 RX10, Cond.instantiable RX10 4, Cond.initialized RX10, Cond.classLink RX11 290 RX9, Cond.instantiable RX9 4, Cond.initialized RX9, Cond.classLink RX11 293 RX7, Cond.instantiable RX7 4, Cond.initialized RX7, Cond.classLink RX11 117 RX3, Cond.instantiable RX3 4, Cond.initialized RX3, Cond.methodLink RX11 278 yX4_init, Cond.instanceMethod yX4_init, Cond.code yX4_init cX4_init 5 none]
def wsX11_heapOfKind_r2 : List Cond := [Cond.methodLink RX4 1 yX3_init, Cond.instanceMethod yX3_init, Cond.code yX3_init cX3_init 5 none, Cond.methodLink RX3 3 objectInit, Cond.instanceMethod objectInit, Cond.code objectInit ⟨#[0xb1]⟩ 1 none, Cond.fieldLink RX3 9 "MistHeaps$Heap" "kind" "I", Cond.fieldLink RX3 15 "MistHeaps$Heap" "number" "I", Cond.fieldLink RX3 18 "MistHeaps$Heap" "v" "I", Cond.fieldLink RX3 21 "MistHeaps$Heap" "cell" "I", Cond.methodLink RX11 283 yX6_init, Cond.instanceMethod yX6_init, Cond.code yX6_init cX6_init 5 none, Cond.methodLink RX6 1 yX3_init, Cond.methodLink RX11 286 yX1_init, Cond.instanceMethod yX1_init, Cond.code yX1_init cX1_init 5 none, Cond.methodLink RX1 1 yX3_init, Cond.methodLink RX11 289 yX10_init, Cond.instanceMethod yX10_init, Cond.code yX10_init cX10_init 5 none, Cond.methodLink RX10 3 yX4_init, Cond.methodLink RX11 292 yX9_init, Cond.instanceMethod yX9_init]
def wsX11_heapOfKind_r3 : List Cond := [Cond.code yX9_init cX9_init 5 none, Cond.methodLink RX9 1 yX6_init, Cond.methodLink RX11 295 yX7_init, Cond.instanceMethod yX7_init, Cond.code yX7_init cX7_init 5 none, Cond.methodLink RX7 1 yX1_init, Cond.methodLink RX11 296 yX3_init]
def wsX11_heapOfKind : List Cond := .code yX11_heapOfKind cX11_heapOfKind 4 (some (.object "MistHeaps$Heap")) :: ((wsX11_heapOfKind_r1 ++ (wsX11_heapOfKind_r2 ++ wsX11_heapOfKind_r3)) ++ wsX40 ++ wsX60 ++ wsX10 ++ wsX100 ++ wsX90 ++ wsX70 ++ wsX30)
def wsX11_heap_r1 : List Cond := [Cond.fieldLink RX11 14 "MistHeaps" "scene" "LMistHeaps$Scene;", Cond.fieldLink RX11 101 "MistHeaps$Scene" "heapCount" "I", Cond.fieldLink RX11 104 "MistHeaps$Scene" "heaps" "[LMistHeaps$Heap;", Cond.methodLink RX11 94 yX11_isCell, Cond.static yX11_isCell, Cond.initialized RX11, Cond.code yX11_isCell cX11_isCell 1 (some .boolean), Cond.methodLink RX11 98 yX8_isTaken, Cond.instanceMethod yX8_isTaken, Cond.selects RX8 yX8_isTaken yX8_isTaken, Cond.initialized RX8, Cond.code yX8_isTaken cX8_isTaken 3 (some .boolean), Cond.fieldLink RX8 60 "MistHeaps$Scene" "heapCount" "I", Cond.fieldLink RX8 24 "MistHeaps$Scene" "heaps" "[LMistHeaps$Heap;", Cond.fieldLink RX8 73 "MistHeaps$Heap" "cell" "I", Cond.methodLink RX11 108 yX11_heapOfKind, Cond.static yX11_heapOfKind, Cond.code yX11_heapOfKind cX11_heapOfKind 4 (some (.object "MistHeaps$Heap")), Cond.classLink RX11 276 RX4, Cond.instantiable RX4 4, Cond.initialized RX4, Cond.classLink RX11 281 RX6, Cond.instantiable RX6 4, Cond.initialized RX6]
def wsX11_heap_r2 : List Cond := [Cond.classLink RX11 284 RX1, Cond.instantiable RX1 4, Cond.initialized RX1, Cond.classLink RX11 287 RX10, Cond.instantiable RX10 4, Cond.initialized RX10, Cond.classLink RX11 290 RX9, Cond.instantiable RX9 4, Cond.initialized RX9, Cond.classLink RX11 293 RX7, Cond.instantiable RX7 4, Cond.initialized RX7, Cond.classLink RX11 117 RX3, Cond.instantiable RX3 4, Cond.initialized RX3, Cond.methodLink RX11 278 yX4_init, Cond.instanceMethod yX4_init, Cond.code yX4_init cX4_init 5 none, Cond.methodLink RX4 1 yX3_init, Cond.instanceMethod yX3_init, Cond.code yX3_init cX3_init 5 none, Cond.methodLink RX3 3 objectInit, Cond.instanceMethod objectInit, Cond.code objectInit ⟨#[0xb1]⟩ 1 none]
def wsX11_heap_r3 : List Cond := [Cond.fieldLink RX3 9 "MistHeaps$Heap" "kind" "I", Cond.fieldLink RX3 15 "MistHeaps$Heap" "number" "I", Cond.fieldLink RX3 18 "MistHeaps$Heap" "v" "I", Cond.fieldLink RX3 21 "MistHeaps$Heap" "cell" "I", Cond.methodLink RX11 283 yX6_init, Cond.instanceMethod yX6_init, Cond.code yX6_init cX6_init 5 none, Cond.methodLink RX6 1 yX3_init, Cond.methodLink RX11 286 yX1_init, Cond.instanceMethod yX1_init, Cond.code yX1_init cX1_init 5 none, Cond.methodLink RX1 1 yX3_init, Cond.methodLink RX11 289 yX10_init, Cond.instanceMethod yX10_init, Cond.code yX10_init cX10_init 5 none, Cond.methodLink RX10 3 yX4_init, Cond.methodLink RX11 292 yX9_init, Cond.instanceMethod yX9_init, Cond.code yX9_init cX9_init 5 none, Cond.methodLink RX9 1 yX6_init, Cond.methodLink RX11 295 yX7_init, Cond.instanceMethod yX7_init, Cond.code yX7_init cX7_init 5 none, Cond.methodLink RX7 1 yX1_init]
def wsX11_heap_r4 : List Cond := [Cond.methodLink RX11 296 yX3_init]
def wsX11_heap : List Cond := .code yX11_heap cX11_heap 4 (some .int) :: ((wsX11_heap_r1 ++ (wsX11_heap_r2 ++ (wsX11_heap_r3 ++ wsX11_heap_r4))) ++ wsX110 ++ wsX80 ++ wsX10 ++ wsX30 ++ wsX40 ++ wsX60 ++ wsX70 ++ wsX90 ++ wsX100)
def wsX11_of_r1 : List Cond := [Cond.fieldLink RX11 14 "MistHeaps" "scene" "LMistHeaps$Scene;", Cond.fieldLink RX11 116 "MistHeaps$Heap" "kind" "I", Cond.fieldLink RX11 121 "MistHeaps$Heap" "v" "I", Cond.fieldLink RX11 124 "MistHeaps$Heap" "cell" "I", Cond.fieldLink RX11 88 "MistHeaps$Scene" "snow" "I", Cond.methodLink RX11 112 yX8_heapAt, Cond.instanceMethod yX8_heapAt, Cond.selects RX8 yX8_heapAt yX8_heapAt, Cond.initialized RX8, Cond.code yX8_heapAt cX8_heapAt 2 (some (.object "MistHeaps$Heap")), Cond.fieldLink RX8 60 "MistHeaps$Scene" "heapCount" "I", Cond.fieldLink RX8 24 "MistHeaps$Scene" "heaps" "[LMistHeaps$Heap;", Cond.methodLink RX11 127 yX8_reachOf, Cond.instanceMethod yX8_reachOf, Cond.selects RX8 yX8_reachOf yX8_reachOf, Cond.code yX8_reachOf cX8_reachOf 4 (some .int), Cond.fieldLink RX8 76 "MistHeaps$Heap" "number" "I", Cond.fieldLink RX8 79 "MistHeaps$Heap" "kind" "I", Cond.fieldLink RX8 73 "MistHeaps$Heap" "cell" "I", Cond.fieldLink RX8 18 "MistHeaps$Scene" "hill" "LMistHeaps$Hill;", Cond.fieldLink RX8 86 "MistHeaps$Hill" "sight" "I", Cond.fieldLink RX8 34 "MistHeaps$Scene" "facts" "[I", Cond.fieldLink RX8 54 "MistHeaps$Scene" "mist" "I", Cond.methodLink RX8 82 yX8_tellFacts]
def wsX11_of_r2 : List Cond := [Cond.instanceMethod yX8_tellFacts, Cond.selects RX8 yX8_tellFacts yX8_tellFacts, Cond.code yX8_tellFacts cX8_tellFacts 5 none, Cond.static yX11_rowOf, Cond.initialized RX11, Cond.code yX11_rowOf cX11_rowOf 1 (some .int), Cond.static yX11_columnOf, Cond.code yX11_columnOf cX11_columnOf 1 (some .int), Cond.methodLink RX8 89 yX5_total, Cond.instanceMethod yX5_total, Cond.selects RX5 yX5_total yX5_total, Cond.initialized RX5, Cond.code yX5_total cX5_total 5 (some .int), Cond.fieldLink RX5 59 "MistHeaps$Hill" "clauses" "I", Cond.fieldLink RX5 15 "MistHeaps$Hill" "words" "[I", Cond.fieldLink RX5 19 "MistHeaps$Hill" "amounts" "[I", Cond.methodLink RX5 120 yX5_holds, Cond.instanceMethod yX5_holds, Cond.selects RX5 yX5_holds yX5_holds, Cond.code yX5_holds cX5_holds 7 (some .boolean), Cond.fieldLink RX5 22 "MistHeaps$Hill" "ends" "[I", Cond.fieldLink RX5 25 "MistHeaps$Hill" "codes" "[I", Cond.methodLink RX5 124 yX5_isSo, Cond.static yX5_isSo]
def wsX11_of_r3 : List Cond := [Cond.code yX5_isSo cX5_isSo 4 (some .boolean), Cond.methodLink RX8 93 ⟨"MistHeaps$Heap", "reachBy", "(II)I"⟩, Cond.sameMethod "MistHeaps$Heap" "MistHeaps$Heap" "reachBy" "(II)I", Cond.selects RX1 ⟨"MistHeaps$Heap", "reachBy", "(II)I"⟩ yX3_reachBy, Cond.instanceMethod yX3_reachBy, Cond.initialized RX3, Cond.code yX3_reachBy cX3_reachBy 3 (some .int), Cond.methodLink RX3 28 Lib.Math.max.name, Cond.static Lib.Math.max.name, Cond.initialized "java/lang/Math", Cond.code Lib.Math.max.name Lib.Math.max.code 2 (some .int), Cond.methodLink RX8 93 yX3_reachBy, Cond.selects RX3 yX3_reachBy yX3_reachBy, Cond.instanceMethod ⟨"MistHeaps$Heap", "reachBy", "(II)I"⟩, Cond.selects RX4 ⟨"MistHeaps$Heap", "reachBy", "(II)I"⟩ yX4_reachBy, Cond.instanceMethod yX4_reachBy, Cond.initialized RX4, Cond.code yX4_reachBy cX4_reachBy 3 (some .int), Cond.fieldLink RX4 7 "MistHeaps$High" "v" "I", Cond.sameField "MistHeaps$High" "MistHeaps$Heap" "v" "I", Cond.methodLink RX4 13 yX3_reachBy, Cond.superclass RX4 RX3, Cond.selects RX6 ⟨"MistHeaps$Heap", "reachBy", "(II)I"⟩ yX6_reachBy, Cond.instanceMethod yX6_reachBy]
def wsX11_of_r4 : List Cond := [Cond.initialized RX6, Cond.code yX6_reachBy cX6_reachBy 3 (some .int), Cond.methodLink RX6 7 yX3_reachBy, Cond.superclass RX6 RX3, Cond.selects RX7 ⟨"MistHeaps$Heap", "reachBy", "(II)I"⟩ yX7_reachBy, Cond.instanceMethod yX7_reachBy, Cond.initialized RX7, Cond.code yX7_reachBy cX7_reachBy 3 (some .int), Cond.methodLink RX7 11 Lib.Math.min.name, Cond.static Lib.Math.min.name, Cond.code Lib.Math.min.name Lib.Math.min.code 2 (some .int), Cond.selects RX9 ⟨"MistHeaps$Heap", "reachBy", "(II)I"⟩ yX9_reachBy, Cond.instanceMethod yX9_reachBy, Cond.initialized RX9, Cond.code yX9_reachBy cX9_reachBy 3 (some .int), Cond.fieldLink RX9 7 "MistHeaps$Snowed" "v" "I", Cond.sameField "MistHeaps$Snowed" "MistHeaps$Heap" "v" "I", Cond.methodLink RX9 13 yX6_reachBy, Cond.sameMethod "MistHeaps$Low" "MistHeaps$Low" "reachBy" "(II)I", Cond.superclass RX9 RX6, Cond.selects RX10 ⟨"MistHeaps$Heap", "reachBy", "(II)I"⟩ yX4_reachBy]
def wsX11_of : List Cond := .code yX11_of cX11_of 4 (some .int) :: ((wsX11_of_r1 ++ (wsX11_of_r2 ++ (wsX11_of_r3 ++ wsX11_of_r4))) ++ wsX110 ++ wsX10 ++ wsX30 ++ wsX40 ++ wsX60 ++ wsX70 ++ wsX90 ++ wsX100 ++ wsX80 ++ wsX50)
def wsX11_sees_r1 : List Cond := [Cond.fieldLink RX11 35 "MistHeaps" "goings" "LMistHeaps$Goings;", Cond.fieldLink RX11 14 "MistHeaps" "scene" "LMistHeaps$Scene;", Cond.fieldLink RX11 88 "MistHeaps$Scene" "snow" "I", Cond.methodLink RX11 94 yX11_isCell, Cond.static yX11_isCell, Cond.initialized RX11, Cond.code yX11_isCell cX11_isCell 1 (some .boolean), Cond.methodLink RX11 131 yX2_measure, Cond.instanceMethod yX2_measure, Cond.selects RX2 yX2_measure yX2_measure, Cond.initialized RX2, Cond.code yX2_measure cX2_measure 4 none, Cond.fieldLink RX2 27 "MistHeaps$Scene" "heapCount" "I", Cond.fieldLink RX2 9 "MistHeaps$Goings" "reach" "[I", Cond.fieldLink RX2 33 "MistHeaps$Scene" "heaps" "[LMistHeaps$Heap;", Cond.methodLink RX2 37 yX8_reachOf, Cond.instanceMethod yX8_reachOf, Cond.selects RX8 yX8_reachOf yX8_reachOf, Cond.initialized RX8, Cond.code yX8_reachOf cX8_reachOf 4 (some .int), Cond.fieldLink RX8 76 "MistHeaps$Heap" "number" "I", Cond.fieldLink RX8 79 "MistHeaps$Heap" "kind" "I", Cond.fieldLink RX8 73 "MistHeaps$Heap" "cell" "I", Cond.fieldLink RX8 18 "MistHeaps$Scene" "hill" "LMistHeaps$Hill;"]
def wsX11_sees_r2 : List Cond := [Cond.fieldLink RX8 86 "MistHeaps$Hill" "sight" "I", Cond.fieldLink RX8 34 "MistHeaps$Scene" "facts" "[I", Cond.fieldLink RX8 54 "MistHeaps$Scene" "mist" "I", Cond.methodLink RX8 82 yX8_tellFacts, Cond.instanceMethod yX8_tellFacts, Cond.selects RX8 yX8_tellFacts yX8_tellFacts, Cond.code yX8_tellFacts cX8_tellFacts 5 none, Cond.static yX11_rowOf, Cond.code yX11_rowOf cX11_rowOf 1 (some .int), Cond.static yX11_columnOf, Cond.code yX11_columnOf cX11_columnOf 1 (some .int), Cond.methodLink RX8 89 yX5_total, Cond.instanceMethod yX5_total, Cond.selects RX5 yX5_total yX5_total, Cond.initialized RX5, Cond.code yX5_total cX5_total 5 (some .int), Cond.fieldLink RX5 59 "MistHeaps$Hill" "clauses" "I", Cond.fieldLink RX5 15 "MistHeaps$Hill" "words" "[I", Cond.fieldLink RX5 19 "MistHeaps$Hill" "amounts" "[I", Cond.methodLink RX5 120 yX5_holds, Cond.instanceMethod yX5_holds, Cond.selects RX5 yX5_holds yX5_holds, Cond.code yX5_holds cX5_holds 7 (some .boolean), Cond.fieldLink RX5 22 "MistHeaps$Hill" "ends" "[I"]
def wsX11_sees_r3 : List Cond := [Cond.fieldLink RX5 25 "MistHeaps$Hill" "codes" "[I", Cond.methodLink RX5 124 yX5_isSo, Cond.static yX5_isSo, Cond.code yX5_isSo cX5_isSo 4 (some .boolean), Cond.methodLink RX8 93 ⟨"MistHeaps$Heap", "reachBy", "(II)I"⟩, Cond.sameMethod "MistHeaps$Heap" "MistHeaps$Heap" "reachBy" "(II)I", Cond.selects RX1 ⟨"MistHeaps$Heap", "reachBy", "(II)I"⟩ yX3_reachBy, Cond.instanceMethod yX3_reachBy, Cond.initialized RX3, Cond.code yX3_reachBy cX3_reachBy 3 (some .int), Cond.methodLink RX3 28 Lib.Math.max.name, Cond.static Lib.Math.max.name, Cond.initialized "java/lang/Math", Cond.code Lib.Math.max.name Lib.Math.max.code 2 (some .int), Cond.methodLink RX8 93 yX3_reachBy, Cond.selects RX3 yX3_reachBy yX3_reachBy, Cond.instanceMethod ⟨"MistHeaps$Heap", "reachBy", "(II)I"⟩, Cond.selects RX4 ⟨"MistHeaps$Heap", "reachBy", "(II)I"⟩ yX4_reachBy, Cond.instanceMethod yX4_reachBy, Cond.initialized RX4, Cond.code yX4_reachBy cX4_reachBy 3 (some .int), Cond.fieldLink RX4 7 "MistHeaps$High" "v" "I", Cond.sameField "MistHeaps$High" "MistHeaps$Heap" "v" "I", Cond.methodLink RX4 13 yX3_reachBy]
def wsX11_sees_r4 : List Cond := [Cond.superclass RX4 RX3, Cond.selects RX6 ⟨"MistHeaps$Heap", "reachBy", "(II)I"⟩ yX6_reachBy, Cond.instanceMethod yX6_reachBy, Cond.initialized RX6, Cond.code yX6_reachBy cX6_reachBy 3 (some .int), Cond.methodLink RX6 7 yX3_reachBy, Cond.superclass RX6 RX3, Cond.selects RX7 ⟨"MistHeaps$Heap", "reachBy", "(II)I"⟩ yX7_reachBy, Cond.instanceMethod yX7_reachBy, Cond.initialized RX7, Cond.code yX7_reachBy cX7_reachBy 3 (some .int), Cond.methodLink RX7 11 Lib.Math.min.name, Cond.static Lib.Math.min.name, Cond.code Lib.Math.min.name Lib.Math.min.code 2 (some .int), Cond.selects RX9 ⟨"MistHeaps$Heap", "reachBy", "(II)I"⟩ yX9_reachBy, Cond.instanceMethod yX9_reachBy, Cond.initialized RX9, Cond.code yX9_reachBy cX9_reachBy 3 (some .int), Cond.fieldLink RX9 7 "MistHeaps$Snowed" "v" "I", Cond.sameField "MistHeaps$Snowed" "MistHeaps$Heap" "v" "I", Cond.methodLink RX9 13 yX6_reachBy, Cond.sameMethod "MistHeaps$Low" "MistHeaps$Low" "reachBy" "(II)I", Cond.superclass RX9 RX6, Cond.selects RX10 ⟨"MistHeaps$Heap", "reachBy", "(II)I"⟩ yX4_reachBy]
def wsX11_sees_r5 : List Cond := [Cond.methodLink RX11 135 yX2_seenFrom, Cond.instanceMethod yX2_seenFrom, Cond.selects RX2 yX2_seenFrom yX2_seenFrom, Cond.code yX2_seenFrom cX2_seenFrom 5 (some .int), Cond.fieldLink RX2 41 "MistHeaps$Heap" "cell" "I", Cond.static yX11_apart, Cond.code yX11_apart cX11_apart 2 (some .int), Cond.methodLink RX11 263 Lib.Math.abs.name, Cond.static Lib.Math.abs.name, Cond.code Lib.Math.abs.name Lib.Math.abs.code 1 (some .int), Cond.methodLink RX11 204 Lib.Math.max.name, Cond.methodLink RX11 212 yX11_rowOf, Cond.methodLink RX11 215 yX11_columnOf]
def wsX11_sees : List Cond := .code yX11_sees cX11_sees 2 (some .int) :: ((wsX11_sees_r1 ++ (wsX11_sees_r2 ++ (wsX11_sees_r3 ++ (wsX11_sees_r4 ++ wsX11_sees_r5)))) ++ wsX110 ++ wsX80 ++ wsX20 ++ wsX10 ++ wsX30 ++ wsX40 ++ wsX60 ++ wsX70 ++ wsX90 ++ wsX100 ++ wsX50)
def wsX11_where_r1 : List Cond := [Cond.fieldLink RX11 14 "MistHeaps" "scene" "LMistHeaps$Scene;", Cond.fieldLink RX11 101 "MistHeaps$Scene" "heapCount" "I", Cond.constantLong RX11 139 (-9223372036854775808), Cond.fieldLink RX11 35 "MistHeaps" "goings" "LMistHeaps$Goings;", Cond.fieldLink RX11 88 "MistHeaps$Scene" "snow" "I", Cond.methodLink RX11 131 yX2_measure, Cond.instanceMethod yX2_measure, Cond.selects RX2 yX2_measure yX2_measure, Cond.initialized RX2, Cond.code yX2_measure cX2_measure 4 none, Cond.fieldLink RX2 27 "MistHeaps$Scene" "heapCount" "I", Cond.fieldLink RX2 9 "MistHeaps$Goings" "reach" "[I", Cond.fieldLink RX2 33 "MistHeaps$Scene" "heaps" "[LMistHeaps$Heap;", Cond.methodLink RX2 37 yX8_reachOf, Cond.instanceMethod yX8_reachOf, Cond.selects RX8 yX8_reachOf yX8_reachOf, Cond.initialized RX8, Cond.code yX8_reachOf cX8_reachOf 4 (some .int), Cond.fieldLink RX8 76 "MistHeaps$Heap" "number" "I", Cond.fieldLink RX8 79 "MistHeaps$Heap" "kind" "I", Cond.fieldLink RX8 73 "MistHeaps$Heap" "cell" "I", Cond.fieldLink RX8 18 "MistHeaps$Scene" "hill" "LMistHeaps$Hill;", Cond.fieldLink RX8 86 "MistHeaps$Hill" "sight" "I", Cond.fieldLink RX8 34 "MistHeaps$Scene" "facts" "[I"]
def wsX11_where_r2 : List Cond := [Cond.fieldLink RX8 54 "MistHeaps$Scene" "mist" "I", Cond.methodLink RX8 82 yX8_tellFacts, Cond.instanceMethod yX8_tellFacts, Cond.selects RX8 yX8_tellFacts yX8_tellFacts, Cond.code yX8_tellFacts cX8_tellFacts 5 none, Cond.static yX11_rowOf, Cond.initialized RX11, Cond.code yX11_rowOf cX11_rowOf 1 (some .int), Cond.static yX11_columnOf, Cond.code yX11_columnOf cX11_columnOf 1 (some .int), Cond.methodLink RX8 89 yX5_total, Cond.instanceMethod yX5_total, Cond.selects RX5 yX5_total yX5_total, Cond.initialized RX5, Cond.code yX5_total cX5_total 5 (some .int), Cond.fieldLink RX5 59 "MistHeaps$Hill" "clauses" "I", Cond.fieldLink RX5 15 "MistHeaps$Hill" "words" "[I", Cond.fieldLink RX5 19 "MistHeaps$Hill" "amounts" "[I", Cond.methodLink RX5 120 yX5_holds, Cond.instanceMethod yX5_holds, Cond.selects RX5 yX5_holds yX5_holds, Cond.code yX5_holds cX5_holds 7 (some .boolean), Cond.fieldLink RX5 22 "MistHeaps$Hill" "ends" "[I", Cond.fieldLink RX5 25 "MistHeaps$Hill" "codes" "[I"]
def wsX11_where_r3 : List Cond := [Cond.methodLink RX5 124 yX5_isSo, Cond.static yX5_isSo, Cond.code yX5_isSo cX5_isSo 4 (some .boolean), Cond.methodLink RX8 93 ⟨"MistHeaps$Heap", "reachBy", "(II)I"⟩, Cond.sameMethod "MistHeaps$Heap" "MistHeaps$Heap" "reachBy" "(II)I", Cond.selects RX1 ⟨"MistHeaps$Heap", "reachBy", "(II)I"⟩ yX3_reachBy, Cond.instanceMethod yX3_reachBy, Cond.initialized RX3, Cond.code yX3_reachBy cX3_reachBy 3 (some .int), Cond.methodLink RX3 28 Lib.Math.max.name, Cond.static Lib.Math.max.name, Cond.initialized "java/lang/Math", Cond.code Lib.Math.max.name Lib.Math.max.code 2 (some .int), Cond.methodLink RX8 93 yX3_reachBy, Cond.selects RX3 yX3_reachBy yX3_reachBy, Cond.instanceMethod ⟨"MistHeaps$Heap", "reachBy", "(II)I"⟩, Cond.selects RX4 ⟨"MistHeaps$Heap", "reachBy", "(II)I"⟩ yX4_reachBy, Cond.instanceMethod yX4_reachBy, Cond.initialized RX4, Cond.code yX4_reachBy cX4_reachBy 3 (some .int), Cond.fieldLink RX4 7 "MistHeaps$High" "v" "I", Cond.sameField "MistHeaps$High" "MistHeaps$Heap" "v" "I", Cond.methodLink RX4 13 yX3_reachBy, Cond.superclass RX4 RX3]
def wsX11_where_r4 : List Cond := [Cond.selects RX6 ⟨"MistHeaps$Heap", "reachBy", "(II)I"⟩ yX6_reachBy, Cond.instanceMethod yX6_reachBy, Cond.initialized RX6, Cond.code yX6_reachBy cX6_reachBy 3 (some .int), Cond.methodLink RX6 7 yX3_reachBy, Cond.superclass RX6 RX3, Cond.selects RX7 ⟨"MistHeaps$Heap", "reachBy", "(II)I"⟩ yX7_reachBy, Cond.instanceMethod yX7_reachBy, Cond.initialized RX7, Cond.code yX7_reachBy cX7_reachBy 3 (some .int), Cond.methodLink RX7 11 Lib.Math.min.name, Cond.static Lib.Math.min.name, Cond.code Lib.Math.min.name Lib.Math.min.code 2 (some .int), Cond.selects RX9 ⟨"MistHeaps$Heap", "reachBy", "(II)I"⟩ yX9_reachBy, Cond.instanceMethod yX9_reachBy, Cond.initialized RX9, Cond.code yX9_reachBy cX9_reachBy 3 (some .int), Cond.fieldLink RX9 7 "MistHeaps$Snowed" "v" "I", Cond.sameField "MistHeaps$Snowed" "MistHeaps$Heap" "v" "I", Cond.methodLink RX9 13 yX6_reachBy, Cond.sameMethod "MistHeaps$Low" "MistHeaps$Low" "reachBy" "(II)I", Cond.superclass RX9 RX6, Cond.selects RX10 ⟨"MistHeaps$Heap", "reachBy", "(II)I"⟩ yX4_reachBy, Cond.methodLink RX11 135 yX2_seenFrom]
def wsX11_where_r5 : List Cond := [Cond.instanceMethod yX2_seenFrom, Cond.selects RX2 yX2_seenFrom yX2_seenFrom, Cond.code yX2_seenFrom cX2_seenFrom 5 (some .int), Cond.fieldLink RX2 41 "MistHeaps$Heap" "cell" "I", Cond.static yX11_apart, Cond.code yX11_apart cX11_apart 2 (some .int), Cond.methodLink RX11 263 Lib.Math.abs.name, Cond.static Lib.Math.abs.name, Cond.code Lib.Math.abs.name Lib.Math.abs.code 1 (some .int), Cond.methodLink RX11 204 Lib.Math.max.name, Cond.methodLink RX11 212 yX11_rowOf, Cond.methodLink RX11 215 yX11_columnOf]
def wsX11_where : List Cond := .code yX11_where cX11_where 5 (some .long) :: ((wsX11_where_r1 ++ (wsX11_where_r2 ++ (wsX11_where_r3 ++ (wsX11_where_r4 ++ wsX11_where_r5)))) ++ wsX110 ++ wsX80 ++ wsX20 ++ wsX10 ++ wsX30 ++ wsX40 ++ wsX60 ++ wsX70 ++ wsX90 ++ wsX100 ++ wsX50)
def wsX11_steps_r1 : List Cond := [Cond.fieldLink RX11 14 "MistHeaps" "scene" "LMistHeaps$Scene;", Cond.fieldLink RX11 35 "MistHeaps" "goings" "LMistHeaps$Goings;", Cond.fieldLink RX11 88 "MistHeaps$Scene" "snow" "I", Cond.methodLink RX11 141 yX8_areHeaps, Cond.instanceMethod yX8_areHeaps, Cond.selects RX8 yX8_areHeaps yX8_areHeaps, Cond.initialized RX8, Cond.code yX8_areHeaps cX8_areHeaps 3 (some .boolean), Cond.methodLink RX8 69 yX8_heapAt, Cond.instanceMethod yX8_heapAt, Cond.selects RX8 yX8_heapAt yX8_heapAt, Cond.code yX8_heapAt cX8_heapAt 2 (some (.object "MistHeaps$Heap")), Cond.fieldLink RX8 60 "MistHeaps$Scene" "heapCount" "I", Cond.fieldLink RX8 24 "MistHeaps$Scene" "heaps" "[LMistHeaps$Heap;", Cond.methodLink RX11 145 yX2_link, Cond.instanceMethod yX2_link, Cond.selects RX2 yX2_link yX2_link, Cond.initialized RX2, Cond.code yX2_link cX2_link 5 none, Cond.fieldLink RX2 27 "MistHeaps$Scene" "heapCount" "I", Cond.fieldLink RX2 52 "MistHeaps$Goings" "linked" "I", Cond.fieldLink RX2 15 "MistHeaps$Goings" "onward" "[I", Cond.fieldLink RX2 33 "MistHeaps$Scene" "heaps" "[LMistHeaps$Heap;", Cond.methodLink RX2 48 yX2_measure]
def wsX11_steps_r2 : List Cond := [Cond.instanceMethod yX2_measure, Cond.selects RX2 yX2_measure yX2_measure, Cond.code yX2_measure cX2_measure 4 none, Cond.fieldLink RX2 9 "MistHeaps$Goings" "reach" "[I", Cond.methodLink RX2 37 yX8_reachOf, Cond.instanceMethod yX8_reachOf, Cond.selects RX8 yX8_reachOf yX8_reachOf, Cond.code yX8_reachOf cX8_reachOf 4 (some .int), Cond.fieldLink RX8 76 "MistHeaps$Heap" "number" "I", Cond.fieldLink RX8 79 "MistHeaps$Heap" "kind" "I", Cond.fieldLink RX8 73 "MistHeaps$Heap" "cell" "I", Cond.fieldLink RX8 18 "MistHeaps$Scene" "hill" "LMistHeaps$Hill;", Cond.fieldLink RX8 86 "MistHeaps$Hill" "sight" "I", Cond.fieldLink RX8 34 "MistHeaps$Scene" "facts" "[I", Cond.fieldLink RX8 54 "MistHeaps$Scene" "mist" "I", Cond.methodLink RX8 82 yX8_tellFacts, Cond.instanceMethod yX8_tellFacts, Cond.selects RX8 yX8_tellFacts yX8_tellFacts, Cond.code yX8_tellFacts cX8_tellFacts 5 none, Cond.static yX11_rowOf, Cond.initialized RX11, Cond.code yX11_rowOf cX11_rowOf 1 (some .int), Cond.static yX11_columnOf, Cond.code yX11_columnOf cX11_columnOf 1 (some .int)]
def wsX11_steps_r3 : List Cond := [Cond.methodLink RX8 89 yX5_total, Cond.instanceMethod yX5_total, Cond.selects RX5 yX5_total yX5_total, Cond.initialized RX5, Cond.code yX5_total cX5_total 5 (some .int), Cond.fieldLink RX5 59 "MistHeaps$Hill" "clauses" "I", Cond.fieldLink RX5 15 "MistHeaps$Hill" "words" "[I", Cond.fieldLink RX5 19 "MistHeaps$Hill" "amounts" "[I", Cond.methodLink RX5 120 yX5_holds, Cond.instanceMethod yX5_holds, Cond.selects RX5 yX5_holds yX5_holds, Cond.code yX5_holds cX5_holds 7 (some .boolean), Cond.fieldLink RX5 22 "MistHeaps$Hill" "ends" "[I", Cond.fieldLink RX5 25 "MistHeaps$Hill" "codes" "[I", Cond.methodLink RX5 124 yX5_isSo, Cond.static yX5_isSo, Cond.code yX5_isSo cX5_isSo 4 (some .boolean), Cond.methodLink RX8 93 ⟨"MistHeaps$Heap", "reachBy", "(II)I"⟩, Cond.sameMethod "MistHeaps$Heap" "MistHeaps$Heap" "reachBy" "(II)I", Cond.selects RX1 ⟨"MistHeaps$Heap", "reachBy", "(II)I"⟩ yX3_reachBy, Cond.instanceMethod yX3_reachBy, Cond.initialized RX3, Cond.code yX3_reachBy cX3_reachBy 3 (some .int), Cond.methodLink RX3 28 Lib.Math.max.name]
def wsX11_steps_r4 : List Cond := [Cond.static Lib.Math.max.name, Cond.initialized "java/lang/Math", Cond.code Lib.Math.max.name Lib.Math.max.code 2 (some .int), Cond.methodLink RX8 93 yX3_reachBy, Cond.selects RX3 yX3_reachBy yX3_reachBy, Cond.instanceMethod ⟨"MistHeaps$Heap", "reachBy", "(II)I"⟩, Cond.selects RX4 ⟨"MistHeaps$Heap", "reachBy", "(II)I"⟩ yX4_reachBy, Cond.instanceMethod yX4_reachBy, Cond.initialized RX4, Cond.code yX4_reachBy cX4_reachBy 3 (some .int), Cond.fieldLink RX4 7 "MistHeaps$High" "v" "I", Cond.sameField "MistHeaps$High" "MistHeaps$Heap" "v" "I", Cond.methodLink RX4 13 yX3_reachBy, Cond.superclass RX4 RX3, Cond.selects RX6 ⟨"MistHeaps$Heap", "reachBy", "(II)I"⟩ yX6_reachBy, Cond.instanceMethod yX6_reachBy, Cond.initialized RX6, Cond.code yX6_reachBy cX6_reachBy 3 (some .int), Cond.methodLink RX6 7 yX3_reachBy, Cond.superclass RX6 RX3, Cond.selects RX7 ⟨"MistHeaps$Heap", "reachBy", "(II)I"⟩ yX7_reachBy, Cond.instanceMethod yX7_reachBy, Cond.initialized RX7, Cond.code yX7_reachBy cX7_reachBy 3 (some .int)]
def wsX11_steps_r5 : List Cond := [Cond.methodLink RX7 11 Lib.Math.min.name, Cond.static Lib.Math.min.name, Cond.code Lib.Math.min.name Lib.Math.min.code 2 (some .int), Cond.selects RX9 ⟨"MistHeaps$Heap", "reachBy", "(II)I"⟩ yX9_reachBy, Cond.instanceMethod yX9_reachBy, Cond.initialized RX9, Cond.code yX9_reachBy cX9_reachBy 3 (some .int), Cond.fieldLink RX9 7 "MistHeaps$Snowed" "v" "I", Cond.sameField "MistHeaps$Snowed" "MistHeaps$Heap" "v" "I", Cond.methodLink RX9 13 yX6_reachBy, Cond.sameMethod "MistHeaps$Low" "MistHeaps$Low" "reachBy" "(II)I", Cond.superclass RX9 RX6, Cond.selects RX10 ⟨"MistHeaps$Heap", "reachBy", "(II)I"⟩ yX4_reachBy, Cond.methodLink RX2 55 yX2_tellGoing, Cond.instanceMethod yX2_tellGoing, Cond.selects RX2 yX2_tellGoing yX2_tellGoing, Cond.code yX2_tellGoing cX2_tellGoing 5 none, Cond.fieldLink RX2 59 "MistHeaps$Heap" "number" "I", Cond.fieldLink RX2 41 "MistHeaps$Heap" "cell" "I", Cond.static yX11_apart, Cond.code yX11_apart cX11_apart 2 (some .int), Cond.methodLink RX11 263 Lib.Math.abs.name, Cond.static Lib.Math.abs.name, Cond.code Lib.Math.abs.name Lib.Math.abs.code 1 (some .int)]
def wsX11_steps_r6 : List Cond := [Cond.methodLink RX11 204 Lib.Math.max.name, Cond.methodLink RX11 212 yX11_rowOf, Cond.methodLink RX11 215 yX11_columnOf, Cond.methodLink RX2 62 ⟨"MistHeaps$Heap", "leadsTo", "(I)Z"⟩, Cond.sameMethod "MistHeaps$Heap" "MistHeaps$Heap" "leadsTo" "(I)Z", Cond.instanceMethod ⟨"MistHeaps$Heap", "leadsTo", "(I)Z"⟩, Cond.selects RX1 ⟨"MistHeaps$Heap", "leadsTo", "(I)Z"⟩ yX1_leadsTo, Cond.instanceMethod yX1_leadsTo, Cond.initialized RX1, Cond.code yX1_leadsTo cX1_leadsTo 2 (some .boolean), Cond.code yX3_leadsTo cX3_leadsTo 2 (some .boolean), Cond.methodLink RX2 62 yX3_leadsTo, Cond.instanceMethod yX3_leadsTo, Cond.selects RX3 yX3_leadsTo yX3_leadsTo, Cond.selects RX4 ⟨"MistHeaps$Heap", "leadsTo", "(I)Z"⟩ yX3_leadsTo, Cond.selects RX6 ⟨"MistHeaps$Heap", "leadsTo", "(I)Z"⟩ yX3_leadsTo, Cond.selects RX7 ⟨"MistHeaps$Heap", "leadsTo", "(I)Z"⟩ yX1_leadsTo, Cond.selects RX9 ⟨"MistHeaps$Heap", "leadsTo", "(I)Z"⟩ yX3_leadsTo, Cond.selects RX10 ⟨"MistHeaps$Heap", "leadsTo", "(I)Z"⟩ yX10_leadsTo, Cond.instanceMethod yX10_leadsTo, Cond.initialized RX10, Cond.code yX10_leadsTo cX10_leadsTo 3 (some .boolean), Cond.fieldLink RX10 9 "MistHeaps$Turning" "v" "I", Cond.sameField "MistHeaps$Turning" "MistHeaps$Heap" "v" "I"]
def wsX11_steps_r7 : List Cond := [Cond.fieldLink RX10 23 "MistHeaps$Turning" "cell" "I", Cond.sameField "MistHeaps$Turning" "MistHeaps$Heap" "cell" "I", Cond.methodLink RX10 26 yX10_isOnSide, Cond.static yX10_isOnSide, Cond.code yX10_isOnSide cX10_isOnSide 2 (some .boolean), Cond.methodLink RX11 148 yX2_fewest, Cond.instanceMethod yX2_fewest, Cond.selects RX2 yX2_fewest yX2_fewest, Cond.code yX2_fewest cX2_fewest 7 (some .int), Cond.methodLink RX2 66 yX2_onwardFrom, Cond.instanceMethod yX2_onwardFrom, Cond.selects RX2 yX2_onwardFrom yX2_onwardFrom, Cond.code yX2_onwardFrom cX2_onwardFrom 4 (some .int)]
def wsX11_steps : List Cond := .code yX11_steps cX11_steps 3 (some .int) :: ((wsX11_steps_r1 ++ (wsX11_steps_r2 ++ (wsX11_steps_r3 ++ (wsX11_steps_r4 ++ (wsX11_steps_r5 ++ (wsX11_steps_r6 ++ wsX11_steps_r7)))))) ++ wsX110 ++ wsX80 ++ wsX20 ++ wsX10 ++ wsX30 ++ wsX40 ++ wsX60 ++ wsX70 ++ wsX90 ++ wsX100 ++ wsX50)
def wsX11_via_r1 : List Cond := [Cond.fieldLink RX11 14 "MistHeaps" "scene" "LMistHeaps$Scene;", Cond.fieldLink RX11 35 "MistHeaps" "goings" "LMistHeaps$Goings;", Cond.fieldLink RX11 88 "MistHeaps$Scene" "snow" "I", Cond.methodLink RX11 141 yX8_areHeaps, Cond.instanceMethod yX8_areHeaps, Cond.selects RX8 yX8_areHeaps yX8_areHeaps, Cond.initialized RX8, Cond.code yX8_areHeaps cX8_areHeaps 3 (some .boolean), Cond.methodLink RX8 69 yX8_heapAt, Cond.instanceMethod yX8_heapAt, Cond.selects RX8 yX8_heapAt yX8_heapAt, Cond.code yX8_heapAt cX8_heapAt 2 (some (.object "MistHeaps$Heap")), Cond.fieldLink RX8 60 "MistHeaps$Scene" "heapCount" "I", Cond.fieldLink RX8 24 "MistHeaps$Scene" "heaps" "[LMistHeaps$Heap;", Cond.methodLink RX11 145 yX2_link, Cond.instanceMethod yX2_link, Cond.selects RX2 yX2_link yX2_link, Cond.initialized RX2, Cond.code yX2_link cX2_link 5 none, Cond.fieldLink RX2 27 "MistHeaps$Scene" "heapCount" "I", Cond.fieldLink RX2 52 "MistHeaps$Goings" "linked" "I", Cond.fieldLink RX2 15 "MistHeaps$Goings" "onward" "[I", Cond.fieldLink RX2 33 "MistHeaps$Scene" "heaps" "[LMistHeaps$Heap;", Cond.methodLink RX2 48 yX2_measure]
def wsX11_via_r2 : List Cond := [Cond.instanceMethod yX2_measure, Cond.selects RX2 yX2_measure yX2_measure, Cond.code yX2_measure cX2_measure 4 none, Cond.fieldLink RX2 9 "MistHeaps$Goings" "reach" "[I", Cond.methodLink RX2 37 yX8_reachOf, Cond.instanceMethod yX8_reachOf, Cond.selects RX8 yX8_reachOf yX8_reachOf, Cond.code yX8_reachOf cX8_reachOf 4 (some .int), Cond.fieldLink RX8 76 "MistHeaps$Heap" "number" "I", Cond.fieldLink RX8 79 "MistHeaps$Heap" "kind" "I", Cond.fieldLink RX8 73 "MistHeaps$Heap" "cell" "I", Cond.fieldLink RX8 18 "MistHeaps$Scene" "hill" "LMistHeaps$Hill;", Cond.fieldLink RX8 86 "MistHeaps$Hill" "sight" "I", Cond.fieldLink RX8 34 "MistHeaps$Scene" "facts" "[I", Cond.fieldLink RX8 54 "MistHeaps$Scene" "mist" "I", Cond.methodLink RX8 82 yX8_tellFacts, Cond.instanceMethod yX8_tellFacts, Cond.selects RX8 yX8_tellFacts yX8_tellFacts, Cond.code yX8_tellFacts cX8_tellFacts 5 none, Cond.static yX11_rowOf, Cond.initialized RX11, Cond.code yX11_rowOf cX11_rowOf 1 (some .int), Cond.static yX11_columnOf, Cond.code yX11_columnOf cX11_columnOf 1 (some .int)]
def wsX11_via_r3 : List Cond := [Cond.methodLink RX8 89 yX5_total, Cond.instanceMethod yX5_total, Cond.selects RX5 yX5_total yX5_total, Cond.initialized RX5, Cond.code yX5_total cX5_total 5 (some .int), Cond.fieldLink RX5 59 "MistHeaps$Hill" "clauses" "I", Cond.fieldLink RX5 15 "MistHeaps$Hill" "words" "[I", Cond.fieldLink RX5 19 "MistHeaps$Hill" "amounts" "[I", Cond.methodLink RX5 120 yX5_holds, Cond.instanceMethod yX5_holds, Cond.selects RX5 yX5_holds yX5_holds, Cond.code yX5_holds cX5_holds 7 (some .boolean), Cond.fieldLink RX5 22 "MistHeaps$Hill" "ends" "[I", Cond.fieldLink RX5 25 "MistHeaps$Hill" "codes" "[I", Cond.methodLink RX5 124 yX5_isSo, Cond.static yX5_isSo, Cond.code yX5_isSo cX5_isSo 4 (some .boolean), Cond.methodLink RX8 93 ⟨"MistHeaps$Heap", "reachBy", "(II)I"⟩, Cond.sameMethod "MistHeaps$Heap" "MistHeaps$Heap" "reachBy" "(II)I", Cond.selects RX1 ⟨"MistHeaps$Heap", "reachBy", "(II)I"⟩ yX3_reachBy, Cond.instanceMethod yX3_reachBy, Cond.initialized RX3, Cond.code yX3_reachBy cX3_reachBy 3 (some .int), Cond.methodLink RX3 28 Lib.Math.max.name]
def wsX11_via_r4 : List Cond := [Cond.static Lib.Math.max.name, Cond.initialized "java/lang/Math", Cond.code Lib.Math.max.name Lib.Math.max.code 2 (some .int), Cond.methodLink RX8 93 yX3_reachBy, Cond.selects RX3 yX3_reachBy yX3_reachBy, Cond.instanceMethod ⟨"MistHeaps$Heap", "reachBy", "(II)I"⟩, Cond.selects RX4 ⟨"MistHeaps$Heap", "reachBy", "(II)I"⟩ yX4_reachBy, Cond.instanceMethod yX4_reachBy, Cond.initialized RX4, Cond.code yX4_reachBy cX4_reachBy 3 (some .int), Cond.fieldLink RX4 7 "MistHeaps$High" "v" "I", Cond.sameField "MistHeaps$High" "MistHeaps$Heap" "v" "I", Cond.methodLink RX4 13 yX3_reachBy, Cond.superclass RX4 RX3, Cond.selects RX6 ⟨"MistHeaps$Heap", "reachBy", "(II)I"⟩ yX6_reachBy, Cond.instanceMethod yX6_reachBy, Cond.initialized RX6, Cond.code yX6_reachBy cX6_reachBy 3 (some .int), Cond.methodLink RX6 7 yX3_reachBy, Cond.superclass RX6 RX3, Cond.selects RX7 ⟨"MistHeaps$Heap", "reachBy", "(II)I"⟩ yX7_reachBy, Cond.instanceMethod yX7_reachBy, Cond.initialized RX7, Cond.code yX7_reachBy cX7_reachBy 3 (some .int)]
def wsX11_via_r5 : List Cond := [Cond.methodLink RX7 11 Lib.Math.min.name, Cond.static Lib.Math.min.name, Cond.code Lib.Math.min.name Lib.Math.min.code 2 (some .int), Cond.selects RX9 ⟨"MistHeaps$Heap", "reachBy", "(II)I"⟩ yX9_reachBy, Cond.instanceMethod yX9_reachBy, Cond.initialized RX9, Cond.code yX9_reachBy cX9_reachBy 3 (some .int), Cond.fieldLink RX9 7 "MistHeaps$Snowed" "v" "I", Cond.sameField "MistHeaps$Snowed" "MistHeaps$Heap" "v" "I", Cond.methodLink RX9 13 yX6_reachBy, Cond.sameMethod "MistHeaps$Low" "MistHeaps$Low" "reachBy" "(II)I", Cond.superclass RX9 RX6, Cond.selects RX10 ⟨"MistHeaps$Heap", "reachBy", "(II)I"⟩ yX4_reachBy, Cond.methodLink RX2 55 yX2_tellGoing, Cond.instanceMethod yX2_tellGoing, Cond.selects RX2 yX2_tellGoing yX2_tellGoing, Cond.code yX2_tellGoing cX2_tellGoing 5 none, Cond.fieldLink RX2 59 "MistHeaps$Heap" "number" "I", Cond.fieldLink RX2 41 "MistHeaps$Heap" "cell" "I", Cond.static yX11_apart, Cond.code yX11_apart cX11_apart 2 (some .int), Cond.methodLink RX11 263 Lib.Math.abs.name, Cond.static Lib.Math.abs.name, Cond.code Lib.Math.abs.name Lib.Math.abs.code 1 (some .int)]
def wsX11_via_r6 : List Cond := [Cond.methodLink RX11 204 Lib.Math.max.name, Cond.methodLink RX11 212 yX11_rowOf, Cond.methodLink RX11 215 yX11_columnOf, Cond.methodLink RX2 62 ⟨"MistHeaps$Heap", "leadsTo", "(I)Z"⟩, Cond.sameMethod "MistHeaps$Heap" "MistHeaps$Heap" "leadsTo" "(I)Z", Cond.instanceMethod ⟨"MistHeaps$Heap", "leadsTo", "(I)Z"⟩, Cond.selects RX1 ⟨"MistHeaps$Heap", "leadsTo", "(I)Z"⟩ yX1_leadsTo, Cond.instanceMethod yX1_leadsTo, Cond.initialized RX1, Cond.code yX1_leadsTo cX1_leadsTo 2 (some .boolean), Cond.code yX3_leadsTo cX3_leadsTo 2 (some .boolean), Cond.methodLink RX2 62 yX3_leadsTo, Cond.instanceMethod yX3_leadsTo, Cond.selects RX3 yX3_leadsTo yX3_leadsTo, Cond.selects RX4 ⟨"MistHeaps$Heap", "leadsTo", "(I)Z"⟩ yX3_leadsTo, Cond.selects RX6 ⟨"MistHeaps$Heap", "leadsTo", "(I)Z"⟩ yX3_leadsTo, Cond.selects RX7 ⟨"MistHeaps$Heap", "leadsTo", "(I)Z"⟩ yX1_leadsTo, Cond.selects RX9 ⟨"MistHeaps$Heap", "leadsTo", "(I)Z"⟩ yX3_leadsTo, Cond.selects RX10 ⟨"MistHeaps$Heap", "leadsTo", "(I)Z"⟩ yX10_leadsTo, Cond.instanceMethod yX10_leadsTo, Cond.initialized RX10, Cond.code yX10_leadsTo cX10_leadsTo 3 (some .boolean), Cond.fieldLink RX10 9 "MistHeaps$Turning" "v" "I", Cond.sameField "MistHeaps$Turning" "MistHeaps$Heap" "v" "I"]
def wsX11_via_r7 : List Cond := [Cond.fieldLink RX10 23 "MistHeaps$Turning" "cell" "I", Cond.sameField "MistHeaps$Turning" "MistHeaps$Heap" "cell" "I", Cond.methodLink RX10 26 yX10_isOnSide, Cond.static yX10_isOnSide, Cond.code yX10_isOnSide cX10_isOnSide 2 (some .boolean), Cond.methodLink RX11 152 yX2_first, Cond.instanceMethod yX2_first, Cond.selects RX2 yX2_first yX2_first, Cond.code yX2_first cX2_first 5 (some .int), Cond.methodLink RX2 70 yX2_fewest, Cond.instanceMethod yX2_fewest, Cond.selects RX2 yX2_fewest yX2_fewest, Cond.code yX2_fewest cX2_fewest 7 (some .int), Cond.methodLink RX2 66 yX2_onwardFrom, Cond.instanceMethod yX2_onwardFrom, Cond.selects RX2 yX2_onwardFrom yX2_onwardFrom, Cond.code yX2_onwardFrom cX2_onwardFrom 4 (some .int), Cond.methodLink RX2 74 yX2_isGoing, Cond.instanceMethod yX2_isGoing, Cond.selects RX2 yX2_isGoing yX2_isGoing, Cond.code yX2_isGoing cX2_isGoing 3 (some .boolean)]
def wsX11_via : List Cond := .code yX11_via cX11_via 3 (some .int) :: ((wsX11_via_r1 ++ (wsX11_via_r2 ++ (wsX11_via_r3 ++ (wsX11_via_r4 ++ (wsX11_via_r5 ++ (wsX11_via_r6 ++ wsX11_via_r7)))))) ++ wsX110 ++ wsX80 ++ wsX20 ++ wsX10 ++ wsX30 ++ wsX40 ++ wsX60 ++ wsX70 ++ wsX90 ++ wsX100 ++ wsX50)
def wsX11_cuts_r1 : List Cond := [Cond.fieldLink RX11 14 "MistHeaps" "scene" "LMistHeaps$Scene;", Cond.fieldLink RX11 35 "MistHeaps" "goings" "LMistHeaps$Goings;", Cond.fieldLink RX11 88 "MistHeaps$Scene" "snow" "I", Cond.methodLink RX11 141 yX8_areHeaps, Cond.instanceMethod yX8_areHeaps, Cond.selects RX8 yX8_areHeaps yX8_areHeaps, Cond.initialized RX8, Cond.code yX8_areHeaps cX8_areHeaps 3 (some .boolean), Cond.methodLink RX8 69 yX8_heapAt, Cond.instanceMethod yX8_heapAt, Cond.selects RX8 yX8_heapAt yX8_heapAt, Cond.code yX8_heapAt cX8_heapAt 2 (some (.object "MistHeaps$Heap")), Cond.fieldLink RX8 60 "MistHeaps$Scene" "heapCount" "I", Cond.fieldLink RX8 24 "MistHeaps$Scene" "heaps" "[LMistHeaps$Heap;", Cond.methodLink RX11 145 yX2_link, Cond.instanceMethod yX2_link, Cond.selects RX2 yX2_link yX2_link, Cond.initialized RX2, Cond.code yX2_link cX2_link 5 none, Cond.fieldLink RX2 27 "MistHeaps$Scene" "heapCount" "I", Cond.fieldLink RX2 52 "MistHeaps$Goings" "linked" "I", Cond.fieldLink RX2 15 "MistHeaps$Goings" "onward" "[I", Cond.fieldLink RX2 33 "MistHeaps$Scene" "heaps" "[LMistHeaps$Heap;", Cond.methodLink RX2 48 yX2_measure]
def wsX11_cuts_r2 : List Cond := [Cond.instanceMethod yX2_measure, Cond.selects RX2 yX2_measure yX2_measure, Cond.code yX2_measure cX2_measure 4 none, Cond.fieldLink RX2 9 "MistHeaps$Goings" "reach" "[I", Cond.methodLink RX2 37 yX8_reachOf, Cond.instanceMethod yX8_reachOf, Cond.selects RX8 yX8_reachOf yX8_reachOf, Cond.code yX8_reachOf cX8_reachOf 4 (some .int), Cond.fieldLink RX8 76 "MistHeaps$Heap" "number" "I", Cond.fieldLink RX8 79 "MistHeaps$Heap" "kind" "I", Cond.fieldLink RX8 73 "MistHeaps$Heap" "cell" "I", Cond.fieldLink RX8 18 "MistHeaps$Scene" "hill" "LMistHeaps$Hill;", Cond.fieldLink RX8 86 "MistHeaps$Hill" "sight" "I", Cond.fieldLink RX8 34 "MistHeaps$Scene" "facts" "[I", Cond.fieldLink RX8 54 "MistHeaps$Scene" "mist" "I", Cond.methodLink RX8 82 yX8_tellFacts, Cond.instanceMethod yX8_tellFacts, Cond.selects RX8 yX8_tellFacts yX8_tellFacts, Cond.code yX8_tellFacts cX8_tellFacts 5 none, Cond.static yX11_rowOf, Cond.initialized RX11, Cond.code yX11_rowOf cX11_rowOf 1 (some .int), Cond.static yX11_columnOf, Cond.code yX11_columnOf cX11_columnOf 1 (some .int)]
def wsX11_cuts_r3 : List Cond := [Cond.methodLink RX8 89 yX5_total, Cond.instanceMethod yX5_total, Cond.selects RX5 yX5_total yX5_total, Cond.initialized RX5, Cond.code yX5_total cX5_total 5 (some .int), Cond.fieldLink RX5 59 "MistHeaps$Hill" "clauses" "I", Cond.fieldLink RX5 15 "MistHeaps$Hill" "words" "[I", Cond.fieldLink RX5 19 "MistHeaps$Hill" "amounts" "[I", Cond.methodLink RX5 120 yX5_holds, Cond.instanceMethod yX5_holds, Cond.selects RX5 yX5_holds yX5_holds, Cond.code yX5_holds cX5_holds 7 (some .boolean), Cond.fieldLink RX5 22 "MistHeaps$Hill" "ends" "[I", Cond.fieldLink RX5 25 "MistHeaps$Hill" "codes" "[I", Cond.methodLink RX5 124 yX5_isSo, Cond.static yX5_isSo, Cond.code yX5_isSo cX5_isSo 4 (some .boolean), Cond.methodLink RX8 93 ⟨"MistHeaps$Heap", "reachBy", "(II)I"⟩, Cond.sameMethod "MistHeaps$Heap" "MistHeaps$Heap" "reachBy" "(II)I", Cond.selects RX1 ⟨"MistHeaps$Heap", "reachBy", "(II)I"⟩ yX3_reachBy, Cond.instanceMethod yX3_reachBy, Cond.initialized RX3, Cond.code yX3_reachBy cX3_reachBy 3 (some .int), Cond.methodLink RX3 28 Lib.Math.max.name]
def wsX11_cuts_r4 : List Cond := [Cond.static Lib.Math.max.name, Cond.initialized "java/lang/Math", Cond.code Lib.Math.max.name Lib.Math.max.code 2 (some .int), Cond.methodLink RX8 93 yX3_reachBy, Cond.selects RX3 yX3_reachBy yX3_reachBy, Cond.instanceMethod ⟨"MistHeaps$Heap", "reachBy", "(II)I"⟩, Cond.selects RX4 ⟨"MistHeaps$Heap", "reachBy", "(II)I"⟩ yX4_reachBy, Cond.instanceMethod yX4_reachBy, Cond.initialized RX4, Cond.code yX4_reachBy cX4_reachBy 3 (some .int), Cond.fieldLink RX4 7 "MistHeaps$High" "v" "I", Cond.sameField "MistHeaps$High" "MistHeaps$Heap" "v" "I", Cond.methodLink RX4 13 yX3_reachBy, Cond.superclass RX4 RX3, Cond.selects RX6 ⟨"MistHeaps$Heap", "reachBy", "(II)I"⟩ yX6_reachBy, Cond.instanceMethod yX6_reachBy, Cond.initialized RX6, Cond.code yX6_reachBy cX6_reachBy 3 (some .int), Cond.methodLink RX6 7 yX3_reachBy, Cond.superclass RX6 RX3, Cond.selects RX7 ⟨"MistHeaps$Heap", "reachBy", "(II)I"⟩ yX7_reachBy, Cond.instanceMethod yX7_reachBy, Cond.initialized RX7, Cond.code yX7_reachBy cX7_reachBy 3 (some .int)]
def wsX11_cuts_r5 : List Cond := [Cond.methodLink RX7 11 Lib.Math.min.name, Cond.static Lib.Math.min.name, Cond.code Lib.Math.min.name Lib.Math.min.code 2 (some .int), Cond.selects RX9 ⟨"MistHeaps$Heap", "reachBy", "(II)I"⟩ yX9_reachBy, Cond.instanceMethod yX9_reachBy, Cond.initialized RX9, Cond.code yX9_reachBy cX9_reachBy 3 (some .int), Cond.fieldLink RX9 7 "MistHeaps$Snowed" "v" "I", Cond.sameField "MistHeaps$Snowed" "MistHeaps$Heap" "v" "I", Cond.methodLink RX9 13 yX6_reachBy, Cond.sameMethod "MistHeaps$Low" "MistHeaps$Low" "reachBy" "(II)I", Cond.superclass RX9 RX6, Cond.selects RX10 ⟨"MistHeaps$Heap", "reachBy", "(II)I"⟩ yX4_reachBy, Cond.methodLink RX2 55 yX2_tellGoing, Cond.instanceMethod yX2_tellGoing, Cond.selects RX2 yX2_tellGoing yX2_tellGoing, Cond.code yX2_tellGoing cX2_tellGoing 5 none, Cond.fieldLink RX2 59 "MistHeaps$Heap" "number" "I", Cond.fieldLink RX2 41 "MistHeaps$Heap" "cell" "I", Cond.static yX11_apart, Cond.code yX11_apart cX11_apart 2 (some .int), Cond.methodLink RX11 263 Lib.Math.abs.name, Cond.static Lib.Math.abs.name, Cond.code Lib.Math.abs.name Lib.Math.abs.code 1 (some .int)]
def wsX11_cuts_r6 : List Cond := [Cond.methodLink RX11 204 Lib.Math.max.name, Cond.methodLink RX11 212 yX11_rowOf, Cond.methodLink RX11 215 yX11_columnOf, Cond.methodLink RX2 62 ⟨"MistHeaps$Heap", "leadsTo", "(I)Z"⟩, Cond.sameMethod "MistHeaps$Heap" "MistHeaps$Heap" "leadsTo" "(I)Z", Cond.instanceMethod ⟨"MistHeaps$Heap", "leadsTo", "(I)Z"⟩, Cond.selects RX1 ⟨"MistHeaps$Heap", "leadsTo", "(I)Z"⟩ yX1_leadsTo, Cond.instanceMethod yX1_leadsTo, Cond.initialized RX1, Cond.code yX1_leadsTo cX1_leadsTo 2 (some .boolean), Cond.code yX3_leadsTo cX3_leadsTo 2 (some .boolean), Cond.methodLink RX2 62 yX3_leadsTo, Cond.instanceMethod yX3_leadsTo, Cond.selects RX3 yX3_leadsTo yX3_leadsTo, Cond.selects RX4 ⟨"MistHeaps$Heap", "leadsTo", "(I)Z"⟩ yX3_leadsTo, Cond.selects RX6 ⟨"MistHeaps$Heap", "leadsTo", "(I)Z"⟩ yX3_leadsTo, Cond.selects RX7 ⟨"MistHeaps$Heap", "leadsTo", "(I)Z"⟩ yX1_leadsTo, Cond.selects RX9 ⟨"MistHeaps$Heap", "leadsTo", "(I)Z"⟩ yX3_leadsTo, Cond.selects RX10 ⟨"MistHeaps$Heap", "leadsTo", "(I)Z"⟩ yX10_leadsTo, Cond.instanceMethod yX10_leadsTo, Cond.initialized RX10, Cond.code yX10_leadsTo cX10_leadsTo 3 (some .boolean), Cond.fieldLink RX10 9 "MistHeaps$Turning" "v" "I", Cond.sameField "MistHeaps$Turning" "MistHeaps$Heap" "v" "I"]
def wsX11_cuts_r7 : List Cond := [Cond.fieldLink RX10 23 "MistHeaps$Turning" "cell" "I", Cond.sameField "MistHeaps$Turning" "MistHeaps$Heap" "cell" "I", Cond.methodLink RX10 26 yX10_isOnSide, Cond.static yX10_isOnSide, Cond.code yX10_isOnSide cX10_isOnSide 2 (some .boolean), Cond.methodLink RX11 156 yX2_breaks, Cond.instanceMethod yX2_breaks, Cond.selects RX2 yX2_breaks yX2_breaks, Cond.code yX2_breaks cX2_breaks 5 (some .int), Cond.methodLink RX2 70 yX2_fewest, Cond.instanceMethod yX2_fewest, Cond.selects RX2 yX2_fewest yX2_fewest, Cond.code yX2_fewest cX2_fewest 7 (some .int), Cond.methodLink RX2 66 yX2_onwardFrom, Cond.instanceMethod yX2_onwardFrom, Cond.selects RX2 yX2_onwardFrom yX2_onwardFrom, Cond.code yX2_onwardFrom cX2_onwardFrom 4 (some .int)]
def wsX11_cuts : List Cond := .code yX11_cuts cX11_cuts 3 (some .int) :: ((wsX11_cuts_r1 ++ (wsX11_cuts_r2 ++ (wsX11_cuts_r3 ++ (wsX11_cuts_r4 ++ (wsX11_cuts_r5 ++ (wsX11_cuts_r6 ++ wsX11_cuts_r7)))))) ++ wsX110 ++ wsX80 ++ wsX20 ++ wsX10 ++ wsX30 ++ wsX40 ++ wsX60 ++ wsX70 ++ wsX90 ++ wsX100 ++ wsX50)
def wsX11_bears_r1 : List Cond := [Cond.fieldLink RX11 14 "MistHeaps" "scene" "LMistHeaps$Scene;", Cond.fieldLink RX11 35 "MistHeaps" "goings" "LMistHeaps$Goings;", Cond.methodLink RX11 141 yX8_areHeaps, Cond.instanceMethod yX8_areHeaps, Cond.selects RX8 yX8_areHeaps yX8_areHeaps, Cond.initialized RX8, Cond.code yX8_areHeaps cX8_areHeaps 3 (some .boolean), Cond.methodLink RX8 69 yX8_heapAt, Cond.instanceMethod yX8_heapAt, Cond.selects RX8 yX8_heapAt yX8_heapAt, Cond.code yX8_heapAt cX8_heapAt 2 (some (.object "MistHeaps$Heap")), Cond.fieldLink RX8 60 "MistHeaps$Scene" "heapCount" "I", Cond.fieldLink RX8 24 "MistHeaps$Scene" "heaps" "[LMistHeaps$Heap;", Cond.methodLink RX11 145 yX2_link, Cond.instanceMethod yX2_link, Cond.selects RX2 yX2_link yX2_link, Cond.initialized RX2, Cond.code yX2_link cX2_link 5 none, Cond.fieldLink RX2 27 "MistHeaps$Scene" "heapCount" "I", Cond.fieldLink RX2 52 "MistHeaps$Goings" "linked" "I", Cond.fieldLink RX2 15 "MistHeaps$Goings" "onward" "[I", Cond.fieldLink RX2 33 "MistHeaps$Scene" "heaps" "[LMistHeaps$Heap;", Cond.methodLink RX2 48 yX2_measure, Cond.instanceMethod yX2_measure]
def wsX11_bears_r2 : List Cond := [Cond.selects RX2 yX2_measure yX2_measure, Cond.code yX2_measure cX2_measure 4 none, Cond.fieldLink RX2 9 "MistHeaps$Goings" "reach" "[I", Cond.methodLink RX2 37 yX8_reachOf, Cond.instanceMethod yX8_reachOf, Cond.selects RX8 yX8_reachOf yX8_reachOf, Cond.code yX8_reachOf cX8_reachOf 4 (some .int), Cond.fieldLink RX8 76 "MistHeaps$Heap" "number" "I", Cond.fieldLink RX8 79 "MistHeaps$Heap" "kind" "I", Cond.fieldLink RX8 73 "MistHeaps$Heap" "cell" "I", Cond.fieldLink RX8 18 "MistHeaps$Scene" "hill" "LMistHeaps$Hill;", Cond.fieldLink RX8 86 "MistHeaps$Hill" "sight" "I", Cond.fieldLink RX8 34 "MistHeaps$Scene" "facts" "[I", Cond.fieldLink RX8 54 "MistHeaps$Scene" "mist" "I", Cond.methodLink RX8 82 yX8_tellFacts, Cond.instanceMethod yX8_tellFacts, Cond.selects RX8 yX8_tellFacts yX8_tellFacts, Cond.code yX8_tellFacts cX8_tellFacts 5 none, Cond.static yX11_rowOf, Cond.initialized RX11, Cond.code yX11_rowOf cX11_rowOf 1 (some .int), Cond.static yX11_columnOf, Cond.code yX11_columnOf cX11_columnOf 1 (some .int), Cond.methodLink RX8 89 yX5_total]
def wsX11_bears_r3 : List Cond := [Cond.instanceMethod yX5_total, Cond.selects RX5 yX5_total yX5_total, Cond.initialized RX5, Cond.code yX5_total cX5_total 5 (some .int), Cond.fieldLink RX5 59 "MistHeaps$Hill" "clauses" "I", Cond.fieldLink RX5 15 "MistHeaps$Hill" "words" "[I", Cond.fieldLink RX5 19 "MistHeaps$Hill" "amounts" "[I", Cond.methodLink RX5 120 yX5_holds, Cond.instanceMethod yX5_holds, Cond.selects RX5 yX5_holds yX5_holds, Cond.code yX5_holds cX5_holds 7 (some .boolean), Cond.fieldLink RX5 22 "MistHeaps$Hill" "ends" "[I", Cond.fieldLink RX5 25 "MistHeaps$Hill" "codes" "[I", Cond.methodLink RX5 124 yX5_isSo, Cond.static yX5_isSo, Cond.code yX5_isSo cX5_isSo 4 (some .boolean), Cond.methodLink RX8 93 ⟨"MistHeaps$Heap", "reachBy", "(II)I"⟩, Cond.sameMethod "MistHeaps$Heap" "MistHeaps$Heap" "reachBy" "(II)I", Cond.selects RX1 ⟨"MistHeaps$Heap", "reachBy", "(II)I"⟩ yX3_reachBy, Cond.instanceMethod yX3_reachBy, Cond.initialized RX3, Cond.code yX3_reachBy cX3_reachBy 3 (some .int), Cond.methodLink RX3 28 Lib.Math.max.name, Cond.static Lib.Math.max.name]
def wsX11_bears_r4 : List Cond := [Cond.initialized "java/lang/Math", Cond.code Lib.Math.max.name Lib.Math.max.code 2 (some .int), Cond.methodLink RX8 93 yX3_reachBy, Cond.selects RX3 yX3_reachBy yX3_reachBy, Cond.instanceMethod ⟨"MistHeaps$Heap", "reachBy", "(II)I"⟩, Cond.selects RX4 ⟨"MistHeaps$Heap", "reachBy", "(II)I"⟩ yX4_reachBy, Cond.instanceMethod yX4_reachBy, Cond.initialized RX4, Cond.code yX4_reachBy cX4_reachBy 3 (some .int), Cond.fieldLink RX4 7 "MistHeaps$High" "v" "I", Cond.sameField "MistHeaps$High" "MistHeaps$Heap" "v" "I", Cond.methodLink RX4 13 yX3_reachBy, Cond.superclass RX4 RX3, Cond.selects RX6 ⟨"MistHeaps$Heap", "reachBy", "(II)I"⟩ yX6_reachBy, Cond.instanceMethod yX6_reachBy, Cond.initialized RX6, Cond.code yX6_reachBy cX6_reachBy 3 (some .int), Cond.methodLink RX6 7 yX3_reachBy, Cond.superclass RX6 RX3, Cond.selects RX7 ⟨"MistHeaps$Heap", "reachBy", "(II)I"⟩ yX7_reachBy, Cond.instanceMethod yX7_reachBy, Cond.initialized RX7, Cond.code yX7_reachBy cX7_reachBy 3 (some .int), Cond.methodLink RX7 11 Lib.Math.min.name]
def wsX11_bears_r5 : List Cond := [Cond.static Lib.Math.min.name, Cond.code Lib.Math.min.name Lib.Math.min.code 2 (some .int), Cond.selects RX9 ⟨"MistHeaps$Heap", "reachBy", "(II)I"⟩ yX9_reachBy, Cond.instanceMethod yX9_reachBy, Cond.initialized RX9, Cond.code yX9_reachBy cX9_reachBy 3 (some .int), Cond.fieldLink RX9 7 "MistHeaps$Snowed" "v" "I", Cond.sameField "MistHeaps$Snowed" "MistHeaps$Heap" "v" "I", Cond.methodLink RX9 13 yX6_reachBy, Cond.sameMethod "MistHeaps$Low" "MistHeaps$Low" "reachBy" "(II)I", Cond.superclass RX9 RX6, Cond.selects RX10 ⟨"MistHeaps$Heap", "reachBy", "(II)I"⟩ yX4_reachBy, Cond.methodLink RX2 55 yX2_tellGoing, Cond.instanceMethod yX2_tellGoing, Cond.selects RX2 yX2_tellGoing yX2_tellGoing, Cond.code yX2_tellGoing cX2_tellGoing 5 none, Cond.fieldLink RX2 59 "MistHeaps$Heap" "number" "I", Cond.fieldLink RX2 41 "MistHeaps$Heap" "cell" "I", Cond.static yX11_apart, Cond.code yX11_apart cX11_apart 2 (some .int), Cond.methodLink RX11 263 Lib.Math.abs.name, Cond.static Lib.Math.abs.name, Cond.code Lib.Math.abs.name Lib.Math.abs.code 1 (some .int), Cond.methodLink RX11 204 Lib.Math.max.name]
def wsX11_bears_r6 : List Cond := [Cond.methodLink RX11 212 yX11_rowOf, Cond.methodLink RX11 215 yX11_columnOf, Cond.methodLink RX2 62 ⟨"MistHeaps$Heap", "leadsTo", "(I)Z"⟩, Cond.sameMethod "MistHeaps$Heap" "MistHeaps$Heap" "leadsTo" "(I)Z", Cond.instanceMethod ⟨"MistHeaps$Heap", "leadsTo", "(I)Z"⟩, Cond.selects RX1 ⟨"MistHeaps$Heap", "leadsTo", "(I)Z"⟩ yX1_leadsTo, Cond.instanceMethod yX1_leadsTo, Cond.initialized RX1, Cond.code yX1_leadsTo cX1_leadsTo 2 (some .boolean), Cond.code yX3_leadsTo cX3_leadsTo 2 (some .boolean), Cond.methodLink RX2 62 yX3_leadsTo, Cond.instanceMethod yX3_leadsTo, Cond.selects RX3 yX3_leadsTo yX3_leadsTo, Cond.selects RX4 ⟨"MistHeaps$Heap", "leadsTo", "(I)Z"⟩ yX3_leadsTo, Cond.selects RX6 ⟨"MistHeaps$Heap", "leadsTo", "(I)Z"⟩ yX3_leadsTo, Cond.selects RX7 ⟨"MistHeaps$Heap", "leadsTo", "(I)Z"⟩ yX1_leadsTo, Cond.selects RX9 ⟨"MistHeaps$Heap", "leadsTo", "(I)Z"⟩ yX3_leadsTo, Cond.selects RX10 ⟨"MistHeaps$Heap", "leadsTo", "(I)Z"⟩ yX10_leadsTo, Cond.instanceMethod yX10_leadsTo, Cond.initialized RX10, Cond.code yX10_leadsTo cX10_leadsTo 3 (some .boolean), Cond.fieldLink RX10 9 "MistHeaps$Turning" "v" "I", Cond.sameField "MistHeaps$Turning" "MistHeaps$Heap" "v" "I", Cond.fieldLink RX10 23 "MistHeaps$Turning" "cell" "I"]
def wsX11_bears_r7 : List Cond := [Cond.sameField "MistHeaps$Turning" "MistHeaps$Heap" "cell" "I", Cond.methodLink RX10 26 yX10_isOnSide, Cond.static yX10_isOnSide, Cond.code yX10_isOnSide cX10_isOnSide 2 (some .boolean), Cond.methodLink RX11 148 yX2_fewest, Cond.instanceMethod yX2_fewest, Cond.selects RX2 yX2_fewest yX2_fewest, Cond.code yX2_fewest cX2_fewest 7 (some .int), Cond.methodLink RX2 66 yX2_onwardFrom, Cond.instanceMethod yX2_onwardFrom, Cond.selects RX2 yX2_onwardFrom yX2_onwardFrom, Cond.code yX2_onwardFrom cX2_onwardFrom 4 (some .int)]
def wsX11_bears : List Cond := .code yX11_bears cX11_bears 4 (some .int) :: ((wsX11_bears_r1 ++ (wsX11_bears_r2 ++ (wsX11_bears_r3 ++ (wsX11_bears_r4 ++ (wsX11_bears_r5 ++ (wsX11_bears_r6 ++ wsX11_bears_r7)))))) ++ wsX110 ++ wsX80 ++ wsX20 ++ wsX10 ++ wsX30 ++ wsX40 ++ wsX60 ++ wsX70 ++ wsX90 ++ wsX100 ++ wsX50)
def wsX11_build_r1 : List Cond := [Cond.fieldLink RX11 14 "MistHeaps" "scene" "LMistHeaps$Scene;", Cond.fieldLink RX11 35 "MistHeaps" "goings" "LMistHeaps$Goings;", Cond.methodLink RX11 141 yX8_areHeaps, Cond.instanceMethod yX8_areHeaps, Cond.selects RX8 yX8_areHeaps yX8_areHeaps, Cond.initialized RX8, Cond.code yX8_areHeaps cX8_areHeaps 3 (some .boolean), Cond.methodLink RX8 69 yX8_heapAt, Cond.instanceMethod yX8_heapAt, Cond.selects RX8 yX8_heapAt yX8_heapAt, Cond.code yX8_heapAt cX8_heapAt 2 (some (.object "MistHeaps$Heap")), Cond.fieldLink RX8 60 "MistHeaps$Scene" "heapCount" "I", Cond.fieldLink RX8 24 "MistHeaps$Scene" "heaps" "[LMistHeaps$Heap;", Cond.methodLink RX11 159 yX2_bestCell, Cond.instanceMethod yX2_bestCell, Cond.selects RX2 yX2_bestCell yX2_bestCell, Cond.initialized RX2, Cond.code yX2_bestCell cX2_bestCell 8 (some .int), Cond.fieldLink RX2 27 "MistHeaps$Scene" "heapCount" "I", Cond.fieldLink RX2 78 "MistHeaps$Scene" "snow" "I", Cond.methodLink RX2 81 yX2_link, Cond.instanceMethod yX2_link, Cond.selects RX2 yX2_link yX2_link, Cond.code yX2_link cX2_link 5 none]
def wsX11_build_r2 : List Cond := [Cond.fieldLink RX2 52 "MistHeaps$Goings" "linked" "I", Cond.fieldLink RX2 15 "MistHeaps$Goings" "onward" "[I", Cond.fieldLink RX2 33 "MistHeaps$Scene" "heaps" "[LMistHeaps$Heap;", Cond.methodLink RX2 48 yX2_measure, Cond.instanceMethod yX2_measure, Cond.selects RX2 yX2_measure yX2_measure, Cond.code yX2_measure cX2_measure 4 none, Cond.fieldLink RX2 9 "MistHeaps$Goings" "reach" "[I", Cond.methodLink RX2 37 yX8_reachOf, Cond.instanceMethod yX8_reachOf, Cond.selects RX8 yX8_reachOf yX8_reachOf, Cond.code yX8_reachOf cX8_reachOf 4 (some .int), Cond.fieldLink RX8 76 "MistHeaps$Heap" "number" "I", Cond.fieldLink RX8 79 "MistHeaps$Heap" "kind" "I", Cond.fieldLink RX8 73 "MistHeaps$Heap" "cell" "I", Cond.fieldLink RX8 18 "MistHeaps$Scene" "hill" "LMistHeaps$Hill;", Cond.fieldLink RX8 86 "MistHeaps$Hill" "sight" "I", Cond.fieldLink RX8 34 "MistHeaps$Scene" "facts" "[I", Cond.fieldLink RX8 54 "MistHeaps$Scene" "mist" "I", Cond.methodLink RX8 82 yX8_tellFacts, Cond.instanceMethod yX8_tellFacts, Cond.selects RX8 yX8_tellFacts yX8_tellFacts, Cond.code yX8_tellFacts cX8_tellFacts 5 none, Cond.static yX11_rowOf]
def wsX11_build_r3 : List Cond := [Cond.initialized RX11, Cond.code yX11_rowOf cX11_rowOf 1 (some .int), Cond.static yX11_columnOf, Cond.code yX11_columnOf cX11_columnOf 1 (some .int), Cond.methodLink RX8 89 yX5_total, Cond.instanceMethod yX5_total, Cond.selects RX5 yX5_total yX5_total, Cond.initialized RX5, Cond.code yX5_total cX5_total 5 (some .int), Cond.fieldLink RX5 59 "MistHeaps$Hill" "clauses" "I", Cond.fieldLink RX5 15 "MistHeaps$Hill" "words" "[I", Cond.fieldLink RX5 19 "MistHeaps$Hill" "amounts" "[I", Cond.methodLink RX5 120 yX5_holds, Cond.instanceMethod yX5_holds, Cond.selects RX5 yX5_holds yX5_holds, Cond.code yX5_holds cX5_holds 7 (some .boolean), Cond.fieldLink RX5 22 "MistHeaps$Hill" "ends" "[I", Cond.fieldLink RX5 25 "MistHeaps$Hill" "codes" "[I", Cond.methodLink RX5 124 yX5_isSo, Cond.static yX5_isSo, Cond.code yX5_isSo cX5_isSo 4 (some .boolean), Cond.methodLink RX8 93 ⟨"MistHeaps$Heap", "reachBy", "(II)I"⟩, Cond.sameMethod "MistHeaps$Heap" "MistHeaps$Heap" "reachBy" "(II)I", Cond.selects RX1 ⟨"MistHeaps$Heap", "reachBy", "(II)I"⟩ yX3_reachBy]
def wsX11_build_r4 : List Cond := [Cond.instanceMethod yX3_reachBy, Cond.initialized RX3, Cond.code yX3_reachBy cX3_reachBy 3 (some .int), Cond.methodLink RX3 28 Lib.Math.max.name, Cond.static Lib.Math.max.name, Cond.initialized "java/lang/Math", Cond.code Lib.Math.max.name Lib.Math.max.code 2 (some .int), Cond.methodLink RX8 93 yX3_reachBy, Cond.selects RX3 yX3_reachBy yX3_reachBy, Cond.instanceMethod ⟨"MistHeaps$Heap", "reachBy", "(II)I"⟩, Cond.selects RX4 ⟨"MistHeaps$Heap", "reachBy", "(II)I"⟩ yX4_reachBy, Cond.instanceMethod yX4_reachBy, Cond.initialized RX4, Cond.code yX4_reachBy cX4_reachBy 3 (some .int), Cond.fieldLink RX4 7 "MistHeaps$High" "v" "I", Cond.sameField "MistHeaps$High" "MistHeaps$Heap" "v" "I", Cond.methodLink RX4 13 yX3_reachBy, Cond.superclass RX4 RX3, Cond.selects RX6 ⟨"MistHeaps$Heap", "reachBy", "(II)I"⟩ yX6_reachBy, Cond.instanceMethod yX6_reachBy, Cond.initialized RX6, Cond.code yX6_reachBy cX6_reachBy 3 (some .int), Cond.methodLink RX6 7 yX3_reachBy, Cond.superclass RX6 RX3]
def wsX11_build_r5 : List Cond := [Cond.selects RX7 ⟨"MistHeaps$Heap", "reachBy", "(II)I"⟩ yX7_reachBy, Cond.instanceMethod yX7_reachBy, Cond.initialized RX7, Cond.code yX7_reachBy cX7_reachBy 3 (some .int), Cond.methodLink RX7 11 Lib.Math.min.name, Cond.static Lib.Math.min.name, Cond.code Lib.Math.min.name Lib.Math.min.code 2 (some .int), Cond.selects RX9 ⟨"MistHeaps$Heap", "reachBy", "(II)I"⟩ yX9_reachBy, Cond.instanceMethod yX9_reachBy, Cond.initialized RX9, Cond.code yX9_reachBy cX9_reachBy 3 (some .int), Cond.fieldLink RX9 7 "MistHeaps$Snowed" "v" "I", Cond.sameField "MistHeaps$Snowed" "MistHeaps$Heap" "v" "I", Cond.methodLink RX9 13 yX6_reachBy, Cond.sameMethod "MistHeaps$Low" "MistHeaps$Low" "reachBy" "(II)I", Cond.superclass RX9 RX6, Cond.selects RX10 ⟨"MistHeaps$Heap", "reachBy", "(II)I"⟩ yX4_reachBy, Cond.methodLink RX2 55 yX2_tellGoing, Cond.instanceMethod yX2_tellGoing, Cond.selects RX2 yX2_tellGoing yX2_tellGoing, Cond.code yX2_tellGoing cX2_tellGoing 5 none, Cond.fieldLink RX2 59 "MistHeaps$Heap" "number" "I", Cond.fieldLink RX2 41 "MistHeaps$Heap" "cell" "I", Cond.static yX11_apart]
def wsX11_build_r6 : List Cond := [Cond.code yX11_apart cX11_apart 2 (some .int), Cond.methodLink RX11 263 Lib.Math.abs.name, Cond.static Lib.Math.abs.name, Cond.code Lib.Math.abs.name Lib.Math.abs.code 1 (some .int), Cond.methodLink RX11 204 Lib.Math.max.name, Cond.methodLink RX11 212 yX11_rowOf, Cond.methodLink RX11 215 yX11_columnOf, Cond.methodLink RX2 62 ⟨"MistHeaps$Heap", "leadsTo", "(I)Z"⟩, Cond.sameMethod "MistHeaps$Heap" "MistHeaps$Heap" "leadsTo" "(I)Z", Cond.instanceMethod ⟨"MistHeaps$Heap", "leadsTo", "(I)Z"⟩, Cond.selects RX1 ⟨"MistHeaps$Heap", "leadsTo", "(I)Z"⟩ yX1_leadsTo, Cond.instanceMethod yX1_leadsTo, Cond.initialized RX1, Cond.code yX1_leadsTo cX1_leadsTo 2 (some .boolean), Cond.code yX3_leadsTo cX3_leadsTo 2 (some .boolean), Cond.methodLink RX2 62 yX3_leadsTo, Cond.instanceMethod yX3_leadsTo, Cond.selects RX3 yX3_leadsTo yX3_leadsTo, Cond.selects RX4 ⟨"MistHeaps$Heap", "leadsTo", "(I)Z"⟩ yX3_leadsTo, Cond.selects RX6 ⟨"MistHeaps$Heap", "leadsTo", "(I)Z"⟩ yX3_leadsTo, Cond.selects RX7 ⟨"MistHeaps$Heap", "leadsTo", "(I)Z"⟩ yX1_leadsTo, Cond.selects RX9 ⟨"MistHeaps$Heap", "leadsTo", "(I)Z"⟩ yX3_leadsTo, Cond.selects RX10 ⟨"MistHeaps$Heap", "leadsTo", "(I)Z"⟩ yX10_leadsTo, Cond.instanceMethod yX10_leadsTo]
def wsX11_build_r7 : List Cond := [Cond.initialized RX10, Cond.code yX10_leadsTo cX10_leadsTo 3 (some .boolean), Cond.fieldLink RX10 9 "MistHeaps$Turning" "v" "I", Cond.sameField "MistHeaps$Turning" "MistHeaps$Heap" "v" "I", Cond.fieldLink RX10 23 "MistHeaps$Turning" "cell" "I", Cond.sameField "MistHeaps$Turning" "MistHeaps$Heap" "cell" "I", Cond.methodLink RX10 26 yX10_isOnSide, Cond.static yX10_isOnSide, Cond.code yX10_isOnSide cX10_isOnSide 2 (some .boolean), Cond.methodLink RX2 70 yX2_fewest, Cond.instanceMethod yX2_fewest, Cond.selects RX2 yX2_fewest yX2_fewest, Cond.code yX2_fewest cX2_fewest 7 (some .int), Cond.methodLink RX2 66 yX2_onwardFrom, Cond.instanceMethod yX2_onwardFrom, Cond.selects RX2 yX2_onwardFrom yX2_onwardFrom, Cond.code yX2_onwardFrom cX2_onwardFrom 4 (some .int), Cond.methodLink RX2 84 yX8_isTaken, Cond.instanceMethod yX8_isTaken, Cond.selects RX8 yX8_isTaken yX8_isTaken, Cond.code yX8_isTaken cX8_isTaken 3 (some .boolean), Cond.methodLink RX2 87 yX2_join, Cond.instanceMethod yX2_join, Cond.selects RX2 yX2_join yX2_join]
def wsX11_build_r8 : List Cond := [Cond.code yX2_join cX2_join 5 none, Cond.fieldLink RX2 23 "MistHeaps$Goings" "spare" "LMistHeaps$Heap;", Cond.methodLink RX11 163 yX2_join, Cond.methodLink RX11 148 yX2_fewest]
def wsX11_build : List Cond := .code yX11_build cX11_build 5 (some .int) :: ((wsX11_build_r1 ++ (wsX11_build_r2 ++ (wsX11_build_r3 ++ (wsX11_build_r4 ++ (wsX11_build_r5 ++ (wsX11_build_r6 ++ (wsX11_build_r7 ++ wsX11_build_r8))))))) ++ wsX110 ++ wsX80 ++ wsX20 ++ wsX10 ++ wsX30 ++ wsX40 ++ wsX60 ++ wsX70 ++ wsX90 ++ wsX100 ++ wsX50)
def wsX11_drift_r1 : List Cond := [Cond.fieldLink RX11 14 "MistHeaps" "scene" "LMistHeaps$Scene;", Cond.methodLink RX11 94 yX11_isCell, Cond.static yX11_isCell, Cond.initialized RX11, Cond.code yX11_isCell cX11_isCell 1 (some .boolean), Cond.methodLink RX11 166 yX8_driftOn, Cond.instanceMethod yX8_driftOn, Cond.selects RX8 yX8_driftOn yX8_driftOn, Cond.initialized RX8, Cond.code yX8_driftOn cX8_driftOn 2 (some .int), Cond.fieldLink RX8 57 "MistHeaps$Scene" "snow" "I", Cond.fieldLink RX8 18 "MistHeaps$Scene" "hill" "LMistHeaps$Hill;", Cond.fieldLink RX8 34 "MistHeaps$Scene" "facts" "[I", Cond.methodLink RX8 97 Lib.Math.min.name, Cond.static Lib.Math.min.name, Cond.initialized "java/lang/Math", Cond.code Lib.Math.min.name Lib.Math.min.code 2 (some .int), Cond.methodLink RX8 82 yX8_tellFacts, Cond.instanceMethod yX8_tellFacts, Cond.selects RX8 yX8_tellFacts yX8_tellFacts, Cond.code yX8_tellFacts cX8_tellFacts 5 none, Cond.fieldLink RX8 54 "MistHeaps$Scene" "mist" "I", Cond.static yX11_rowOf, Cond.code yX11_rowOf cX11_rowOf 1 (some .int)]
def wsX11_drift_r2 : List Cond := [Cond.static yX11_columnOf, Cond.code yX11_columnOf cX11_columnOf 1 (some .int), Cond.methodLink RX8 89 yX5_total, Cond.instanceMethod yX5_total, Cond.selects RX5 yX5_total yX5_total, Cond.initialized RX5, Cond.code yX5_total cX5_total 5 (some .int), Cond.fieldLink RX5 59 "MistHeaps$Hill" "clauses" "I", Cond.fieldLink RX5 15 "MistHeaps$Hill" "words" "[I", Cond.fieldLink RX5 19 "MistHeaps$Hill" "amounts" "[I", Cond.methodLink RX5 120 yX5_holds, Cond.instanceMethod yX5_holds, Cond.selects RX5 yX5_holds yX5_holds, Cond.code yX5_holds cX5_holds 7 (some .boolean), Cond.fieldLink RX5 22 "MistHeaps$Hill" "ends" "[I", Cond.fieldLink RX5 25 "MistHeaps$Hill" "codes" "[I", Cond.methodLink RX5 124 yX5_isSo, Cond.static yX5_isSo, Cond.code yX5_isSo cX5_isSo 4 (some .boolean)]
def wsX11_drift : List Cond := .code yX11_drift cX11_drift 2 (some .int) :: ((wsX11_drift_r1 ++ wsX11_drift_r2) ++ wsX110 ++ wsX80 ++ wsX50)
def wsX11_walk : List Cond := .code yX11_walk cX11_walk 2 (some .int) :: ([.fieldLink RX11 14 "MistHeaps" "scene" "LMistHeaps$Scene;", .fieldLink RX11 169 "MistHeaps$Scene" "walkSize" "I", .fieldLink RX11 172 "MistHeaps$Scene" "walk" "[I"] ++ wsX110 ++ wsX80)
def wsX11_commonDivisor : List Cond := .code yX11_commonDivisor cX11_commonDivisor 7 (some .long) :: ([])
def wsX11_partOf : List Cond := .code yX11_partOf cX11_partOf 7 (some .long) :: ([.constantLong RX11 139 (-9223372036854775808), .methodLink RX11 272 yX11_commonDivisor, .static yX11_commonDivisor, .initialized RX11, .code yX11_commonDivisor cX11_commonDivisor 7 (some .long)])
def wsX11_odds_r1 : List Cond := [Cond.constantLong RX11 139 (-9223372036854775808), Cond.fieldLink RX11 14 "MistHeaps" "scene" "LMistHeaps$Scene;", Cond.fieldLink RX11 73 "MistHeaps$Scene" "edges" "J", Cond.fieldLink RX11 101 "MistHeaps$Scene" "heapCount" "I", Cond.constantLong RX11 179 (-1), Cond.fieldLink RX11 42 "MistHeaps" "chances" "LMistHeaps$Chances;", Cond.fieldLink RX11 169 "MistHeaps$Scene" "walkSize" "I", Cond.methodLink RX11 94 yX11_isCell, Cond.static yX11_isCell, Cond.initialized RX11, Cond.code yX11_isCell cX11_isCell 1 (some .boolean), Cond.methodLink RX11 175 yX8_cellsSeeing, Cond.instanceMethod yX8_cellsSeeing, Cond.selects RX8 yX8_cellsSeeing yX8_cellsSeeing, Cond.initialized RX8, Cond.code yX8_cellsSeeing cX8_cellsSeeing 7 (some .long), Cond.fieldLink RX8 57 "MistHeaps$Scene" "snow" "I", Cond.fieldLink RX8 73 "MistHeaps$Heap" "cell" "I", Cond.methodLink RX8 69 yX8_heapAt, Cond.instanceMethod yX8_heapAt, Cond.selects RX8 yX8_heapAt yX8_heapAt, Cond.code yX8_heapAt cX8_heapAt 2 (some (.object "MistHeaps$Heap")), Cond.fieldLink RX8 60 "MistHeaps$Scene" "heapCount" "I", Cond.fieldLink RX8 24 "MistHeaps$Scene" "heaps" "[LMistHeaps$Heap;"]
def wsX11_odds_r2 : List Cond := [Cond.methodLink RX8 109 yX8_reachOf, Cond.instanceMethod yX8_reachOf, Cond.selects RX8 yX8_reachOf yX8_reachOf, Cond.code yX8_reachOf cX8_reachOf 4 (some .int), Cond.fieldLink RX8 76 "MistHeaps$Heap" "number" "I", Cond.fieldLink RX8 79 "MistHeaps$Heap" "kind" "I", Cond.fieldLink RX8 18 "MistHeaps$Scene" "hill" "LMistHeaps$Hill;", Cond.fieldLink RX8 86 "MistHeaps$Hill" "sight" "I", Cond.fieldLink RX8 34 "MistHeaps$Scene" "facts" "[I", Cond.fieldLink RX8 54 "MistHeaps$Scene" "mist" "I", Cond.methodLink RX8 82 yX8_tellFacts, Cond.instanceMethod yX8_tellFacts, Cond.selects RX8 yX8_tellFacts yX8_tellFacts, Cond.code yX8_tellFacts cX8_tellFacts 5 none, Cond.static yX11_rowOf, Cond.code yX11_rowOf cX11_rowOf 1 (some .int), Cond.static yX11_columnOf, Cond.code yX11_columnOf cX11_columnOf 1 (some .int), Cond.methodLink RX8 89 yX5_total, Cond.instanceMethod yX5_total, Cond.selects RX5 yX5_total yX5_total, Cond.initialized RX5, Cond.code yX5_total cX5_total 5 (some .int), Cond.fieldLink RX5 59 "MistHeaps$Hill" "clauses" "I"]
def wsX11_odds_r3 : List Cond := [Cond.fieldLink RX5 15 "MistHeaps$Hill" "words" "[I", Cond.fieldLink RX5 19 "MistHeaps$Hill" "amounts" "[I", Cond.methodLink RX5 120 yX5_holds, Cond.instanceMethod yX5_holds, Cond.selects RX5 yX5_holds yX5_holds, Cond.code yX5_holds cX5_holds 7 (some .boolean), Cond.fieldLink RX5 22 "MistHeaps$Hill" "ends" "[I", Cond.fieldLink RX5 25 "MistHeaps$Hill" "codes" "[I", Cond.methodLink RX5 124 yX5_isSo, Cond.static yX5_isSo, Cond.code yX5_isSo cX5_isSo 4 (some .boolean), Cond.methodLink RX8 93 ⟨"MistHeaps$Heap", "reachBy", "(II)I"⟩, Cond.sameMethod "MistHeaps$Heap" "MistHeaps$Heap" "reachBy" "(II)I", Cond.selects RX1 ⟨"MistHeaps$Heap", "reachBy", "(II)I"⟩ yX3_reachBy, Cond.instanceMethod yX3_reachBy, Cond.initialized RX3, Cond.code yX3_reachBy cX3_reachBy 3 (some .int), Cond.methodLink RX3 28 Lib.Math.max.name, Cond.static Lib.Math.max.name, Cond.initialized "java/lang/Math", Cond.code Lib.Math.max.name Lib.Math.max.code 2 (some .int), Cond.methodLink RX8 93 yX3_reachBy, Cond.selects RX3 yX3_reachBy yX3_reachBy, Cond.instanceMethod ⟨"MistHeaps$Heap", "reachBy", "(II)I"⟩]
def wsX11_odds_r4 : List Cond := [Cond.selects RX4 ⟨"MistHeaps$Heap", "reachBy", "(II)I"⟩ yX4_reachBy, Cond.instanceMethod yX4_reachBy, Cond.initialized RX4, Cond.code yX4_reachBy cX4_reachBy 3 (some .int), Cond.fieldLink RX4 7 "MistHeaps$High" "v" "I", Cond.sameField "MistHeaps$High" "MistHeaps$Heap" "v" "I", Cond.methodLink RX4 13 yX3_reachBy, Cond.superclass RX4 RX3, Cond.selects RX6 ⟨"MistHeaps$Heap", "reachBy", "(II)I"⟩ yX6_reachBy, Cond.instanceMethod yX6_reachBy, Cond.initialized RX6, Cond.code yX6_reachBy cX6_reachBy 3 (some .int), Cond.methodLink RX6 7 yX3_reachBy, Cond.superclass RX6 RX3, Cond.selects RX7 ⟨"MistHeaps$Heap", "reachBy", "(II)I"⟩ yX7_reachBy, Cond.instanceMethod yX7_reachBy, Cond.initialized RX7, Cond.code yX7_reachBy cX7_reachBy 3 (some .int), Cond.methodLink RX7 11 Lib.Math.min.name, Cond.static Lib.Math.min.name, Cond.code Lib.Math.min.name Lib.Math.min.code 2 (some .int), Cond.selects RX9 ⟨"MistHeaps$Heap", "reachBy", "(II)I"⟩ yX9_reachBy, Cond.instanceMethod yX9_reachBy, Cond.initialized RX9]
def wsX11_odds_r5 : List Cond := [Cond.code yX9_reachBy cX9_reachBy 3 (some .int), Cond.fieldLink RX9 7 "MistHeaps$Snowed" "v" "I", Cond.sameField "MistHeaps$Snowed" "MistHeaps$Heap" "v" "I", Cond.methodLink RX9 13 yX6_reachBy, Cond.sameMethod "MistHeaps$Low" "MistHeaps$Low" "reachBy" "(II)I", Cond.superclass RX9 RX6, Cond.selects RX10 ⟨"MistHeaps$Heap", "reachBy", "(II)I"⟩ yX4_reachBy, Cond.static yX11_apart, Cond.code yX11_apart cX11_apart 2 (some .int), Cond.methodLink RX11 263 Lib.Math.abs.name, Cond.static Lib.Math.abs.name, Cond.code Lib.Math.abs.name Lib.Math.abs.code 1 (some .int), Cond.methodLink RX11 204 Lib.Math.max.name, Cond.methodLink RX11 212 yX11_rowOf, Cond.methodLink RX11 215 yX11_columnOf, Cond.methodLink RX11 181 yX0_walked, Cond.instanceMethod yX0_walked, Cond.selects RX0 yX0_walked yX0_walked, Cond.initialized RX0, Cond.code yX0_walked cX0_walked 9 (some .long), Cond.fieldLink RX0 31 "MistHeaps$Scene" "walkSize" "I", Cond.fieldLink RX0 17 "MistHeaps$Chances" "times" "[[J", Cond.fieldLink RX0 37 "MistHeaps$Scene" "walk" "[I", Cond.methodLink RX0 27 yX0_begin]
def wsX11_odds_r6 : List Cond := [Cond.instanceMethod yX0_begin, Cond.selects RX0 yX0_begin yX0_begin, Cond.code yX0_begin cX0_begin 4 none, Cond.fieldLink RX0 9 "MistHeaps$Chances" "drifts" "[I", Cond.methodLink RX0 48 yX8_driftOn, Cond.instanceMethod yX8_driftOn, Cond.selects RX8 yX8_driftOn yX8_driftOn, Cond.code yX8_driftOn cX8_driftOn 2 (some .int), Cond.methodLink RX8 97 Lib.Math.min.name, Cond.methodLink RX0 40 yX0_spread, Cond.instanceMethod yX0_spread, Cond.selects RX0 yX0_spread yX0_spread, Cond.code yX0_spread cX0_spread 9 none, Cond.fieldLink RX0 52 "MistHeaps$Scene" "edges" "J", Cond.constantLong RX0 25 (20), Cond.static yX11_isIn, Cond.code yX11_isIn cX11_isIn 3 (some .boolean), Cond.static yX11_besideOrSame, Cond.code yX11_besideOrSame cX11_besideOrSame 4 (some .int), Cond.fieldLink RX11 266 "MistHeaps" "DOWN" "[I", Cond.fieldLink RX11 269 "MistHeaps" "RIGHT" "[I", Cond.methodLink RX11 218 yX11_isOnHill, Cond.static yX11_isOnHill, Cond.code yX11_isOnHill cX11_isOnHill 2 (some .boolean)]
def wsX11_odds_r7 : List Cond := [Cond.methodLink RX11 185 yX0_timesOf, Cond.static yX0_timesOf, Cond.code yX0_timesOf cX0_timesOf 4 (some .long), Cond.methodLink RX11 188 yX11_partOf, Cond.static yX11_partOf, Cond.code yX11_partOf cX11_partOf 7 (some .long), Cond.methodLink RX11 272 yX11_commonDivisor, Cond.static yX11_commonDivisor, Cond.code yX11_commonDivisor cX11_commonDivisor 7 (some .long)]
def wsX11_odds : List Cond := .code yX11_odds cX11_odds 8 (some .long) :: ((wsX11_odds_r1 ++ (wsX11_odds_r2 ++ (wsX11_odds_r3 ++ (wsX11_odds_r4 ++ (wsX11_odds_r5 ++ (wsX11_odds_r6 ++ wsX11_odds_r7)))))) ++ wsX110 ++ wsX80 ++ wsX10 ++ wsX30 ++ wsX40 ++ wsX60 ++ wsX70 ++ wsX90 ++ wsX100 ++ wsX50 ++ wsX00)
def wsX11_best_r1 : List Cond := [Cond.fieldLink RX11 42 "MistHeaps" "chances" "LMistHeaps$Chances;", Cond.fieldLink RX11 14 "MistHeaps" "scene" "LMistHeaps$Scene;", Cond.methodLink RX11 94 yX11_isCell, Cond.static yX11_isCell, Cond.initialized RX11, Cond.code yX11_isCell cX11_isCell 1 (some .boolean), Cond.methodLink RX11 192 yX0_search, Cond.instanceMethod yX0_search, Cond.selects RX0 yX0_search yX0_search, Cond.initialized RX0, Cond.code yX0_search cX0_search 11 none, Cond.constantLong RX0 64 (-1), Cond.fieldLink RX0 66 "MistHeaps$Chances" "foundTimes" "J", Cond.fieldLink RX0 17 "MistHeaps$Chances" "times" "[[J", Cond.methodLink RX0 27 yX0_begin, Cond.instanceMethod yX0_begin, Cond.selects RX0 yX0_begin yX0_begin, Cond.code yX0_begin cX0_begin 4 none, Cond.fieldLink RX0 9 "MistHeaps$Chances" "drifts" "[I", Cond.methodLink RX0 48 yX8_driftOn, Cond.instanceMethod yX8_driftOn, Cond.selects RX8 yX8_driftOn yX8_driftOn, Cond.initialized RX8, Cond.code yX8_driftOn cX8_driftOn 2 (some .int)]
def wsX11_best_r2 : List Cond := [Cond.fieldLink RX8 57 "MistHeaps$Scene" "snow" "I", Cond.fieldLink RX8 18 "MistHeaps$Scene" "hill" "LMistHeaps$Hill;", Cond.fieldLink RX8 34 "MistHeaps$Scene" "facts" "[I", Cond.methodLink RX8 97 Lib.Math.min.name, Cond.static Lib.Math.min.name, Cond.initialized "java/lang/Math", Cond.code Lib.Math.min.name Lib.Math.min.code 2 (some .int), Cond.methodLink RX8 82 yX8_tellFacts, Cond.instanceMethod yX8_tellFacts, Cond.selects RX8 yX8_tellFacts yX8_tellFacts, Cond.code yX8_tellFacts cX8_tellFacts 5 none, Cond.fieldLink RX8 54 "MistHeaps$Scene" "mist" "I", Cond.static yX11_rowOf, Cond.code yX11_rowOf cX11_rowOf 1 (some .int), Cond.static yX11_columnOf, Cond.code yX11_columnOf cX11_columnOf 1 (some .int), Cond.methodLink RX8 89 yX5_total, Cond.instanceMethod yX5_total, Cond.selects RX5 yX5_total yX5_total, Cond.initialized RX5, Cond.code yX5_total cX5_total 5 (some .int), Cond.fieldLink RX5 59 "MistHeaps$Hill" "clauses" "I", Cond.fieldLink RX5 15 "MistHeaps$Hill" "words" "[I", Cond.fieldLink RX5 19 "MistHeaps$Hill" "amounts" "[I"]
def wsX11_best_r3 : List Cond := [Cond.methodLink RX5 120 yX5_holds, Cond.instanceMethod yX5_holds, Cond.selects RX5 yX5_holds yX5_holds, Cond.code yX5_holds cX5_holds 7 (some .boolean), Cond.fieldLink RX5 22 "MistHeaps$Hill" "ends" "[I", Cond.fieldLink RX5 25 "MistHeaps$Hill" "codes" "[I", Cond.methodLink RX5 124 yX5_isSo, Cond.static yX5_isSo, Cond.code yX5_isSo cX5_isSo 4 (some .boolean), Cond.methodLink RX0 60 yX0_tellHits, Cond.instanceMethod yX0_tellHits, Cond.selects RX0 yX0_tellHits yX0_tellHits, Cond.code yX0_tellHits cX0_tellHits 6 none, Cond.fieldLink RX0 22 "MistHeaps$Chances" "hits" "[[I", Cond.fieldLink RX0 52 "MistHeaps$Scene" "edges" "J", Cond.static yX11_isIn, Cond.code yX11_isIn cX11_isIn 3 (some .boolean), Cond.methodLink RX0 73 yX0_hit, Cond.static yX0_hit, Cond.code yX0_hit cX0_hit 3 (some .int), Cond.static yX11_besideOrSame, Cond.code yX11_besideOrSame cX11_besideOrSame 4 (some .int), Cond.fieldLink RX11 266 "MistHeaps" "DOWN" "[I", Cond.fieldLink RX11 269 "MistHeaps" "RIGHT" "[I"]
def wsX11_best_r4 : List Cond := [Cond.methodLink RX11 212 yX11_rowOf, Cond.methodLink RX11 215 yX11_columnOf, Cond.methodLink RX11 218 yX11_isOnHill, Cond.static yX11_isOnHill, Cond.code yX11_isOnHill cX11_isOnHill 2 (some .boolean), Cond.methodLink RX0 40 yX0_spread, Cond.instanceMethod yX0_spread, Cond.selects RX0 yX0_spread yX0_spread, Cond.code yX0_spread cX0_spread 9 none, Cond.constantLong RX0 25 (20), Cond.methodLink RX0 69 yX0_tryLast, Cond.instanceMethod yX0_tryLast, Cond.selects RX0 yX0_tryLast yX0_tryLast, Cond.code yX0_tryLast cX0_tryLast 7 none, Cond.fieldLink RX0 77 "MistHeaps$Chances" "foundRow" "I", Cond.methodLink RX11 196 yX0_foundWay, Cond.instanceMethod yX0_foundWay, Cond.selects RX0 yX0_foundWay yX0_foundWay, Cond.code yX0_foundWay cX0_foundWay 3 (some .int)]
def wsX11_best : List Cond := .code yX11_best cX11_best 5 (some .int) :: ((wsX11_best_r1 ++ (wsX11_best_r2 ++ (wsX11_best_r3 ++ wsX11_best_r4))) ++ wsX110 ++ wsX00 ++ wsX80 ++ wsX50)
def wsX11_bestOdds_r1 : List Cond := [Cond.constantLong RX11 139 (-9223372036854775808), Cond.fieldLink RX11 42 "MistHeaps" "chances" "LMistHeaps$Chances;", Cond.fieldLink RX11 14 "MistHeaps" "scene" "LMistHeaps$Scene;", Cond.fieldLink RX11 199 "MistHeaps$Chances" "foundTimes" "J", Cond.methodLink RX11 94 yX11_isCell, Cond.static yX11_isCell, Cond.initialized RX11, Cond.code yX11_isCell cX11_isCell 1 (some .boolean), Cond.methodLink RX11 192 yX0_search, Cond.instanceMethod yX0_search, Cond.selects RX0 yX0_search yX0_search, Cond.initialized RX0, Cond.code yX0_search cX0_search 11 none, Cond.constantLong RX0 64 (-1), Cond.fieldLink RX0 66 "MistHeaps$Chances" "foundTimes" "J", Cond.fieldLink RX0 17 "MistHeaps$Chances" "times" "[[J", Cond.methodLink RX0 27 yX0_begin, Cond.instanceMethod yX0_begin, Cond.selects RX0 yX0_begin yX0_begin, Cond.code yX0_begin cX0_begin 4 none, Cond.fieldLink RX0 9 "MistHeaps$Chances" "drifts" "[I", Cond.methodLink RX0 48 yX8_driftOn, Cond.instanceMethod yX8_driftOn, Cond.selects RX8 yX8_driftOn yX8_driftOn]
def wsX11_bestOdds_r2 : List Cond := [Cond.initialized RX8, Cond.code yX8_driftOn cX8_driftOn 2 (some .int), Cond.fieldLink RX8 57 "MistHeaps$Scene" "snow" "I", Cond.fieldLink RX8 18 "MistHeaps$Scene" "hill" "LMistHeaps$Hill;", Cond.fieldLink RX8 34 "MistHeaps$Scene" "facts" "[I", Cond.methodLink RX8 97 Lib.Math.min.name, Cond.static Lib.Math.min.name, Cond.initialized "java/lang/Math", Cond.code Lib.Math.min.name Lib.Math.min.code 2 (some .int), Cond.methodLink RX8 82 yX8_tellFacts, Cond.instanceMethod yX8_tellFacts, Cond.selects RX8 yX8_tellFacts yX8_tellFacts, Cond.code yX8_tellFacts cX8_tellFacts 5 none, Cond.fieldLink RX8 54 "MistHeaps$Scene" "mist" "I", Cond.static yX11_rowOf, Cond.code yX11_rowOf cX11_rowOf 1 (some .int), Cond.static yX11_columnOf, Cond.code yX11_columnOf cX11_columnOf 1 (some .int), Cond.methodLink RX8 89 yX5_total, Cond.instanceMethod yX5_total, Cond.selects RX5 yX5_total yX5_total, Cond.initialized RX5, Cond.code yX5_total cX5_total 5 (some .int), Cond.fieldLink RX5 59 "MistHeaps$Hill" "clauses" "I"]
def wsX11_bestOdds_r3 : List Cond := [Cond.fieldLink RX5 15 "MistHeaps$Hill" "words" "[I", Cond.fieldLink RX5 19 "MistHeaps$Hill" "amounts" "[I", Cond.methodLink RX5 120 yX5_holds, Cond.instanceMethod yX5_holds, Cond.selects RX5 yX5_holds yX5_holds, Cond.code yX5_holds cX5_holds 7 (some .boolean), Cond.fieldLink RX5 22 "MistHeaps$Hill" "ends" "[I", Cond.fieldLink RX5 25 "MistHeaps$Hill" "codes" "[I", Cond.methodLink RX5 124 yX5_isSo, Cond.static yX5_isSo, Cond.code yX5_isSo cX5_isSo 4 (some .boolean), Cond.methodLink RX0 60 yX0_tellHits, Cond.instanceMethod yX0_tellHits, Cond.selects RX0 yX0_tellHits yX0_tellHits, Cond.code yX0_tellHits cX0_tellHits 6 none, Cond.fieldLink RX0 22 "MistHeaps$Chances" "hits" "[[I", Cond.fieldLink RX0 52 "MistHeaps$Scene" "edges" "J", Cond.static yX11_isIn, Cond.code yX11_isIn cX11_isIn 3 (some .boolean), Cond.methodLink RX0 73 yX0_hit, Cond.static yX0_hit, Cond.code yX0_hit cX0_hit 3 (some .int), Cond.static yX11_besideOrSame, Cond.code yX11_besideOrSame cX11_besideOrSame 4 (some .int)]
def wsX11_bestOdds_r4 : List Cond := [Cond.fieldLink RX11 266 "MistHeaps" "DOWN" "[I", Cond.fieldLink RX11 269 "MistHeaps" "RIGHT" "[I", Cond.methodLink RX11 212 yX11_rowOf, Cond.methodLink RX11 215 yX11_columnOf, Cond.methodLink RX11 218 yX11_isOnHill, Cond.static yX11_isOnHill, Cond.code yX11_isOnHill cX11_isOnHill 2 (some .boolean), Cond.methodLink RX0 40 yX0_spread, Cond.instanceMethod yX0_spread, Cond.selects RX0 yX0_spread yX0_spread, Cond.code yX0_spread cX0_spread 9 none, Cond.constantLong RX0 25 (20), Cond.methodLink RX0 69 yX0_tryLast, Cond.instanceMethod yX0_tryLast, Cond.selects RX0 yX0_tryLast yX0_tryLast, Cond.code yX0_tryLast cX0_tryLast 7 none, Cond.fieldLink RX0 77 "MistHeaps$Chances" "foundRow" "I", Cond.methodLink RX11 185 yX0_timesOf, Cond.static yX0_timesOf, Cond.code yX0_timesOf cX0_timesOf 4 (some .long), Cond.methodLink RX11 188 yX11_partOf, Cond.static yX11_partOf, Cond.code yX11_partOf cX11_partOf 7 (some .long), Cond.methodLink RX11 272 yX11_commonDivisor]
def wsX11_bestOdds_r5 : List Cond := [Cond.static yX11_commonDivisor, Cond.code yX11_commonDivisor cX11_commonDivisor 7 (some .long)]
def wsX11_bestOdds : List Cond := .code yX11_bestOdds cX11_bestOdds 5 (some .long) :: ((wsX11_bestOdds_r1 ++ (wsX11_bestOdds_r2 ++ (wsX11_bestOdds_r3 ++ (wsX11_bestOdds_r4 ++ wsX11_bestOdds_r5)))) ++ wsX110 ++ wsX00 ++ wsX80 ++ wsX50)
def wsX11_safe_r1 : List Cond := [Cond.fieldLink RX11 42 "MistHeaps" "chances" "LMistHeaps$Chances;", Cond.fieldLink RX11 14 "MistHeaps" "scene" "LMistHeaps$Scene;", Cond.constantLong RX11 202 (68719476735), Cond.fieldLink RX11 73 "MistHeaps$Scene" "edges" "J", Cond.constantLong RX11 179 (-1), Cond.methodLink RX11 94 yX11_isCell, Cond.static yX11_isCell, Cond.initialized RX11, Cond.code yX11_isCell cX11_isCell 1 (some .boolean), Cond.methodLink RX11 192 yX0_search, Cond.instanceMethod yX0_search, Cond.selects RX0 yX0_search yX0_search, Cond.initialized RX0, Cond.code yX0_search cX0_search 11 none, Cond.constantLong RX0 64 (-1), Cond.fieldLink RX0 66 "MistHeaps$Chances" "foundTimes" "J", Cond.fieldLink RX0 17 "MistHeaps$Chances" "times" "[[J", Cond.methodLink RX0 27 yX0_begin, Cond.instanceMethod yX0_begin, Cond.selects RX0 yX0_begin yX0_begin, Cond.code yX0_begin cX0_begin 4 none, Cond.fieldLink RX0 9 "MistHeaps$Chances" "drifts" "[I", Cond.methodLink RX0 48 yX8_driftOn, Cond.instanceMethod yX8_driftOn]
def wsX11_safe_r2 : List Cond := [Cond.selects RX8 yX8_driftOn yX8_driftOn, Cond.initialized RX8, Cond.code yX8_driftOn cX8_driftOn 2 (some .int), Cond.fieldLink RX8 57 "MistHeaps$Scene" "snow" "I", Cond.fieldLink RX8 18 "MistHeaps$Scene" "hill" "LMistHeaps$Hill;", Cond.fieldLink RX8 34 "MistHeaps$Scene" "facts" "[I", Cond.methodLink RX8 97 Lib.Math.min.name, Cond.static Lib.Math.min.name, Cond.initialized "java/lang/Math", Cond.code Lib.Math.min.name Lib.Math.min.code 2 (some .int), Cond.methodLink RX8 82 yX8_tellFacts, Cond.instanceMethod yX8_tellFacts, Cond.selects RX8 yX8_tellFacts yX8_tellFacts, Cond.code yX8_tellFacts cX8_tellFacts 5 none, Cond.fieldLink RX8 54 "MistHeaps$Scene" "mist" "I", Cond.static yX11_rowOf, Cond.code yX11_rowOf cX11_rowOf 1 (some .int), Cond.static yX11_columnOf, Cond.code yX11_columnOf cX11_columnOf 1 (some .int), Cond.methodLink RX8 89 yX5_total, Cond.instanceMethod yX5_total, Cond.selects RX5 yX5_total yX5_total, Cond.initialized RX5, Cond.code yX5_total cX5_total 5 (some .int)]
def wsX11_safe_r3 : List Cond := [Cond.fieldLink RX5 59 "MistHeaps$Hill" "clauses" "I", Cond.fieldLink RX5 15 "MistHeaps$Hill" "words" "[I", Cond.fieldLink RX5 19 "MistHeaps$Hill" "amounts" "[I", Cond.methodLink RX5 120 yX5_holds, Cond.instanceMethod yX5_holds, Cond.selects RX5 yX5_holds yX5_holds, Cond.code yX5_holds cX5_holds 7 (some .boolean), Cond.fieldLink RX5 22 "MistHeaps$Hill" "ends" "[I", Cond.fieldLink RX5 25 "MistHeaps$Hill" "codes" "[I", Cond.methodLink RX5 124 yX5_isSo, Cond.static yX5_isSo, Cond.code yX5_isSo cX5_isSo 4 (some .boolean), Cond.methodLink RX0 60 yX0_tellHits, Cond.instanceMethod yX0_tellHits, Cond.selects RX0 yX0_tellHits yX0_tellHits, Cond.code yX0_tellHits cX0_tellHits 6 none, Cond.fieldLink RX0 22 "MistHeaps$Chances" "hits" "[[I", Cond.fieldLink RX0 52 "MistHeaps$Scene" "edges" "J", Cond.static yX11_isIn, Cond.code yX11_isIn cX11_isIn 3 (some .boolean), Cond.methodLink RX0 73 yX0_hit, Cond.static yX0_hit, Cond.code yX0_hit cX0_hit 3 (some .int), Cond.static yX11_besideOrSame]
def wsX11_safe_r4 : List Cond := [Cond.code yX11_besideOrSame cX11_besideOrSame 4 (some .int), Cond.fieldLink RX11 266 "MistHeaps" "DOWN" "[I", Cond.fieldLink RX11 269 "MistHeaps" "RIGHT" "[I", Cond.methodLink RX11 212 yX11_rowOf, Cond.methodLink RX11 215 yX11_columnOf, Cond.methodLink RX11 218 yX11_isOnHill, Cond.static yX11_isOnHill, Cond.code yX11_isOnHill cX11_isOnHill 2 (some .boolean), Cond.methodLink RX0 40 yX0_spread, Cond.instanceMethod yX0_spread, Cond.selects RX0 yX0_spread yX0_spread, Cond.code yX0_spread cX0_spread 9 none, Cond.constantLong RX0 25 (20), Cond.methodLink RX0 69 yX0_tryLast, Cond.instanceMethod yX0_tryLast, Cond.selects RX0 yX0_tryLast yX0_tryLast, Cond.code yX0_tryLast cX0_tryLast 7 none, Cond.fieldLink RX0 77 "MistHeaps$Chances" "foundRow" "I", Cond.methodLink RX11 196 yX0_foundWay, Cond.instanceMethod yX0_foundWay, Cond.selects RX0 yX0_foundWay yX0_foundWay, Cond.code yX0_foundWay cX0_foundWay 3 (some .int)]
def wsX11_safe : List Cond := .code yX11_safe cX11_safe 4 (some .int) :: ((wsX11_safe_r1 ++ (wsX11_safe_r2 ++ (wsX11_safe_r3 ++ wsX11_safe_r4))) ++ wsX110 ++ wsX80 ++ wsX00 ++ wsX50)
def wsX11_line_r1 : List Cond := [Cond.fieldLink RX11 14 "MistHeaps" "scene" "LMistHeaps$Scene;", Cond.fieldLink RX11 68 "MistHeaps$Scene" "hill" "LMistHeaps$Hill;", Cond.fieldLink RX11 91 "MistHeaps$Hill" "sight" "I", Cond.fieldLink RX11 85 "MistHeaps$Scene" "mist" "I", Cond.methodLink RX11 204 Lib.Math.max.name, Cond.static Lib.Math.max.name, Cond.initialized "java/lang/Math", Cond.code Lib.Math.max.name Lib.Math.max.code 2 (some .int), Cond.fieldLink RX11 101 "MistHeaps$Scene" "heapCount" "I", Cond.fieldLink RX11 124 "MistHeaps$Heap" "cell" "I", Cond.fieldLink RX11 104 "MistHeaps$Scene" "heaps" "[LMistHeaps$Heap;", Cond.methodLink RX11 112 yX8_heapAt, Cond.instanceMethod yX8_heapAt, Cond.selects RX8 yX8_heapAt yX8_heapAt, Cond.initialized RX8, Cond.code yX8_heapAt cX8_heapAt 2 (some (.object "MistHeaps$Heap")), Cond.fieldLink RX8 60 "MistHeaps$Scene" "heapCount" "I", Cond.fieldLink RX8 24 "MistHeaps$Scene" "heaps" "[LMistHeaps$Heap;", Cond.methodLink RX11 209 yX11_apart, Cond.static yX11_apart, Cond.initialized RX11, Cond.code yX11_apart cX11_apart 2 (some .int), Cond.methodLink RX11 263 Lib.Math.abs.name, Cond.static Lib.Math.abs.name]
def wsX11_line_r2 : List Cond := [Cond.code Lib.Math.abs.name Lib.Math.abs.code 1 (some .int), Cond.methodLink RX11 212 yX11_rowOf, Cond.static yX11_rowOf, Cond.code yX11_rowOf cX11_rowOf 1 (some .int), Cond.methodLink RX11 215 yX11_columnOf, Cond.static yX11_columnOf, Cond.code yX11_columnOf cX11_columnOf 1 (some .int)]
def wsX11_line : List Cond := .code yX11_line cX11_line 7 (some .int) :: ((wsX11_line_r1 ++ wsX11_line_r2) ++ wsX110 ++ wsX80 ++ wsX50 ++ wsX10 ++ wsX30 ++ wsX40 ++ wsX60 ++ wsX70 ++ wsX90 ++ wsX100)
def wsX11_next : List Cond := .code yX11_next cX11_next 9 (some .int) :: ([.fieldLink RX11 14 "MistHeaps" "scene" "LMistHeaps$Scene;", .fieldLink RX11 124 "MistHeaps$Heap" "cell" "I", .methodLink RX11 112 yX8_heapAt, .instanceMethod yX8_heapAt, .selects RX8 yX8_heapAt yX8_heapAt, .initialized RX8, .code yX8_heapAt cX8_heapAt 2 (some (.object "MistHeaps$Heap")), .fieldLink RX8 60 "MistHeaps$Scene" "heapCount" "I", .fieldLink RX8 24 "MistHeaps$Scene" "heaps" "[LMistHeaps$Heap;", .methodLink RX11 212 yX11_rowOf, .static yX11_rowOf, .initialized RX11, .code yX11_rowOf cX11_rowOf 1 (some .int), .methodLink RX11 215 yX11_columnOf, .static yX11_columnOf, .code yX11_columnOf cX11_columnOf 1 (some .int), .methodLink RX11 218 yX11_isOnHill, .static yX11_isOnHill, .code yX11_isOnHill cX11_isOnHill 2 (some .boolean)] ++ wsX110 ++ wsX10 ++ wsX30 ++ wsX40 ++ wsX60 ++ wsX70 ++ wsX90 ++ wsX100 ++ wsX80)
def wsX11_book : List Cond := .code yX11_book cX11_book 2 (some .int) :: ([.fieldLink RX11 14 "MistHeaps" "scene" "LMistHeaps$Scene;", .fieldLink RX11 221 "MistHeaps$Scene" "bookSize" "I", .fieldLink RX11 224 "MistHeaps$Scene" "book" "[I", .methodLink RX11 112 yX8_heapAt, .instanceMethod yX8_heapAt, .selects RX8 yX8_heapAt yX8_heapAt, .initialized RX8, .code yX8_heapAt cX8_heapAt 2 (some (.object "MistHeaps$Heap")), .fieldLink RX8 60 "MistHeaps$Scene" "heapCount" "I", .fieldLink RX8 24 "MistHeaps$Scene" "heaps" "[LMistHeaps$Heap;"] ++ wsX110 ++ wsX80)
def wsX11_looked_r1 : List Cond := [Cond.fieldLink RX11 35 "MistHeaps" "goings" "LMistHeaps$Goings;", Cond.fieldLink RX11 14 "MistHeaps" "scene" "LMistHeaps$Scene;", Cond.fieldLink RX11 88 "MistHeaps$Scene" "snow" "I", Cond.fieldLink RX11 221 "MistHeaps$Scene" "bookSize" "I", Cond.fieldLink RX11 224 "MistHeaps$Scene" "book" "[I", Cond.methodLink RX11 145 yX2_link, Cond.instanceMethod yX2_link, Cond.selects RX2 yX2_link yX2_link, Cond.initialized RX2, Cond.code yX2_link cX2_link 5 none, Cond.fieldLink RX2 27 "MistHeaps$Scene" "heapCount" "I", Cond.fieldLink RX2 52 "MistHeaps$Goings" "linked" "I", Cond.fieldLink RX2 15 "MistHeaps$Goings" "onward" "[I", Cond.fieldLink RX2 33 "MistHeaps$Scene" "heaps" "[LMistHeaps$Heap;", Cond.methodLink RX2 48 yX2_measure, Cond.instanceMethod yX2_measure, Cond.selects RX2 yX2_measure yX2_measure, Cond.code yX2_measure cX2_measure 4 none, Cond.fieldLink RX2 9 "MistHeaps$Goings" "reach" "[I", Cond.methodLink RX2 37 yX8_reachOf, Cond.instanceMethod yX8_reachOf, Cond.selects RX8 yX8_reachOf yX8_reachOf, Cond.initialized RX8, Cond.code yX8_reachOf cX8_reachOf 4 (some .int)]
def wsX11_looked_r2 : List Cond := [Cond.fieldLink RX8 76 "MistHeaps$Heap" "number" "I", Cond.fieldLink RX8 79 "MistHeaps$Heap" "kind" "I", Cond.fieldLink RX8 73 "MistHeaps$Heap" "cell" "I", Cond.fieldLink RX8 18 "MistHeaps$Scene" "hill" "LMistHeaps$Hill;", Cond.fieldLink RX8 86 "MistHeaps$Hill" "sight" "I", Cond.fieldLink RX8 34 "MistHeaps$Scene" "facts" "[I", Cond.fieldLink RX8 54 "MistHeaps$Scene" "mist" "I", Cond.methodLink RX8 82 yX8_tellFacts, Cond.instanceMethod yX8_tellFacts, Cond.selects RX8 yX8_tellFacts yX8_tellFacts, Cond.code yX8_tellFacts cX8_tellFacts 5 none, Cond.static yX11_rowOf, Cond.initialized RX11, Cond.code yX11_rowOf cX11_rowOf 1 (some .int), Cond.static yX11_columnOf, Cond.code yX11_columnOf cX11_columnOf 1 (some .int), Cond.methodLink RX8 89 yX5_total, Cond.instanceMethod yX5_total, Cond.selects RX5 yX5_total yX5_total, Cond.initialized RX5, Cond.code yX5_total cX5_total 5 (some .int), Cond.fieldLink RX5 59 "MistHeaps$Hill" "clauses" "I", Cond.fieldLink RX5 15 "MistHeaps$Hill" "words" "[I", Cond.fieldLink RX5 19 "MistHeaps$Hill" "amounts" "[I"]
def wsX11_looked_r3 : List Cond := [Cond.methodLink RX5 120 yX5_holds, Cond.instanceMethod yX5_holds, Cond.selects RX5 yX5_holds yX5_holds, Cond.code yX5_holds cX5_holds 7 (some .boolean), Cond.fieldLink RX5 22 "MistHeaps$Hill" "ends" "[I", Cond.fieldLink RX5 25 "MistHeaps$Hill" "codes" "[I", Cond.methodLink RX5 124 yX5_isSo, Cond.static yX5_isSo, Cond.code yX5_isSo cX5_isSo 4 (some .boolean), Cond.methodLink RX8 93 ⟨"MistHeaps$Heap", "reachBy", "(II)I"⟩, Cond.sameMethod "MistHeaps$Heap" "MistHeaps$Heap" "reachBy" "(II)I", Cond.selects RX1 ⟨"MistHeaps$Heap", "reachBy", "(II)I"⟩ yX3_reachBy, Cond.instanceMethod yX3_reachBy, Cond.initialized RX3, Cond.code yX3_reachBy cX3_reachBy 3 (some .int), Cond.methodLink RX3 28 Lib.Math.max.name, Cond.static Lib.Math.max.name, Cond.initialized "java/lang/Math", Cond.code Lib.Math.max.name Lib.Math.max.code 2 (some .int), Cond.methodLink RX8 93 yX3_reachBy, Cond.selects RX3 yX3_reachBy yX3_reachBy, Cond.instanceMethod ⟨"MistHeaps$Heap", "reachBy", "(II)I"⟩, Cond.selects RX4 ⟨"MistHeaps$Heap", "reachBy", "(II)I"⟩ yX4_reachBy, Cond.instanceMethod yX4_reachBy]
def wsX11_looked_r4 : List Cond := [Cond.initialized RX4, Cond.code yX4_reachBy cX4_reachBy 3 (some .int), Cond.fieldLink RX4 7 "MistHeaps$High" "v" "I", Cond.sameField "MistHeaps$High" "MistHeaps$Heap" "v" "I", Cond.methodLink RX4 13 yX3_reachBy, Cond.superclass RX4 RX3, Cond.selects RX6 ⟨"MistHeaps$Heap", "reachBy", "(II)I"⟩ yX6_reachBy, Cond.instanceMethod yX6_reachBy, Cond.initialized RX6, Cond.code yX6_reachBy cX6_reachBy 3 (some .int), Cond.methodLink RX6 7 yX3_reachBy, Cond.superclass RX6 RX3, Cond.selects RX7 ⟨"MistHeaps$Heap", "reachBy", "(II)I"⟩ yX7_reachBy, Cond.instanceMethod yX7_reachBy, Cond.initialized RX7, Cond.code yX7_reachBy cX7_reachBy 3 (some .int), Cond.methodLink RX7 11 Lib.Math.min.name, Cond.static Lib.Math.min.name, Cond.code Lib.Math.min.name Lib.Math.min.code 2 (some .int), Cond.selects RX9 ⟨"MistHeaps$Heap", "reachBy", "(II)I"⟩ yX9_reachBy, Cond.instanceMethod yX9_reachBy, Cond.initialized RX9, Cond.code yX9_reachBy cX9_reachBy 3 (some .int), Cond.fieldLink RX9 7 "MistHeaps$Snowed" "v" "I"]
def wsX11_looked_r5 : List Cond := [Cond.sameField "MistHeaps$Snowed" "MistHeaps$Heap" "v" "I", Cond.methodLink RX9 13 yX6_reachBy, Cond.sameMethod "MistHeaps$Low" "MistHeaps$Low" "reachBy" "(II)I", Cond.superclass RX9 RX6, Cond.selects RX10 ⟨"MistHeaps$Heap", "reachBy", "(II)I"⟩ yX4_reachBy, Cond.methodLink RX2 55 yX2_tellGoing, Cond.instanceMethod yX2_tellGoing, Cond.selects RX2 yX2_tellGoing yX2_tellGoing, Cond.code yX2_tellGoing cX2_tellGoing 5 none, Cond.fieldLink RX2 59 "MistHeaps$Heap" "number" "I", Cond.fieldLink RX2 41 "MistHeaps$Heap" "cell" "I", Cond.static yX11_apart, Cond.code yX11_apart cX11_apart 2 (some .int), Cond.methodLink RX11 263 Lib.Math.abs.name, Cond.static Lib.Math.abs.name, Cond.code Lib.Math.abs.name Lib.Math.abs.code 1 (some .int), Cond.methodLink RX11 204 Lib.Math.max.name, Cond.methodLink RX11 212 yX11_rowOf, Cond.methodLink RX11 215 yX11_columnOf, Cond.methodLink RX2 62 ⟨"MistHeaps$Heap", "leadsTo", "(I)Z"⟩, Cond.sameMethod "MistHeaps$Heap" "MistHeaps$Heap" "leadsTo" "(I)Z", Cond.instanceMethod ⟨"MistHeaps$Heap", "leadsTo", "(I)Z"⟩, Cond.selects RX1 ⟨"MistHeaps$Heap", "leadsTo", "(I)Z"⟩ yX1_leadsTo, Cond.instanceMethod yX1_leadsTo]
def wsX11_looked_r6 : List Cond := [Cond.initialized RX1, Cond.code yX1_leadsTo cX1_leadsTo 2 (some .boolean), Cond.code yX3_leadsTo cX3_leadsTo 2 (some .boolean), Cond.methodLink RX2 62 yX3_leadsTo, Cond.instanceMethod yX3_leadsTo, Cond.selects RX3 yX3_leadsTo yX3_leadsTo, Cond.selects RX4 ⟨"MistHeaps$Heap", "leadsTo", "(I)Z"⟩ yX3_leadsTo, Cond.selects RX6 ⟨"MistHeaps$Heap", "leadsTo", "(I)Z"⟩ yX3_leadsTo, Cond.selects RX7 ⟨"MistHeaps$Heap", "leadsTo", "(I)Z"⟩ yX1_leadsTo, Cond.selects RX9 ⟨"MistHeaps$Heap", "leadsTo", "(I)Z"⟩ yX3_leadsTo, Cond.selects RX10 ⟨"MistHeaps$Heap", "leadsTo", "(I)Z"⟩ yX10_leadsTo, Cond.instanceMethod yX10_leadsTo, Cond.initialized RX10, Cond.code yX10_leadsTo cX10_leadsTo 3 (some .boolean), Cond.fieldLink RX10 9 "MistHeaps$Turning" "v" "I", Cond.sameField "MistHeaps$Turning" "MistHeaps$Heap" "v" "I", Cond.fieldLink RX10 23 "MistHeaps$Turning" "cell" "I", Cond.sameField "MistHeaps$Turning" "MistHeaps$Heap" "cell" "I", Cond.methodLink RX10 26 yX10_isOnSide, Cond.static yX10_isOnSide, Cond.code yX10_isOnSide cX10_isOnSide 2 (some .boolean), Cond.methodLink RX11 227 yX2_isGoing, Cond.instanceMethod yX2_isGoing, Cond.selects RX2 yX2_isGoing yX2_isGoing]
def wsX11_looked_r7 : List Cond := [Cond.code yX2_isGoing cX2_isGoing 3 (some .boolean)]
def wsX11_looked : List Cond := .code yX11_looked cX11_looked 2 (some .int) :: ((wsX11_looked_r1 ++ (wsX11_looked_r2 ++ (wsX11_looked_r3 ++ (wsX11_looked_r4 ++ (wsX11_looked_r5 ++ (wsX11_looked_r6 ++ wsX11_looked_r7)))))) ++ wsX110 ++ wsX80 ++ wsX20 ++ wsX10 ++ wsX30 ++ wsX40 ++ wsX60 ++ wsX70 ++ wsX90 ++ wsX100 ++ wsX50)
def wsJx4a65c_clear_da8c8 : List Cond := .code yJx4a65c_clear_da8c8 cJx4a65c_clear_da8c8 4 none :: ([.fieldLink RJx4a65c 63 "java/util/ArrayList" "modCount" "I", .sameField "java/util/ArrayList" "java/util/AbstractList" "modCount" "I", .fieldLink RJx4a65c 9 "java/util/ArrayList" "elementData" "[Ljava/lang/Object;", .fieldLink RJx4a65c 48 "java/util/ArrayList" "size" "I"] ++ wsJx4a65c0)
def wsX11_act_r1 : List Cond := [Cond.fieldLink RX11 49 "MistHeaps" "bodies" "Ljava/util/ArrayList;", Cond.fieldLink RX11 14 "MistHeaps" "scene" "LMistHeaps$Scene;", Cond.methodLink RX11 230 yJx4a65c_clear_da8c8, Cond.instanceMethod yJx4a65c_clear_da8c8, Cond.selects RJx4a65c yJx4a65c_clear_da8c8 yJx4a65c_clear_da8c8, Cond.initialized RJx4a65c, Cond.code yJx4a65c_clear_da8c8 cJx4a65c_clear_da8c8 4 none, Cond.fieldLink RJx4a65c 63 "java/util/ArrayList" "modCount" "I", Cond.sameField "java/util/ArrayList" "java/util/AbstractList" "modCount" "I", Cond.fieldLink RJx4a65c 9 "java/util/ArrayList" "elementData" "[Ljava/lang/Object;", Cond.fieldLink RJx4a65c 48 "java/util/ArrayList" "size" "I", Cond.methodLink RX11 112 yX8_heapAt, Cond.instanceMethod yX8_heapAt, Cond.selects RX8 yX8_heapAt yX8_heapAt, Cond.initialized RX8, Cond.code yX8_heapAt cX8_heapAt 2 (some (.object "MistHeaps$Heap")), Cond.fieldLink RX8 60 "MistHeaps$Scene" "heapCount" "I", Cond.fieldLink RX8 24 "MistHeaps$Scene" "heaps" "[LMistHeaps$Heap;", Cond.methodLink RX11 233 ⟨"MistHeaps$Heap", "doSees", "(ILjava/util/ArrayList;)I"⟩, Cond.sameMethod "MistHeaps$Heap" "MistHeaps$Heap" "doSees" "(ILjava/util/ArrayList;)I", Cond.selects RX1 ⟨"MistHeaps$Heap", "doSees", "(ILjava/util/ArrayList;)I"⟩ yX3_doSees, Cond.instanceMethod yX3_doSees, Cond.initialized RX3, Cond.code yX3_doSees cX3_doSees 3 (some .int)]
def wsX11_act_r2 : List Cond := [Cond.fieldLink RX3 15 "MistHeaps$Heap" "number" "I", Cond.methodLink RX3 34 yX3_begin, Cond.static yX3_begin, Cond.code yX3_begin cX3_begin 2 none, Cond.methodLink RX3 45 yJx4a65c_size_8abf5, Cond.instanceMethod yJx4a65c_size_8abf5, Cond.selects RJx4a65c yJx4a65c_size_8abf5 yJx4a65c_size_8abf5, Cond.code yJx4a65c_size_8abf5 cJx4a65c_size_8abf5 1 (some .int), Cond.methodLink RX3 51 yJ6_valueOf_2dffe, Cond.static yJ6_valueOf_2dffe, Cond.initialized RJ6, Cond.code yJ6_valueOf_2dffe cJ6_valueOf_2dffe 1 (some (.object "java/lang/Integer")), Cond.fieldLink RJ6 191 "java/lang/Integer$IntegerCache" "high" "I", Cond.fieldLink RJ6 195 "java/lang/Integer$IntegerCache" "cache" "[Ljava/lang/Integer;", Cond.classLink RJ6 1 RJ6, Cond.instantiable RJ6 1, Cond.methodLink RJ6 199 yJ6_init_d00df, Cond.instanceMethod yJ6_init_d00df, Cond.code yJ6_init_d00df cJ6_init_d00df 2 none, Cond.fieldLink RJ6 205 "java/lang/Integer" "value" "I", Cond.methodLink RJ6 202 yJxd2413_init_da8c8, Cond.instanceMethod yJxd2413_init_da8c8, Cond.initialized RJxd2413, Cond.code yJxd2413_init_da8c8 cJxd2413_init_da8c8 1 none]
def wsX11_act_r3 : List Cond := [Cond.methodLink RJxd2413 1 objectInit, Cond.instanceMethod objectInit, Cond.code objectInit ⟨#[0xb1]⟩ 1 none, Cond.methodLink RX3 57 yJx4a65c_add_9ea2d, Cond.instanceMethod yJx4a65c_add_9ea2d, Cond.selects RJx4a65c yJx4a65c_add_9ea2d yJx4a65c_add_9ea2d, Cond.code yJx4a65c_add_9ea2d cJx4a65c_add_9ea2d 2 (some .boolean), Cond.methodLink RJx4a65c 131 yJx4a65c_add_72be8, Cond.instanceMethod yJx4a65c_add_72be8, Cond.selects RJx4a65c yJx4a65c_add_72be8 yJx4a65c_add_72be8, Cond.code yJx4a65c_add_72be8 cJx4a65c_add_72be8 4 none, Cond.methodLink RJx4a65c 129 yJx4a65c_grow_d5877, Cond.instanceMethod yJx4a65c_grow_d5877, Cond.selects RJx4a65c yJx4a65c_grow_d5877 yJx4a65c_grow_d5877, Cond.code yJx4a65c_grow_d5877 cJx4a65c_grow_d5877 1 (some (.array (.object "java/lang/Object"))), Cond.methodLink RJx4a65c 69 yJx4a65c_grow_92f84, Cond.instanceMethod yJx4a65c_grow_92f84, Cond.selects RJx4a65c yJx4a65c_grow_92f84 yJx4a65c_grow_92f84, Cond.code yJx4a65c_grow_92f84 cJx4a65c_grow_92f84 4 (some (.array (.object "java/lang/Object"))), Cond.fieldLink RJx4a65c 39 "java/util/ArrayList" "DEFAULTCAPACITY_EMPTY_ELEMENTDATA" "[Ljava/lang/Object;", Cond.methodLink RJx4a65c 79 Lib.Math.max.name, Cond.static Lib.Math.max.name, Cond.initialized "java/lang/Math", Cond.code Lib.Math.max.name Lib.Math.max.code 2 (some .int)]
def wsX11_act_r4 : List Cond := [Cond.classLink RJx4a65c 7 "java/lang/Object", Cond.methodLink RJx4a65c 73 yJ8_newLength_cabcc, Cond.static yJ8_newLength_cabcc, Cond.initialized RJ8, Cond.code yJ8_newLength_cabcc cJ8_newLength_cabcc 4 (some .int), Cond.methodLink RJ8 194 Lib.Math.max.name, Cond.constant RJ8 200 (2147483639), Cond.methodLink RJ8 201 yJ8_hugeLength_7cf53, Cond.static yJ8_hugeLength_7cf53, Cond.code yJ8_hugeLength_7cf53 cJ8_hugeLength_7cf53 3 (some .int), Cond.methodLink RJx4a65c 66 yJ7_copyOf_1904c, Cond.static yJ7_copyOf_1904c, Cond.initialized RJ7, Cond.code yJ7_copyOf_1904c cJ7_copyOf_1904c 2 (some (.array (.object "java/lang/Object"))), Cond.methodLink RJ7 86 ⟨"java/lang/Object", "getClass", "()Ljava/lang/Class;"⟩, Cond.selects "[Ljava/lang/Object;" ⟨"java/lang/Object", "getClass", "()Ljava/lang/Class;"⟩ ⟨"java/lang/Object", "getClass", "()Ljava/lang/Class;"⟩, Cond.instanceMethod ⟨"java/lang/Object", "getClass", "()Ljava/lang/Class;"⟩, Cond.native ⟨"java/lang/Object", "getClass", "()Ljava/lang/Class;"⟩, Cond.methodLink RJ7 300 yJ7_copyOf_6403c, Cond.static yJ7_copyOf_6403c, Cond.code yJ7_copyOf_6403c cJ7_copyOf_6403c 4 (some (.array (.object "java/lang/Object"))), Cond.classLink RJ7 110 "[Ljava/lang/Object;", Cond.classLink RJ7 2 "java/lang/Object", Cond.methodLink RJ7 304 Lib.Math.min.name]
def wsX11_act_r5 : List Cond := [Cond.static Lib.Math.min.name, Cond.code Lib.Math.min.name Lib.Math.min.code 2 (some .int), Cond.methodLink RJ7 150 arraycopyName, Cond.native arraycopyName, Cond.static arraycopyName, Cond.initialized "java/lang/System", Cond.methodLink RX11 233 yX3_doSees, Cond.selects RX3 yX3_doSees yX3_doSees, Cond.instanceMethod ⟨"MistHeaps$Heap", "doSees", "(ILjava/util/ArrayList;)I"⟩, Cond.selects RX4 ⟨"MistHeaps$Heap", "doSees", "(ILjava/util/ArrayList;)I"⟩ yX4_doSees, Cond.instanceMethod yX4_doSees, Cond.initialized RX4, Cond.code yX4_doSees cX4_doSees 3 (some .int), Cond.methodLink RX4 21 yX3_doSees, Cond.superclass RX4 RX3, Cond.selects RX6 ⟨"MistHeaps$Heap", "doSees", "(ILjava/util/ArrayList;)I"⟩ yX3_doSees, Cond.selects RX7 ⟨"MistHeaps$Heap", "doSees", "(ILjava/util/ArrayList;)I"⟩ yX3_doSees, Cond.selects RX9 ⟨"MistHeaps$Heap", "doSees", "(ILjava/util/ArrayList;)I"⟩ yX9_doSees, Cond.instanceMethod yX9_doSees, Cond.initialized RX9, Cond.code yX9_doSees cX9_doSees 3 (some .int), Cond.fieldLink RX9 25 "MistHeaps$Snowed" "number" "I", Cond.sameField "MistHeaps$Snowed" "MistHeaps$Heap" "number" "I", Cond.selects RX10 ⟨"MistHeaps$Heap", "doSees", "(ILjava/util/ArrayList;)I"⟩ yX4_doSees]
def wsX11_act_r6 : List Cond := [Cond.methodLink RX11 237 ⟨"MistHeaps$Heap", "doGoes", "(ILjava/util/ArrayList;)I"⟩, Cond.sameMethod "MistHeaps$Heap" "MistHeaps$Heap" "doGoes" "(ILjava/util/ArrayList;)I", Cond.selects RX1 ⟨"MistHeaps$Heap", "doGoes", "(ILjava/util/ArrayList;)I"⟩ yX3_doGoes, Cond.instanceMethod yX3_doGoes, Cond.code yX3_doGoes cX3_doGoes 3 (some .int), Cond.fieldLink RX3 18 "MistHeaps$Heap" "v" "I", Cond.methodLink RX3 38 ⟨"MistHeaps$Heap", "doSees", "(ILjava/util/ArrayList;)I"⟩, Cond.methodLink RX3 38 yX3_doSees, Cond.methodLink RX11 237 yX3_doGoes, Cond.selects RX3 yX3_doGoes yX3_doGoes, Cond.selects RX4 ⟨"MistHeaps$Heap", "doGoes", "(ILjava/util/ArrayList;)I"⟩ yX3_doGoes, Cond.instanceMethod ⟨"MistHeaps$Heap", "doGoes", "(ILjava/util/ArrayList;)I"⟩, Cond.selects RX6 ⟨"MistHeaps$Heap", "doGoes", "(ILjava/util/ArrayList;)I"⟩ yX6_doGoes, Cond.instanceMethod yX6_doGoes, Cond.initialized RX6, Cond.code yX6_doGoes cX6_doGoes 3 (some .int), Cond.methodLink RX6 17 yX3_doGoes, Cond.superclass RX6 RX3, Cond.selects RX7 ⟨"MistHeaps$Heap", "doGoes", "(ILjava/util/ArrayList;)I"⟩ yX7_doGoes, Cond.instanceMethod yX7_doGoes, Cond.initialized RX7, Cond.code yX7_doGoes cX7_doGoes 3 (some .int), Cond.fieldLink RX7 26 "MistHeaps$Old" "v" "I", Cond.sameField "MistHeaps$Old" "MistHeaps$Heap" "v" "I"]
def wsX11_act_r7 : List Cond := [Cond.selects RX9 ⟨"MistHeaps$Heap", "doGoes", "(ILjava/util/ArrayList;)I"⟩ yX6_doGoes, Cond.selects RX10 ⟨"MistHeaps$Heap", "doGoes", "(ILjava/util/ArrayList;)I"⟩ yX3_doGoes, Cond.methodLink RX11 240 ⟨"MistHeaps$Heap", "doLooks", "(ILjava/util/ArrayList;)I"⟩, Cond.sameMethod "MistHeaps$Heap" "MistHeaps$Heap" "doLooks" "(ILjava/util/ArrayList;)I", Cond.instanceMethod ⟨"MistHeaps$Heap", "doLooks", "(ILjava/util/ArrayList;)I"⟩, Cond.selects RX1 ⟨"MistHeaps$Heap", "doLooks", "(ILjava/util/ArrayList;)I"⟩ yX1_doLooks, Cond.instanceMethod yX1_doLooks, Cond.initialized RX1, Cond.code yX1_doLooks cX1_doLooks 3 (some .int), Cond.methodLink RX1 13 yX3_doLooks, Cond.superclass RX1 RX3, Cond.instanceMethod yX3_doLooks, Cond.code yX3_doLooks cX3_doLooks 3 (some .int), Cond.methodLink RX3 42 ⟨"MistHeaps$Heap", "doGoes", "(ILjava/util/ArrayList;)I"⟩, Cond.methodLink RX3 42 yX3_doGoes, Cond.methodLink RX11 240 yX3_doLooks, Cond.selects RX3 yX3_doLooks yX3_doLooks, Cond.selects RX4 ⟨"MistHeaps$Heap", "doLooks", "(ILjava/util/ArrayList;)I"⟩ yX3_doLooks, Cond.selects RX6 ⟨"MistHeaps$Heap", "doLooks", "(ILjava/util/ArrayList;)I"⟩ yX3_doLooks, Cond.selects RX7 ⟨"MistHeaps$Heap", "doLooks", "(ILjava/util/ArrayList;)I"⟩ yX1_doLooks, Cond.selects RX9 ⟨"MistHeaps$Heap", "doLooks", "(ILjava/util/ArrayList;)I"⟩ yX3_doLooks, Cond.selects RX10 ⟨"MistHeaps$Heap", "doLooks", "(ILjava/util/ArrayList;)I"⟩ yX10_doLooks, Cond.instanceMethod yX10_doLooks, Cond.initialized RX10]
def wsX11_act_r8 : List Cond := [Cond.code yX10_doLooks cX10_doLooks 4 (some .int), Cond.methodLink RX10 44 ⟨"MistHeaps$Turning", "doSees", "(ILjava/util/ArrayList;)I"⟩, Cond.sameMethod "MistHeaps$Turning" "MistHeaps$High" "doSees" "(ILjava/util/ArrayList;)I", Cond.selects RX10 ⟨"MistHeaps$Turning", "doSees", "(ILjava/util/ArrayList;)I"⟩ yX4_doSees]
def wsX11_act : List Cond := .code yX11_act cX11_act 5 (some .int) :: ((wsX11_act_r1 ++ (wsX11_act_r2 ++ (wsX11_act_r3 ++ (wsX11_act_r4 ++ (wsX11_act_r5 ++ (wsX11_act_r6 ++ (wsX11_act_r7 ++ wsX11_act_r8))))))) ++ wsX110 ++ wsJx4a65c0 ++ wsX80 ++ wsX10 ++ wsX30 ++ wsX40 ++ wsX60 ++ wsX70 ++ wsX90 ++ wsX100 ++ wsJ60)
def wsJ15_checkIndex_7cf53 : List Cond := .code yJ15_checkIndex_7cf53 cJ15_checkIndex_7cf53 2 (some .int) :: ([.methodLink RJ15 105 yJ3_checkIndex_8e157, .static yJ3_checkIndex_8e157, .initialized RJ3, .code yJ3_checkIndex_8e157 cJ3_checkIndex_8e157 3 (some .int)])
def wsJx4a65c_elementData_915e3 : List Cond := .code yJx4a65c_elementData_915e3 cJx4a65c_elementData_915e3 2 (some (.object "java/lang/Object")) :: ([.fieldLink RJx4a65c 9 "java/util/ArrayList" "elementData" "[Ljava/lang/Object;"] ++ wsJx4a65c0)
def wsJx4a65c_get_915e3 : List Cond := .code yJx4a65c_get_915e3 cJx4a65c_get_915e3 2 (some (.object "java/lang/Object")) :: ([.fieldLink RJx4a65c 48 "java/util/ArrayList" "size" "I", .methodLink RJx4a65c 118 yJ15_checkIndex_7cf53, .static yJ15_checkIndex_7cf53, .initialized RJ15, .code yJ15_checkIndex_7cf53 cJ15_checkIndex_7cf53 2 (some .int), .methodLink RJ15 105 yJ3_checkIndex_8e157, .static yJ3_checkIndex_8e157, .initialized RJ3, .code yJ3_checkIndex_8e157 cJ3_checkIndex_8e157 3 (some .int), .methodLink RJx4a65c 123 yJx4a65c_elementData_915e3, .instanceMethod yJx4a65c_elementData_915e3, .selects RJx4a65c yJx4a65c_elementData_915e3 yJx4a65c_elementData_915e3, .initialized RJx4a65c, .code yJx4a65c_elementData_915e3 cJx4a65c_elementData_915e3 2 (some (.object "java/lang/Object")), .fieldLink RJx4a65c 9 "java/util/ArrayList" "elementData" "[Ljava/lang/Object;"] ++ wsJx4a65c0)
def wsJ6_intValue_8abf5 : List Cond := .code yJ6_intValue_8abf5 cJ6_intValue_8abf5 1 (some .int) :: ([.fieldLink RJ6 205 "java/lang/Integer" "value" "I"] ++ wsJ60)
def wsX11_trace_r1 : List Cond := [Cond.fieldLink RX11 49 "MistHeaps" "bodies" "Ljava/util/ArrayList;", Cond.classLink RX11 251 "java/lang/Integer", Cond.methodLink RX11 243 yJx4a65c_size_8abf5, Cond.instanceMethod yJx4a65c_size_8abf5, Cond.selects RJx4a65c yJx4a65c_size_8abf5 yJx4a65c_size_8abf5, Cond.initialized RJx4a65c, Cond.code yJx4a65c_size_8abf5 cJx4a65c_size_8abf5 1 (some .int), Cond.fieldLink RJx4a65c 48 "java/util/ArrayList" "size" "I", Cond.methodLink RX11 247 yJx4a65c_get_915e3, Cond.instanceMethod yJx4a65c_get_915e3, Cond.selects RJx4a65c yJx4a65c_get_915e3 yJx4a65c_get_915e3, Cond.code yJx4a65c_get_915e3 cJx4a65c_get_915e3 2 (some (.object "java/lang/Object")), Cond.methodLink RJx4a65c 118 yJ15_checkIndex_7cf53, Cond.static yJ15_checkIndex_7cf53, Cond.initialized RJ15, Cond.code yJ15_checkIndex_7cf53 cJ15_checkIndex_7cf53 2 (some .int), Cond.methodLink RJ15 105 yJ3_checkIndex_8e157, Cond.static yJ3_checkIndex_8e157, Cond.initialized RJ3, Cond.code yJ3_checkIndex_8e157 cJ3_checkIndex_8e157 3 (some .int), Cond.methodLink RJx4a65c 123 yJx4a65c_elementData_915e3, Cond.instanceMethod yJx4a65c_elementData_915e3, Cond.selects RJx4a65c yJx4a65c_elementData_915e3 yJx4a65c_elementData_915e3, Cond.code yJx4a65c_elementData_915e3 cJx4a65c_elementData_915e3 2 (some (.object "java/lang/Object"))]
def wsX11_trace_r2 : List Cond := [Cond.fieldLink RJx4a65c 9 "java/util/ArrayList" "elementData" "[Ljava/lang/Object;", Cond.methodLink RX11 253 yJ6_intValue_8abf5, Cond.instanceMethod yJ6_intValue_8abf5, Cond.selects RJ6 yJ6_intValue_8abf5 yJ6_intValue_8abf5, Cond.initialized RJ6, Cond.code yJ6_intValue_8abf5 cJ6_intValue_8abf5 1 (some .int), Cond.fieldLink RJ6 205 "java/lang/Integer" "value" "I"]
def wsX11_trace : List Cond := .code yX11_trace cX11_trace 2 (some .int) :: ((wsX11_trace_r1 ++ wsX11_trace_r2) ++ wsX110 ++ wsJx4a65c0 ++ wsJ60)
def wsX11_as : List Cond := .code yX11_as cX11_as 4 (some .int) :: ([.fieldLink RX11 14 "MistHeaps" "scene" "LMistHeaps$Scene;", .fieldLink RX11 121 "MistHeaps$Heap" "v" "I", .methodLink RX11 112 yX8_heapAt, .instanceMethod yX8_heapAt, .selects RX8 yX8_heapAt yX8_heapAt, .initialized RX8, .code yX8_heapAt cX8_heapAt 2 (some (.object "MistHeaps$Heap")), .fieldLink RX8 60 "MistHeaps$Scene" "heapCount" "I", .fieldLink RX8 24 "MistHeaps$Scene" "heaps" "[LMistHeaps$Heap;", .methodLink RX11 256 ⟨"MistHeaps$Heap", "isOfKind", "(I)Z"⟩, .sameMethod "MistHeaps$Heap" "MistHeaps$Heap" "isOfKind" "(I)Z", .selects RX1 ⟨"MistHeaps$Heap", "isOfKind", "(I)Z"⟩ yX3_isOfKind, .instanceMethod yX3_isOfKind, .initialized RX3, .code yX3_isOfKind cX3_isOfKind 4 (some .boolean), .fieldLink RX3 9 "MistHeaps$Heap" "kind" "I", .methodLink RX11 256 yX3_isOfKind, .selects RX3 yX3_isOfKind yX3_isOfKind, .selects RX4 ⟨"MistHeaps$Heap", "isOfKind", "(I)Z"⟩ yX3_isOfKind, .selects RX6 ⟨"MistHeaps$Heap", "isOfKind", "(I)Z"⟩ yX3_isOfKind, .selects RX7 ⟨"MistHeaps$Heap", "isOfKind", "(I)Z"⟩ yX3_isOfKind, .selects RX9 ⟨"MistHeaps$Heap", "isOfKind", "(I)Z"⟩ yX3_isOfKind, .selects RX10 ⟨"MistHeaps$Heap", "isOfKind", "(I)Z"⟩ yX3_isOfKind] ++ wsX110 ++ wsX10 ++ wsX30 ++ wsX40 ++ wsX60 ++ wsX70 ++ wsX90 ++ wsX100 ++ wsX80)
def wsX11_image_r1 : List Cond := [Cond.fieldLink RX11 18 "MistHeaps" "kept" "LMistHeaps$Scene;", Cond.fieldLink RX11 14 "MistHeaps" "scene" "LMistHeaps$Scene;", Cond.fieldLink RX11 21 "MistHeaps" "isKept" "Z", Cond.fieldLink RX11 101 "MistHeaps$Scene" "heapCount" "I", Cond.methodLink RX11 259 yX8_copyFrom, Cond.instanceMethod yX8_copyFrom, Cond.selects RX8 yX8_copyFrom yX8_copyFrom, Cond.initialized RX8, Cond.code yX8_copyFrom cX8_copyFrom 3 none, Cond.fieldLink RX8 9 "MistHeaps$Scene" "tape" "[I", Cond.methodLink RX8 37 arraycopyName, Cond.native arraycopyName, Cond.static arraycopyName, Cond.initialized "java/lang/System", Cond.fieldLink RX8 43 "MistHeaps$Scene" "tapeSize" "I", Cond.fieldLink RX8 18 "MistHeaps$Scene" "hill" "LMistHeaps$Hill;", Cond.fieldLink RX8 47 "MistHeaps$Scene" "hills" "I", Cond.fieldLink RX8 50 "MistHeaps$Scene" "edges" "J", Cond.fieldLink RX8 54 "MistHeaps$Scene" "mist" "I", Cond.fieldLink RX8 57 "MistHeaps$Scene" "snow" "I", Cond.fieldLink RX8 24 "MistHeaps$Scene" "heaps" "[LMistHeaps$Heap;", Cond.fieldLink RX8 60 "MistHeaps$Scene" "heapCount" "I", Cond.fieldLink RX8 28 "MistHeaps$Scene" "walk" "[I", Cond.fieldLink RX8 63 "MistHeaps$Scene" "walkSize" "I"]
def wsX11_image_r2 : List Cond := [Cond.fieldLink RX8 31 "MistHeaps$Scene" "book" "[I", Cond.fieldLink RX8 66 "MistHeaps$Scene" "bookSize" "I"]
def wsX11_image : List Cond := .code yX11_image cX11_image 1 (some .int) :: ((wsX11_image_r1 ++ wsX11_image_r2) ++ wsX110 ++ wsX80)
def wsX11_undo_r1 : List Cond := [Cond.fieldLink RX11 21 "MistHeaps" "isKept" "Z", Cond.fieldLink RX11 14 "MistHeaps" "scene" "LMistHeaps$Scene;", Cond.fieldLink RX11 18 "MistHeaps" "kept" "LMistHeaps$Scene;", Cond.fieldLink RX11 101 "MistHeaps$Scene" "heapCount" "I", Cond.methodLink RX11 259 yX8_copyFrom, Cond.instanceMethod yX8_copyFrom, Cond.selects RX8 yX8_copyFrom yX8_copyFrom, Cond.initialized RX8, Cond.code yX8_copyFrom cX8_copyFrom 3 none, Cond.fieldLink RX8 9 "MistHeaps$Scene" "tape" "[I", Cond.methodLink RX8 37 arraycopyName, Cond.native arraycopyName, Cond.static arraycopyName, Cond.initialized "java/lang/System", Cond.fieldLink RX8 43 "MistHeaps$Scene" "tapeSize" "I", Cond.fieldLink RX8 18 "MistHeaps$Scene" "hill" "LMistHeaps$Hill;", Cond.fieldLink RX8 47 "MistHeaps$Scene" "hills" "I", Cond.fieldLink RX8 50 "MistHeaps$Scene" "edges" "J", Cond.fieldLink RX8 54 "MistHeaps$Scene" "mist" "I", Cond.fieldLink RX8 57 "MistHeaps$Scene" "snow" "I", Cond.fieldLink RX8 24 "MistHeaps$Scene" "heaps" "[LMistHeaps$Heap;", Cond.fieldLink RX8 60 "MistHeaps$Scene" "heapCount" "I", Cond.fieldLink RX8 28 "MistHeaps$Scene" "walk" "[I", Cond.fieldLink RX8 63 "MistHeaps$Scene" "walkSize" "I"]
def wsX11_undo_r2 : List Cond := [Cond.fieldLink RX8 31 "MistHeaps$Scene" "book" "[I", Cond.fieldLink RX8 66 "MistHeaps$Scene" "bookSize" "I"]
def wsX11_undo : List Cond := .code yX11_undo cX11_undo 1 (some .int) :: ((wsX11_undo_r1 ++ wsX11_undo_r2) ++ wsX110 ++ wsX80)
def wsX11_count : List Cond := .code yX11_count cX11_count 2 (some .int) :: ([.fieldLink RX11 14 "MistHeaps" "scene" "LMistHeaps$Scene;", .fieldLink RX11 101 "MistHeaps$Scene" "heapCount" "I", .fieldLink RX11 61 "MistHeaps$Scene" "hills" "I", .fieldLink RX11 169 "MistHeaps$Scene" "walkSize" "I", .fieldLink RX11 221 "MistHeaps$Scene" "bookSize" "I", .fieldLink RX11 53 "MistHeaps$Scene" "tapeSize" "I", .fieldLink RX11 49 "MistHeaps" "bodies" "Ljava/util/ArrayList;", .methodLink RX11 243 yJx4a65c_size_8abf5, .instanceMethod yJx4a65c_size_8abf5, .selects RJx4a65c yJx4a65c_size_8abf5 yJx4a65c_size_8abf5, .initialized RJx4a65c, .code yJx4a65c_size_8abf5 cJx4a65c_size_8abf5 1 (some .int), .fieldLink RJx4a65c 48 "java/util/ArrayList" "size" "I"] ++ wsX110 ++ wsX80 ++ wsJx4a65c0)
def wsX12_init : List Cond := .code yX12_init cX12_init 1 none :: ([.methodLink RX12 3 objectInit, .instanceMethod objectInit, .code objectInit ⟨#[0xb1]⟩ 1 none, .arrayClass .int, .fieldLink RX12 9 "MistHeapsModel" "s" "[I", .fieldLink RX12 15 "MistHeapsModel" "image" "[I", .fieldLink RX12 18 "MistHeapsModel" "by" "[I", .arrayClass .boolean, .fieldLink RX12 21 "MistHeapsModel" "truths" "[Z", .fieldLink RX12 25 "MistHeapsModel" "goes" "[I", .arrayClass .long, .fieldLink RX12 28 "MistHeapsModel" "often" "[J", .fieldLink RX12 32 "MistHeapsModel" "then" "[J", .fieldLink RX12 35 "MistHeapsModel" "drifts" "[I", .fieldLink RX12 38 "MistHeapsModel" "bodies" "[I"] ++ wsX120)
def wsX12_in : List Cond := .code yX12_in cX12_in 3 (some .boolean) :: ([])
def wsX12_size : List Cond := .code yX12_size cX12_size 1 (some .int) :: ([])
def wsX12_isCell : List Cond := .code yX12_isCell cX12_isCell 1 (some .boolean) :: ([.methodLink RX12 45 yX12_in, .static yX12_in, .initialized RX12, .code yX12_in cX12_in 3 (some .boolean)])
def wsX12_isHeap : List Cond := .code yX12_isHeap cX12_isHeap 2 (some .boolean) :: ([.fieldLink RX12 9 "MistHeapsModel" "s" "[I", .methodLink RX12 45 yX12_in, .static yX12_in, .initialized RX12, .code yX12_in cX12_in 3 (some .boolean)] ++ wsX120)
def wsX12_apart : List Cond := .code yX12_apart cX12_apart 4 (some .int) :: ([.methodLink RX12 49 yX12_size, .static yX12_size, .initialized RX12, .code yX12_size cX12_size 1 (some .int)])
def wsX12_rowsOf : List Cond := .code yX12_rowsOf cX12_rowsOf 1 (some .int) :: ([])
def wsX12_columnsOf : List Cond := .code yX12_columnsOf cX12_columnsOf 1 (some .int) :: ([.methodLink RX12 45 yX12_in, .static yX12_in, .initialized RX12, .code yX12_in cX12_in 3 (some .boolean)])
def wsX12_nextTo : List Cond := .code yX12_nextTo cX12_nextTo 4 (some .int) :: ([.methodLink RX12 53 yX12_rowsOf, .static yX12_rowsOf, .initialized RX12, .code yX12_rowsOf cX12_rowsOf 1 (some .int), .methodLink RX12 56 yX12_columnsOf, .static yX12_columnsOf, .code yX12_columnsOf cX12_columnsOf 1 (some .int), .methodLink RX12 45 yX12_in, .static yX12_in, .code yX12_in cX12_in 3 (some .boolean)])
def wsX12_feed : List Cond := .code yX12_feed cX12_feed 2 (some .int) :: ([.fieldLink RX12 9 "MistHeapsModel" "s" "[I", .methodLink RX12 45 yX12_in, .static yX12_in, .initialized RX12, .code yX12_in cX12_in 3 (some .boolean)] ++ wsX120)
def wsX12_here : List Cond := .code yX12_here cX12_here 1 (some .int) :: ([.fieldLink RX12 59 "MistHeapsModel" "spot" "I", .fieldLink RX12 62 "MistHeapsModel" "end" "I", .fieldLink RX12 9 "MistHeapsModel" "s" "[I"] ++ wsX120)
def wsX12_must : List Cond := .code yX12_must cX12_must 2 none :: ([.fieldLink RX12 65 "MistHeapsModel" "isWrong" "Z", .fieldLink RX12 59 "MistHeapsModel" "spot" "I", .methodLink RX12 69 yX12_here, .instanceMethod yX12_here, .selects RX12 yX12_here yX12_here, .initialized RX12, .code yX12_here cX12_here 1 (some .int), .fieldLink RX12 62 "MistHeapsModel" "end" "I", .fieldLink RX12 9 "MistHeapsModel" "s" "[I"] ++ wsX120)
def wsX12_spells_r1 : List Cond := [Cond.methodLink RX12 73 yJ0_length_8abf5, Cond.instanceMethod yJ0_length_8abf5, Cond.selects RJ0 yJ0_length_8abf5 yJ0_length_8abf5, Cond.initialized RJ0, Cond.code yJ0_length_8abf5 cJ0_length_8abf5 1 (some .int), Cond.fieldLink RJ0 9 "java/lang/String" "value" "[B", Cond.methodLink RJ0 335 yJ0_coder_7d493, Cond.instanceMethod yJ0_coder_7d493, Cond.selects RJ0 yJ0_coder_7d493 yJ0_coder_7d493, Cond.code yJ0_coder_7d493 cJ0_coder_7d493 1 (some .byte), Cond.fieldLink RJ0 38 "java/lang/String" "COMPACT_STRINGS" "Z", Cond.fieldLink RJ0 15 "java/lang/String" "coder" "B", Cond.methodLink RX12 78 yJ0_charAt_5068e, Cond.instanceMethod yJ0_charAt_5068e, Cond.selects RJ0 yJ0_charAt_5068e yJ0_charAt_5068e, Cond.code yJ0_charAt_5068e cJ0_charAt_5068e 2 (some .char), Cond.methodLink RJ0 492 yJ0_isLatin1_aae02, Cond.instanceMethod yJ0_isLatin1_aae02, Cond.selects RJ0 yJ0_isLatin1_aae02 yJ0_isLatin1_aae02, Cond.code yJ0_isLatin1_aae02 cJ0_isLatin1_aae02 1 (some .boolean), Cond.methodLink RJ0 495 yJ1_charAt_3b067, Cond.static yJ1_charAt_3b067, Cond.initialized RJ1, Cond.code yJ1_charAt_3b067 cJ1_charAt_3b067 2 (some .char)]
def wsX12_spells_r2 : List Cond := [Cond.methodLink RJ1 9 yJ0_checkIndex_df160, Cond.static yJ0_checkIndex_df160, Cond.code yJ0_checkIndex_df160 cJ0_checkIndex_df160 2 none, Cond.fieldLink RJ0 1053 "jdk/internal/util/Preconditions" "SIOOBE_FORMATTER" "Ljava/util/function/BiFunction;", Cond.methodLink RJ0 1059 yJ3_checkIndex_8e157, Cond.static yJ3_checkIndex_8e157, Cond.initialized RJ3, Cond.code yJ3_checkIndex_8e157 cJ3_checkIndex_8e157 3 (some .int), Cond.methodLink RJ0 498 yJ2_charAt_3b067, Cond.static yJ2_charAt_3b067, Cond.initialized RJ2, Cond.code yJ2_charAt_3b067 cJ2_charAt_3b067 2 (some .char), Cond.methodLink RJ2 67 yJ2_checkIndex_2214a, Cond.static yJ2_checkIndex_2214a, Cond.code yJ2_checkIndex_2214a cJ2_checkIndex_2214a 2 none, Cond.methodLink RJ2 48 yJ2_length_9d52b, Cond.static yJ2_length_9d52b, Cond.code yJ2_length_9d52b cJ2_length_9d52b 1 (some .int), Cond.methodLink RJ2 414 yJ0_checkIndex_df160, Cond.methodLink RJ2 71 yJ2_getChar_3b067, Cond.static yJ2_getChar_3b067, Cond.code yJ2_getChar_3b067 cJ2_getChar_3b067 2 (some .char), Cond.fieldLink RJ2 44 "java/lang/StringUTF16" "$assertionsDisabled" "Z", Cond.fieldLink RJ2 59 "java/lang/StringUTF16" "HI_BYTE_SHIFT" "I"]
def wsX12_spells_r3 : List Cond := [Cond.fieldLink RJ2 63 "java/lang/StringUTF16" "LO_BYTE_SHIFT" "I", Cond.methodLink RX12 82 yX12_must, Cond.instanceMethod yX12_must, Cond.selects RX12 yX12_must yX12_must, Cond.initialized RX12, Cond.code yX12_must cX12_must 2 none, Cond.fieldLink RX12 65 "MistHeapsModel" "isWrong" "Z", Cond.fieldLink RX12 59 "MistHeapsModel" "spot" "I", Cond.methodLink RX12 69 yX12_here, Cond.instanceMethod yX12_here, Cond.selects RX12 yX12_here yX12_here, Cond.code yX12_here cX12_here 1 (some .int), Cond.fieldLink RX12 62 "MistHeapsModel" "end" "I", Cond.fieldLink RX12 9 "MistHeapsModel" "s" "[I"]
def wsX12_spells : List Cond := .code yX12_spells cX12_spells 3 none :: ((wsX12_spells_r1 ++ (wsX12_spells_r2 ++ wsX12_spells_r3)) ++ wsX120)
def wsX12_figures : List Cond := .code yX12_figures cX12_figures 3 (some .int) :: ([.fieldLink RX12 65 "MistHeapsModel" "isWrong" "Z", .fieldLink RX12 59 "MistHeapsModel" "spot" "I", .methodLink RX12 69 yX12_here, .instanceMethod yX12_here, .selects RX12 yX12_here yX12_here, .initialized RX12, .code yX12_here cX12_here 1 (some .int), .fieldLink RX12 62 "MistHeapsModel" "end" "I", .fieldLink RX12 9 "MistHeapsModel" "s" "[I", .methodLink RX12 45 yX12_in, .static yX12_in, .code yX12_in cX12_in 3 (some .boolean)] ++ wsX120)
def wsX12_among_r1 : List Cond := [Cond.fieldLink RX12 59 "MistHeapsModel" "spot" "I", Cond.methodLink RX12 73 yJ0_length_8abf5, Cond.instanceMethod yJ0_length_8abf5, Cond.selects RJ0 yJ0_length_8abf5 yJ0_length_8abf5, Cond.initialized RJ0, Cond.code yJ0_length_8abf5 cJ0_length_8abf5 1 (some .int), Cond.fieldLink RJ0 9 "java/lang/String" "value" "[B", Cond.methodLink RJ0 335 yJ0_coder_7d493, Cond.instanceMethod yJ0_coder_7d493, Cond.selects RJ0 yJ0_coder_7d493 yJ0_coder_7d493, Cond.code yJ0_coder_7d493 cJ0_coder_7d493 1 (some .byte), Cond.fieldLink RJ0 38 "java/lang/String" "COMPACT_STRINGS" "Z", Cond.fieldLink RJ0 15 "java/lang/String" "coder" "B", Cond.methodLink RX12 69 yX12_here, Cond.instanceMethod yX12_here, Cond.selects RX12 yX12_here yX12_here, Cond.initialized RX12, Cond.code yX12_here cX12_here 1 (some .int), Cond.fieldLink RX12 62 "MistHeapsModel" "end" "I", Cond.fieldLink RX12 9 "MistHeapsModel" "s" "[I", Cond.methodLink RX12 78 yJ0_charAt_5068e, Cond.instanceMethod yJ0_charAt_5068e, Cond.selects RJ0 yJ0_charAt_5068e yJ0_charAt_5068e, Cond.code yJ0_charAt_5068e cJ0_charAt_5068e 2 (some .char)]
def wsX12_among_r2 : List Cond := [Cond.methodLink RJ0 492 yJ0_isLatin1_aae02, Cond.instanceMethod yJ0_isLatin1_aae02, Cond.selects RJ0 yJ0_isLatin1_aae02 yJ0_isLatin1_aae02, Cond.code yJ0_isLatin1_aae02 cJ0_isLatin1_aae02 1 (some .boolean), Cond.methodLink RJ0 495 yJ1_charAt_3b067, Cond.static yJ1_charAt_3b067, Cond.initialized RJ1, Cond.code yJ1_charAt_3b067 cJ1_charAt_3b067 2 (some .char), Cond.methodLink RJ1 9 yJ0_checkIndex_df160, Cond.static yJ0_checkIndex_df160, Cond.code yJ0_checkIndex_df160 cJ0_checkIndex_df160 2 none, Cond.fieldLink RJ0 1053 "jdk/internal/util/Preconditions" "SIOOBE_FORMATTER" "Ljava/util/function/BiFunction;", Cond.methodLink RJ0 1059 yJ3_checkIndex_8e157, Cond.static yJ3_checkIndex_8e157, Cond.initialized RJ3, Cond.code yJ3_checkIndex_8e157 cJ3_checkIndex_8e157 3 (some .int), Cond.methodLink RJ0 498 yJ2_charAt_3b067, Cond.static yJ2_charAt_3b067, Cond.initialized RJ2, Cond.code yJ2_charAt_3b067 cJ2_charAt_3b067 2 (some .char), Cond.methodLink RJ2 67 yJ2_checkIndex_2214a, Cond.static yJ2_checkIndex_2214a, Cond.code yJ2_checkIndex_2214a cJ2_checkIndex_2214a 2 none, Cond.methodLink RJ2 48 yJ2_length_9d52b]
def wsX12_among_r3 : List Cond := [Cond.static yJ2_length_9d52b, Cond.code yJ2_length_9d52b cJ2_length_9d52b 1 (some .int), Cond.methodLink RJ2 414 yJ0_checkIndex_df160, Cond.methodLink RJ2 71 yJ2_getChar_3b067, Cond.static yJ2_getChar_3b067, Cond.code yJ2_getChar_3b067 cJ2_getChar_3b067 2 (some .char), Cond.fieldLink RJ2 44 "java/lang/StringUTF16" "$assertionsDisabled" "Z", Cond.fieldLink RJ2 59 "java/lang/StringUTF16" "HI_BYTE_SHIFT" "I", Cond.fieldLink RJ2 63 "java/lang/StringUTF16" "LO_BYTE_SHIFT" "I"]
def wsX12_among : List Cond := .code yX12_among cX12_among 3 (some .int) :: ((wsX12_among_r1 ++ (wsX12_among_r2 ++ wsX12_among_r3)) ++ wsX120)
def wsX12_emits : List Cond := .code yX12_emits cX12_emits 2 none :: ([.fieldLink RX12 65 "MistHeapsModel" "isWrong" "Z", .fieldLink RX12 9 "MistHeapsModel" "s" "[I", .fieldLink RX12 86 "MistHeapsModel" "act" "I"] ++ wsX120)
def wsX12_every_r1 : List Cond := [Cond.fieldLink RX12 65 "MistHeapsModel" "isWrong" "Z", Cond.fieldLink RX12 59 "MistHeapsModel" "spot" "I", Cond.methodLink RX12 92 yX12_factor, Cond.instanceMethod yX12_factor, Cond.selects RX12 yX12_factor yX12_factor, Cond.initialized RX12, Cond.methodLink RX12 69 yX12_here, Cond.instanceMethod yX12_here, Cond.selects RX12 yX12_here yX12_here, Cond.code yX12_here cX12_here 1 (some .int), Cond.fieldLink RX12 62 "MistHeapsModel" "end" "I", Cond.fieldLink RX12 9 "MistHeapsModel" "s" "[I", Cond.methodLink RX12 95 yX12_emits, Cond.instanceMethod yX12_emits, Cond.selects RX12 yX12_emits yX12_emits, Cond.code yX12_emits cX12_emits 2 none, Cond.fieldLink RX12 86 "MistHeapsModel" "act" "I", Cond.code yX12_factor cX12_factor 5 none, Cond.fieldLink RX12 89 "MistHeapsModel" "open" "I", Cond.methodLink RX12 98 yX12_some, Cond.instanceMethod yX12_some, Cond.selects RX12 yX12_some yX12_some, Cond.methodLink RX12 82 yX12_must, Cond.instanceMethod yX12_must]
def wsX12_every_r2 : List Cond := [Cond.selects RX12 yX12_must yX12_must, Cond.code yX12_must cX12_must 2 none, Cond.methodLink RX12 103 yX12_among, Cond.instanceMethod yX12_among, Cond.selects RX12 yX12_among yX12_among, Cond.code yX12_among cX12_among 3 (some .int), Cond.methodLink RX12 73 yJ0_length_8abf5, Cond.instanceMethod yJ0_length_8abf5, Cond.selects RJ0 yJ0_length_8abf5 yJ0_length_8abf5, Cond.initialized RJ0, Cond.code yJ0_length_8abf5 cJ0_length_8abf5 1 (some .int), Cond.fieldLink RJ0 9 "java/lang/String" "value" "[B", Cond.methodLink RJ0 335 yJ0_coder_7d493, Cond.instanceMethod yJ0_coder_7d493, Cond.selects RJ0 yJ0_coder_7d493 yJ0_coder_7d493, Cond.code yJ0_coder_7d493 cJ0_coder_7d493 1 (some .byte), Cond.fieldLink RJ0 38 "java/lang/String" "COMPACT_STRINGS" "Z", Cond.fieldLink RJ0 15 "java/lang/String" "coder" "B", Cond.methodLink RX12 78 yJ0_charAt_5068e, Cond.instanceMethod yJ0_charAt_5068e, Cond.selects RJ0 yJ0_charAt_5068e yJ0_charAt_5068e, Cond.code yJ0_charAt_5068e cJ0_charAt_5068e 2 (some .char), Cond.methodLink RJ0 492 yJ0_isLatin1_aae02, Cond.instanceMethod yJ0_isLatin1_aae02]
def wsX12_every_r3 : List Cond := [Cond.selects RJ0 yJ0_isLatin1_aae02 yJ0_isLatin1_aae02, Cond.code yJ0_isLatin1_aae02 cJ0_isLatin1_aae02 1 (some .boolean), Cond.methodLink RJ0 495 yJ1_charAt_3b067, Cond.static yJ1_charAt_3b067, Cond.initialized RJ1, Cond.code yJ1_charAt_3b067 cJ1_charAt_3b067 2 (some .char), Cond.methodLink RJ1 9 yJ0_checkIndex_df160, Cond.static yJ0_checkIndex_df160, Cond.code yJ0_checkIndex_df160 cJ0_checkIndex_df160 2 none, Cond.fieldLink RJ0 1053 "jdk/internal/util/Preconditions" "SIOOBE_FORMATTER" "Ljava/util/function/BiFunction;", Cond.methodLink RJ0 1059 yJ3_checkIndex_8e157, Cond.static yJ3_checkIndex_8e157, Cond.initialized RJ3, Cond.code yJ3_checkIndex_8e157 cJ3_checkIndex_8e157 3 (some .int), Cond.methodLink RJ0 498 yJ2_charAt_3b067, Cond.static yJ2_charAt_3b067, Cond.initialized RJ2, Cond.code yJ2_charAt_3b067 cJ2_charAt_3b067 2 (some .char), Cond.methodLink RJ2 67 yJ2_checkIndex_2214a, Cond.static yJ2_checkIndex_2214a, Cond.code yJ2_checkIndex_2214a cJ2_checkIndex_2214a 2 none, Cond.methodLink RJ2 48 yJ2_length_9d52b, Cond.static yJ2_length_9d52b, Cond.code yJ2_length_9d52b cJ2_length_9d52b 1 (some .int)]
def wsX12_every_r4 : List Cond := [Cond.methodLink RJ2 414 yJ0_checkIndex_df160, Cond.methodLink RJ2 71 yJ2_getChar_3b067, Cond.static yJ2_getChar_3b067, Cond.code yJ2_getChar_3b067 cJ2_getChar_3b067 2 (some .char), Cond.fieldLink RJ2 44 "java/lang/StringUTF16" "$assertionsDisabled" "Z", Cond.fieldLink RJ2 59 "java/lang/StringUTF16" "HI_BYTE_SHIFT" "I", Cond.fieldLink RJ2 63 "java/lang/StringUTF16" "LO_BYTE_SHIFT" "I", Cond.methodLink RX12 109 yX12_figures, Cond.instanceMethod yX12_figures, Cond.selects RX12 yX12_figures yX12_figures, Cond.code yX12_figures cX12_figures 3 (some .int), Cond.methodLink RX12 45 yX12_in, Cond.static yX12_in, Cond.code yX12_in cX12_in 3 (some .boolean), Cond.code yX12_some cX12_some 1 none, Cond.methodLink RX12 112 yX12_every, Cond.instanceMethod yX12_every, Cond.selects RX12 yX12_every yX12_every]
def wsX12_every : List Cond := .code yX12_every cX12_every 1 none :: ((wsX12_every_r1 ++ (wsX12_every_r2 ++ (wsX12_every_r3 ++ wsX12_every_r4))) ++ wsX120)
def wsX12_factor_r1 : List Cond := [Cond.fieldLink RX12 65 "MistHeapsModel" "isWrong" "Z", Cond.fieldLink RX12 89 "MistHeapsModel" "open" "I", Cond.fieldLink RX12 59 "MistHeapsModel" "spot" "I", Cond.methodLink RX12 69 yX12_here, Cond.instanceMethod yX12_here, Cond.selects RX12 yX12_here yX12_here, Cond.initialized RX12, Cond.code yX12_here cX12_here 1 (some .int), Cond.fieldLink RX12 62 "MistHeapsModel" "end" "I", Cond.fieldLink RX12 9 "MistHeapsModel" "s" "[I", Cond.methodLink RX12 92 yX12_factor, Cond.instanceMethod yX12_factor, Cond.selects RX12 yX12_factor yX12_factor, Cond.methodLink RX12 95 yX12_emits, Cond.instanceMethod yX12_emits, Cond.selects RX12 yX12_emits yX12_emits, Cond.code yX12_emits cX12_emits 2 none, Cond.fieldLink RX12 86 "MistHeapsModel" "act" "I", Cond.methodLink RX12 98 yX12_some, Cond.instanceMethod yX12_some, Cond.selects RX12 yX12_some yX12_some, Cond.methodLink RX12 82 yX12_must, Cond.instanceMethod yX12_must, Cond.selects RX12 yX12_must yX12_must]
def wsX12_factor_r2 : List Cond := [Cond.code yX12_must cX12_must 2 none, Cond.methodLink RX12 103 yX12_among, Cond.instanceMethod yX12_among, Cond.selects RX12 yX12_among yX12_among, Cond.code yX12_among cX12_among 3 (some .int), Cond.methodLink RX12 73 yJ0_length_8abf5, Cond.instanceMethod yJ0_length_8abf5, Cond.selects RJ0 yJ0_length_8abf5 yJ0_length_8abf5, Cond.initialized RJ0, Cond.code yJ0_length_8abf5 cJ0_length_8abf5 1 (some .int), Cond.fieldLink RJ0 9 "java/lang/String" "value" "[B", Cond.methodLink RJ0 335 yJ0_coder_7d493, Cond.instanceMethod yJ0_coder_7d493, Cond.selects RJ0 yJ0_coder_7d493 yJ0_coder_7d493, Cond.code yJ0_coder_7d493 cJ0_coder_7d493 1 (some .byte), Cond.fieldLink RJ0 38 "java/lang/String" "COMPACT_STRINGS" "Z", Cond.fieldLink RJ0 15 "java/lang/String" "coder" "B", Cond.methodLink RX12 78 yJ0_charAt_5068e, Cond.instanceMethod yJ0_charAt_5068e, Cond.selects RJ0 yJ0_charAt_5068e yJ0_charAt_5068e, Cond.code yJ0_charAt_5068e cJ0_charAt_5068e 2 (some .char), Cond.methodLink RJ0 492 yJ0_isLatin1_aae02, Cond.instanceMethod yJ0_isLatin1_aae02, Cond.selects RJ0 yJ0_isLatin1_aae02 yJ0_isLatin1_aae02]
def wsX12_factor_r3 : List Cond := [Cond.code yJ0_isLatin1_aae02 cJ0_isLatin1_aae02 1 (some .boolean), Cond.methodLink RJ0 495 yJ1_charAt_3b067, Cond.static yJ1_charAt_3b067, Cond.initialized RJ1, Cond.code yJ1_charAt_3b067 cJ1_charAt_3b067 2 (some .char), Cond.methodLink RJ1 9 yJ0_checkIndex_df160, Cond.static yJ0_checkIndex_df160, Cond.code yJ0_checkIndex_df160 cJ0_checkIndex_df160 2 none, Cond.fieldLink RJ0 1053 "jdk/internal/util/Preconditions" "SIOOBE_FORMATTER" "Ljava/util/function/BiFunction;", Cond.methodLink RJ0 1059 yJ3_checkIndex_8e157, Cond.static yJ3_checkIndex_8e157, Cond.initialized RJ3, Cond.code yJ3_checkIndex_8e157 cJ3_checkIndex_8e157 3 (some .int), Cond.methodLink RJ0 498 yJ2_charAt_3b067, Cond.static yJ2_charAt_3b067, Cond.initialized RJ2, Cond.code yJ2_charAt_3b067 cJ2_charAt_3b067 2 (some .char), Cond.methodLink RJ2 67 yJ2_checkIndex_2214a, Cond.static yJ2_checkIndex_2214a, Cond.code yJ2_checkIndex_2214a cJ2_checkIndex_2214a 2 none, Cond.methodLink RJ2 48 yJ2_length_9d52b, Cond.static yJ2_length_9d52b, Cond.code yJ2_length_9d52b cJ2_length_9d52b 1 (some .int), Cond.methodLink RJ2 414 yJ0_checkIndex_df160]
def wsX12_factor_r4 : List Cond := [Cond.methodLink RJ2 71 yJ2_getChar_3b067, Cond.static yJ2_getChar_3b067, Cond.code yJ2_getChar_3b067 cJ2_getChar_3b067 2 (some .char), Cond.fieldLink RJ2 44 "java/lang/StringUTF16" "$assertionsDisabled" "Z", Cond.fieldLink RJ2 59 "java/lang/StringUTF16" "HI_BYTE_SHIFT" "I", Cond.fieldLink RJ2 63 "java/lang/StringUTF16" "LO_BYTE_SHIFT" "I", Cond.methodLink RX12 109 yX12_figures, Cond.instanceMethod yX12_figures, Cond.selects RX12 yX12_figures yX12_figures, Cond.code yX12_figures cX12_figures 3 (some .int), Cond.methodLink RX12 45 yX12_in, Cond.static yX12_in, Cond.code yX12_in cX12_in 3 (some .boolean), Cond.code yX12_every cX12_every 1 none, Cond.code yX12_some cX12_some 1 none, Cond.methodLink RX12 112 yX12_every, Cond.instanceMethod yX12_every, Cond.selects RX12 yX12_every yX12_every]
def wsX12_factor : List Cond := .code yX12_factor cX12_factor 5 none :: ((wsX12_factor_r1 ++ (wsX12_factor_r2 ++ (wsX12_factor_r3 ++ wsX12_factor_r4))) ++ wsX120)
def wsX12_some_r1 : List Cond := [Cond.fieldLink RX12 65 "MistHeapsModel" "isWrong" "Z", Cond.fieldLink RX12 59 "MistHeapsModel" "spot" "I", Cond.methodLink RX12 112 yX12_every, Cond.instanceMethod yX12_every, Cond.selects RX12 yX12_every yX12_every, Cond.initialized RX12, Cond.methodLink RX12 69 yX12_here, Cond.instanceMethod yX12_here, Cond.selects RX12 yX12_here yX12_here, Cond.code yX12_here cX12_here 1 (some .int), Cond.fieldLink RX12 62 "MistHeapsModel" "end" "I", Cond.fieldLink RX12 9 "MistHeapsModel" "s" "[I", Cond.methodLink RX12 95 yX12_emits, Cond.instanceMethod yX12_emits, Cond.selects RX12 yX12_emits yX12_emits, Cond.code yX12_emits cX12_emits 2 none, Cond.fieldLink RX12 86 "MistHeapsModel" "act" "I", Cond.code yX12_every cX12_every 1 none, Cond.methodLink RX12 92 yX12_factor, Cond.instanceMethod yX12_factor, Cond.selects RX12 yX12_factor yX12_factor, Cond.code yX12_factor cX12_factor 5 none, Cond.fieldLink RX12 89 "MistHeapsModel" "open" "I", Cond.methodLink RX12 98 yX12_some]
def wsX12_some_r2 : List Cond := [Cond.instanceMethod yX12_some, Cond.selects RX12 yX12_some yX12_some, Cond.methodLink RX12 82 yX12_must, Cond.instanceMethod yX12_must, Cond.selects RX12 yX12_must yX12_must, Cond.code yX12_must cX12_must 2 none, Cond.methodLink RX12 103 yX12_among, Cond.instanceMethod yX12_among, Cond.selects RX12 yX12_among yX12_among, Cond.code yX12_among cX12_among 3 (some .int), Cond.methodLink RX12 73 yJ0_length_8abf5, Cond.instanceMethod yJ0_length_8abf5, Cond.selects RJ0 yJ0_length_8abf5 yJ0_length_8abf5, Cond.initialized RJ0, Cond.code yJ0_length_8abf5 cJ0_length_8abf5 1 (some .int), Cond.fieldLink RJ0 9 "java/lang/String" "value" "[B", Cond.methodLink RJ0 335 yJ0_coder_7d493, Cond.instanceMethod yJ0_coder_7d493, Cond.selects RJ0 yJ0_coder_7d493 yJ0_coder_7d493, Cond.code yJ0_coder_7d493 cJ0_coder_7d493 1 (some .byte), Cond.fieldLink RJ0 38 "java/lang/String" "COMPACT_STRINGS" "Z", Cond.fieldLink RJ0 15 "java/lang/String" "coder" "B", Cond.methodLink RX12 78 yJ0_charAt_5068e, Cond.instanceMethod yJ0_charAt_5068e]
def wsX12_some_r3 : List Cond := [Cond.selects RJ0 yJ0_charAt_5068e yJ0_charAt_5068e, Cond.code yJ0_charAt_5068e cJ0_charAt_5068e 2 (some .char), Cond.methodLink RJ0 492 yJ0_isLatin1_aae02, Cond.instanceMethod yJ0_isLatin1_aae02, Cond.selects RJ0 yJ0_isLatin1_aae02 yJ0_isLatin1_aae02, Cond.code yJ0_isLatin1_aae02 cJ0_isLatin1_aae02 1 (some .boolean), Cond.methodLink RJ0 495 yJ1_charAt_3b067, Cond.static yJ1_charAt_3b067, Cond.initialized RJ1, Cond.code yJ1_charAt_3b067 cJ1_charAt_3b067 2 (some .char), Cond.methodLink RJ1 9 yJ0_checkIndex_df160, Cond.static yJ0_checkIndex_df160, Cond.code yJ0_checkIndex_df160 cJ0_checkIndex_df160 2 none, Cond.fieldLink RJ0 1053 "jdk/internal/util/Preconditions" "SIOOBE_FORMATTER" "Ljava/util/function/BiFunction;", Cond.methodLink RJ0 1059 yJ3_checkIndex_8e157, Cond.static yJ3_checkIndex_8e157, Cond.initialized RJ3, Cond.code yJ3_checkIndex_8e157 cJ3_checkIndex_8e157 3 (some .int), Cond.methodLink RJ0 498 yJ2_charAt_3b067, Cond.static yJ2_charAt_3b067, Cond.initialized RJ2, Cond.code yJ2_charAt_3b067 cJ2_charAt_3b067 2 (some .char), Cond.methodLink RJ2 67 yJ2_checkIndex_2214a, Cond.static yJ2_checkIndex_2214a]
def wsX12_some_r4 : List Cond := [Cond.code yJ2_checkIndex_2214a cJ2_checkIndex_2214a 2 none, Cond.methodLink RJ2 48 yJ2_length_9d52b, Cond.static yJ2_length_9d52b, Cond.code yJ2_length_9d52b cJ2_length_9d52b 1 (some .int), Cond.methodLink RJ2 414 yJ0_checkIndex_df160, Cond.methodLink RJ2 71 yJ2_getChar_3b067, Cond.static yJ2_getChar_3b067, Cond.code yJ2_getChar_3b067 cJ2_getChar_3b067 2 (some .char), Cond.fieldLink RJ2 44 "java/lang/StringUTF16" "$assertionsDisabled" "Z", Cond.fieldLink RJ2 59 "java/lang/StringUTF16" "HI_BYTE_SHIFT" "I", Cond.fieldLink RJ2 63 "java/lang/StringUTF16" "LO_BYTE_SHIFT" "I", Cond.methodLink RX12 109 yX12_figures, Cond.instanceMethod yX12_figures, Cond.selects RX12 yX12_figures yX12_figures, Cond.code yX12_figures cX12_figures 3 (some .int), Cond.methodLink RX12 45 yX12_in, Cond.static yX12_in, Cond.code yX12_in cX12_in 3 (some .boolean)]
def wsX12_some : List Cond := .code yX12_some cX12_some 1 none :: ((wsX12_some_r1 ++ (wsX12_some_r2 ++ (wsX12_some_r3 ++ wsX12_some_r4))) ++ wsX120)
def wsX12_much_r1 : List Cond := [Cond.methodLink RX12 115 yX12_spells, Cond.instanceMethod yX12_spells, Cond.selects RX12 yX12_spells yX12_spells, Cond.initialized RX12, Cond.code yX12_spells cX12_spells 3 none, Cond.methodLink RX12 73 yJ0_length_8abf5, Cond.instanceMethod yJ0_length_8abf5, Cond.selects RJ0 yJ0_length_8abf5 yJ0_length_8abf5, Cond.initialized RJ0, Cond.code yJ0_length_8abf5 cJ0_length_8abf5 1 (some .int), Cond.fieldLink RJ0 9 "java/lang/String" "value" "[B", Cond.methodLink RJ0 335 yJ0_coder_7d493, Cond.instanceMethod yJ0_coder_7d493, Cond.selects RJ0 yJ0_coder_7d493 yJ0_coder_7d493, Cond.code yJ0_coder_7d493 cJ0_coder_7d493 1 (some .byte), Cond.fieldLink RJ0 38 "java/lang/String" "COMPACT_STRINGS" "Z", Cond.fieldLink RJ0 15 "java/lang/String" "coder" "B", Cond.methodLink RX12 78 yJ0_charAt_5068e, Cond.instanceMethod yJ0_charAt_5068e, Cond.selects RJ0 yJ0_charAt_5068e yJ0_charAt_5068e, Cond.code yJ0_charAt_5068e cJ0_charAt_5068e 2 (some .char), Cond.methodLink RJ0 492 yJ0_isLatin1_aae02, Cond.instanceMethod yJ0_isLatin1_aae02, Cond.selects RJ0 yJ0_isLatin1_aae02 yJ0_isLatin1_aae02]
def wsX12_much_r2 : List Cond := [Cond.code yJ0_isLatin1_aae02 cJ0_isLatin1_aae02 1 (some .boolean), Cond.methodLink RJ0 495 yJ1_charAt_3b067, Cond.static yJ1_charAt_3b067, Cond.initialized RJ1, Cond.code yJ1_charAt_3b067 cJ1_charAt_3b067 2 (some .char), Cond.methodLink RJ1 9 yJ0_checkIndex_df160, Cond.static yJ0_checkIndex_df160, Cond.code yJ0_checkIndex_df160 cJ0_checkIndex_df160 2 none, Cond.fieldLink RJ0 1053 "jdk/internal/util/Preconditions" "SIOOBE_FORMATTER" "Ljava/util/function/BiFunction;", Cond.methodLink RJ0 1059 yJ3_checkIndex_8e157, Cond.static yJ3_checkIndex_8e157, Cond.initialized RJ3, Cond.code yJ3_checkIndex_8e157 cJ3_checkIndex_8e157 3 (some .int), Cond.methodLink RJ0 498 yJ2_charAt_3b067, Cond.static yJ2_charAt_3b067, Cond.initialized RJ2, Cond.code yJ2_charAt_3b067 cJ2_charAt_3b067 2 (some .char), Cond.methodLink RJ2 67 yJ2_checkIndex_2214a, Cond.static yJ2_checkIndex_2214a, Cond.code yJ2_checkIndex_2214a cJ2_checkIndex_2214a 2 none, Cond.methodLink RJ2 48 yJ2_length_9d52b, Cond.static yJ2_length_9d52b, Cond.code yJ2_length_9d52b cJ2_length_9d52b 1 (some .int), Cond.methodLink RJ2 414 yJ0_checkIndex_df160]
def wsX12_much_r3 : List Cond := [Cond.methodLink RJ2 71 yJ2_getChar_3b067, Cond.static yJ2_getChar_3b067, Cond.code yJ2_getChar_3b067 cJ2_getChar_3b067 2 (some .char), Cond.fieldLink RJ2 44 "java/lang/StringUTF16" "$assertionsDisabled" "Z", Cond.fieldLink RJ2 59 "java/lang/StringUTF16" "HI_BYTE_SHIFT" "I", Cond.fieldLink RJ2 63 "java/lang/StringUTF16" "LO_BYTE_SHIFT" "I", Cond.methodLink RX12 82 yX12_must, Cond.instanceMethod yX12_must, Cond.selects RX12 yX12_must yX12_must, Cond.code yX12_must cX12_must 2 none, Cond.fieldLink RX12 65 "MistHeapsModel" "isWrong" "Z", Cond.fieldLink RX12 59 "MistHeapsModel" "spot" "I", Cond.methodLink RX12 69 yX12_here, Cond.instanceMethod yX12_here, Cond.selects RX12 yX12_here yX12_here, Cond.code yX12_here cX12_here 1 (some .int), Cond.fieldLink RX12 62 "MistHeapsModel" "end" "I", Cond.fieldLink RX12 9 "MistHeapsModel" "s" "[I", Cond.methodLink RX12 109 yX12_figures, Cond.instanceMethod yX12_figures, Cond.selects RX12 yX12_figures yX12_figures, Cond.code yX12_figures cX12_figures 3 (some .int), Cond.methodLink RX12 45 yX12_in, Cond.static yX12_in]
def wsX12_much_r4 : List Cond := [Cond.code yX12_in cX12_in 3 (some .boolean), Cond.methodLink RX12 98 yX12_some, Cond.instanceMethod yX12_some, Cond.selects RX12 yX12_some yX12_some, Cond.code yX12_some cX12_some 1 none, Cond.methodLink RX12 112 yX12_every, Cond.instanceMethod yX12_every, Cond.selects RX12 yX12_every yX12_every, Cond.methodLink RX12 95 yX12_emits, Cond.instanceMethod yX12_emits, Cond.selects RX12 yX12_emits yX12_emits, Cond.code yX12_emits cX12_emits 2 none, Cond.fieldLink RX12 86 "MistHeapsModel" "act" "I", Cond.code yX12_every cX12_every 1 none, Cond.methodLink RX12 92 yX12_factor, Cond.instanceMethod yX12_factor, Cond.selects RX12 yX12_factor yX12_factor, Cond.code yX12_factor cX12_factor 5 none, Cond.fieldLink RX12 89 "MistHeapsModel" "open" "I", Cond.methodLink RX12 103 yX12_among, Cond.instanceMethod yX12_among, Cond.selects RX12 yX12_among yX12_among, Cond.code yX12_among cX12_among 3 (some .int)]
def wsX12_much : List Cond := .code yX12_much cX12_much 4 none :: ((wsX12_much_r1 ++ (wsX12_much_r2 ++ (wsX12_much_r3 ++ wsX12_much_r4))) ++ wsX120)
def wsX12_clauseOfS_r1 : List Cond := [Cond.fieldLink RX12 65 "MistHeapsModel" "isWrong" "Z", Cond.fieldLink RX12 9 "MistHeapsModel" "s" "[I", Cond.fieldLink RX12 86 "MistHeapsModel" "act" "I", Cond.methodLink RX12 82 yX12_must, Cond.instanceMethod yX12_must, Cond.selects RX12 yX12_must yX12_must, Cond.initialized RX12, Cond.code yX12_must cX12_must 2 none, Cond.fieldLink RX12 59 "MistHeapsModel" "spot" "I", Cond.methodLink RX12 69 yX12_here, Cond.instanceMethod yX12_here, Cond.selects RX12 yX12_here yX12_here, Cond.code yX12_here cX12_here 1 (some .int), Cond.fieldLink RX12 62 "MistHeapsModel" "end" "I", Cond.methodLink RX12 121 yX12_much, Cond.instanceMethod yX12_much, Cond.selects RX12 yX12_much yX12_much, Cond.code yX12_much cX12_much 4 none, Cond.methodLink RX12 115 yX12_spells, Cond.instanceMethod yX12_spells, Cond.selects RX12 yX12_spells yX12_spells, Cond.code yX12_spells cX12_spells 3 none, Cond.methodLink RX12 73 yJ0_length_8abf5, Cond.instanceMethod yJ0_length_8abf5]
def wsX12_clauseOfS_r2 : List Cond := [Cond.selects RJ0 yJ0_length_8abf5 yJ0_length_8abf5, Cond.initialized RJ0, Cond.code yJ0_length_8abf5 cJ0_length_8abf5 1 (some .int), Cond.fieldLink RJ0 9 "java/lang/String" "value" "[B", Cond.methodLink RJ0 335 yJ0_coder_7d493, Cond.instanceMethod yJ0_coder_7d493, Cond.selects RJ0 yJ0_coder_7d493 yJ0_coder_7d493, Cond.code yJ0_coder_7d493 cJ0_coder_7d493 1 (some .byte), Cond.fieldLink RJ0 38 "java/lang/String" "COMPACT_STRINGS" "Z", Cond.fieldLink RJ0 15 "java/lang/String" "coder" "B", Cond.methodLink RX12 78 yJ0_charAt_5068e, Cond.instanceMethod yJ0_charAt_5068e, Cond.selects RJ0 yJ0_charAt_5068e yJ0_charAt_5068e, Cond.code yJ0_charAt_5068e cJ0_charAt_5068e 2 (some .char), Cond.methodLink RJ0 492 yJ0_isLatin1_aae02, Cond.instanceMethod yJ0_isLatin1_aae02, Cond.selects RJ0 yJ0_isLatin1_aae02 yJ0_isLatin1_aae02, Cond.code yJ0_isLatin1_aae02 cJ0_isLatin1_aae02 1 (some .boolean), Cond.methodLink RJ0 495 yJ1_charAt_3b067, Cond.static yJ1_charAt_3b067, Cond.initialized RJ1, Cond.code yJ1_charAt_3b067 cJ1_charAt_3b067 2 (some .char), Cond.methodLink RJ1 9 yJ0_checkIndex_df160, Cond.static yJ0_checkIndex_df160]
def wsX12_clauseOfS_r3 : List Cond := [Cond.code yJ0_checkIndex_df160 cJ0_checkIndex_df160 2 none, Cond.fieldLink RJ0 1053 "jdk/internal/util/Preconditions" "SIOOBE_FORMATTER" "Ljava/util/function/BiFunction;", Cond.methodLink RJ0 1059 yJ3_checkIndex_8e157, Cond.static yJ3_checkIndex_8e157, Cond.initialized RJ3, Cond.code yJ3_checkIndex_8e157 cJ3_checkIndex_8e157 3 (some .int), Cond.methodLink RJ0 498 yJ2_charAt_3b067, Cond.static yJ2_charAt_3b067, Cond.initialized RJ2, Cond.code yJ2_charAt_3b067 cJ2_charAt_3b067 2 (some .char), Cond.methodLink RJ2 67 yJ2_checkIndex_2214a, Cond.static yJ2_checkIndex_2214a, Cond.code yJ2_checkIndex_2214a cJ2_checkIndex_2214a 2 none, Cond.methodLink RJ2 48 yJ2_length_9d52b, Cond.static yJ2_length_9d52b, Cond.code yJ2_length_9d52b cJ2_length_9d52b 1 (some .int), Cond.methodLink RJ2 414 yJ0_checkIndex_df160, Cond.methodLink RJ2 71 yJ2_getChar_3b067, Cond.static yJ2_getChar_3b067, Cond.code yJ2_getChar_3b067 cJ2_getChar_3b067 2 (some .char), Cond.fieldLink RJ2 44 "java/lang/StringUTF16" "$assertionsDisabled" "Z", Cond.fieldLink RJ2 59 "java/lang/StringUTF16" "HI_BYTE_SHIFT" "I", Cond.fieldLink RJ2 63 "java/lang/StringUTF16" "LO_BYTE_SHIFT" "I", Cond.methodLink RX12 109 yX12_figures]
def wsX12_clauseOfS_r4 : List Cond := [Cond.instanceMethod yX12_figures, Cond.selects RX12 yX12_figures yX12_figures, Cond.code yX12_figures cX12_figures 3 (some .int), Cond.methodLink RX12 45 yX12_in, Cond.static yX12_in, Cond.code yX12_in cX12_in 3 (some .boolean), Cond.methodLink RX12 98 yX12_some, Cond.instanceMethod yX12_some, Cond.selects RX12 yX12_some yX12_some, Cond.code yX12_some cX12_some 1 none, Cond.methodLink RX12 112 yX12_every, Cond.instanceMethod yX12_every, Cond.selects RX12 yX12_every yX12_every, Cond.methodLink RX12 95 yX12_emits, Cond.instanceMethod yX12_emits, Cond.selects RX12 yX12_emits yX12_emits, Cond.code yX12_emits cX12_emits 2 none, Cond.code yX12_every cX12_every 1 none, Cond.methodLink RX12 92 yX12_factor, Cond.instanceMethod yX12_factor, Cond.selects RX12 yX12_factor yX12_factor, Cond.code yX12_factor cX12_factor 5 none, Cond.fieldLink RX12 89 "MistHeapsModel" "open" "I", Cond.methodLink RX12 103 yX12_among]
def wsX12_clauseOfS_r5 : List Cond := [Cond.instanceMethod yX12_among, Cond.selects RX12 yX12_among yX12_among, Cond.code yX12_among cX12_among 3 (some .int)]
def wsX12_clauseOfS : List Cond := .code yX12_clauseOfS cX12_clauseOfS 2 none :: ((wsX12_clauseOfS_r1 ++ (wsX12_clauseOfS_r2 ++ (wsX12_clauseOfS_r3 ++ (wsX12_clauseOfS_r4 ++ wsX12_clauseOfS_r5)))) ++ wsX120)
def wsX12_clauseHere_r1 : List Cond := [Cond.fieldLink RX12 65 "MistHeapsModel" "isWrong" "Z", Cond.methodLink RX12 69 yX12_here, Cond.instanceMethod yX12_here, Cond.selects RX12 yX12_here yX12_here, Cond.initialized RX12, Cond.code yX12_here cX12_here 1 (some .int), Cond.fieldLink RX12 59 "MistHeapsModel" "spot" "I", Cond.fieldLink RX12 62 "MistHeapsModel" "end" "I", Cond.fieldLink RX12 9 "MistHeapsModel" "s" "[I", Cond.methodLink RX12 127 yX12_clauseOfS, Cond.instanceMethod yX12_clauseOfS, Cond.selects RX12 yX12_clauseOfS yX12_clauseOfS, Cond.code yX12_clauseOfS cX12_clauseOfS 2 none, Cond.fieldLink RX12 86 "MistHeapsModel" "act" "I", Cond.methodLink RX12 82 yX12_must, Cond.instanceMethod yX12_must, Cond.selects RX12 yX12_must yX12_must, Cond.code yX12_must cX12_must 2 none, Cond.methodLink RX12 121 yX12_much, Cond.instanceMethod yX12_much, Cond.selects RX12 yX12_much yX12_much, Cond.code yX12_much cX12_much 4 none, Cond.methodLink RX12 115 yX12_spells, Cond.instanceMethod yX12_spells]
def wsX12_clauseHere_r2 : List Cond := [Cond.selects RX12 yX12_spells yX12_spells, Cond.code yX12_spells cX12_spells 3 none, Cond.methodLink RX12 73 yJ0_length_8abf5, Cond.instanceMethod yJ0_length_8abf5, Cond.selects RJ0 yJ0_length_8abf5 yJ0_length_8abf5, Cond.initialized RJ0, Cond.code yJ0_length_8abf5 cJ0_length_8abf5 1 (some .int), Cond.fieldLink RJ0 9 "java/lang/String" "value" "[B", Cond.methodLink RJ0 335 yJ0_coder_7d493, Cond.instanceMethod yJ0_coder_7d493, Cond.selects RJ0 yJ0_coder_7d493 yJ0_coder_7d493, Cond.code yJ0_coder_7d493 cJ0_coder_7d493 1 (some .byte), Cond.fieldLink RJ0 38 "java/lang/String" "COMPACT_STRINGS" "Z", Cond.fieldLink RJ0 15 "java/lang/String" "coder" "B", Cond.methodLink RX12 78 yJ0_charAt_5068e, Cond.instanceMethod yJ0_charAt_5068e, Cond.selects RJ0 yJ0_charAt_5068e yJ0_charAt_5068e, Cond.code yJ0_charAt_5068e cJ0_charAt_5068e 2 (some .char), Cond.methodLink RJ0 492 yJ0_isLatin1_aae02, Cond.instanceMethod yJ0_isLatin1_aae02, Cond.selects RJ0 yJ0_isLatin1_aae02 yJ0_isLatin1_aae02, Cond.code yJ0_isLatin1_aae02 cJ0_isLatin1_aae02 1 (some .boolean), Cond.methodLink RJ0 495 yJ1_charAt_3b067, Cond.static yJ1_charAt_3b067]
def wsX12_clauseHere_r3 : List Cond := [Cond.initialized RJ1, Cond.code yJ1_charAt_3b067 cJ1_charAt_3b067 2 (some .char), Cond.methodLink RJ1 9 yJ0_checkIndex_df160, Cond.static yJ0_checkIndex_df160, Cond.code yJ0_checkIndex_df160 cJ0_checkIndex_df160 2 none, Cond.fieldLink RJ0 1053 "jdk/internal/util/Preconditions" "SIOOBE_FORMATTER" "Ljava/util/function/BiFunction;", Cond.methodLink RJ0 1059 yJ3_checkIndex_8e157, Cond.static yJ3_checkIndex_8e157, Cond.initialized RJ3, Cond.code yJ3_checkIndex_8e157 cJ3_checkIndex_8e157 3 (some .int), Cond.methodLink RJ0 498 yJ2_charAt_3b067, Cond.static yJ2_charAt_3b067, Cond.initialized RJ2, Cond.code yJ2_charAt_3b067 cJ2_charAt_3b067 2 (some .char), Cond.methodLink RJ2 67 yJ2_checkIndex_2214a, Cond.static yJ2_checkIndex_2214a, Cond.code yJ2_checkIndex_2214a cJ2_checkIndex_2214a 2 none, Cond.methodLink RJ2 48 yJ2_length_9d52b, Cond.static yJ2_length_9d52b, Cond.code yJ2_length_9d52b cJ2_length_9d52b 1 (some .int), Cond.methodLink RJ2 414 yJ0_checkIndex_df160, Cond.methodLink RJ2 71 yJ2_getChar_3b067, Cond.static yJ2_getChar_3b067, Cond.code yJ2_getChar_3b067 cJ2_getChar_3b067 2 (some .char)]
def wsX12_clauseHere_r4 : List Cond := [Cond.fieldLink RJ2 44 "java/lang/StringUTF16" "$assertionsDisabled" "Z", Cond.fieldLink RJ2 59 "java/lang/StringUTF16" "HI_BYTE_SHIFT" "I", Cond.fieldLink RJ2 63 "java/lang/StringUTF16" "LO_BYTE_SHIFT" "I", Cond.methodLink RX12 109 yX12_figures, Cond.instanceMethod yX12_figures, Cond.selects RX12 yX12_figures yX12_figures, Cond.code yX12_figures cX12_figures 3 (some .int), Cond.methodLink RX12 45 yX12_in, Cond.static yX12_in, Cond.code yX12_in cX12_in 3 (some .boolean), Cond.methodLink RX12 98 yX12_some, Cond.instanceMethod yX12_some, Cond.selects RX12 yX12_some yX12_some, Cond.code yX12_some cX12_some 1 none, Cond.methodLink RX12 112 yX12_every, Cond.instanceMethod yX12_every, Cond.selects RX12 yX12_every yX12_every, Cond.methodLink RX12 95 yX12_emits, Cond.instanceMethod yX12_emits, Cond.selects RX12 yX12_emits yX12_emits, Cond.code yX12_emits cX12_emits 2 none, Cond.code yX12_every cX12_every 1 none, Cond.methodLink RX12 92 yX12_factor, Cond.instanceMethod yX12_factor]
def wsX12_clauseHere_r5 : List Cond := [Cond.selects RX12 yX12_factor yX12_factor, Cond.code yX12_factor cX12_factor 5 none, Cond.fieldLink RX12 89 "MistHeapsModel" "open" "I", Cond.methodLink RX12 103 yX12_among, Cond.instanceMethod yX12_among, Cond.selects RX12 yX12_among yX12_among, Cond.code yX12_among cX12_among 3 (some .int)]
def wsX12_clauseHere : List Cond := .code yX12_clauseHere cX12_clauseHere 1 none :: ((wsX12_clauseHere_r1 ++ (wsX12_clauseHere_r2 ++ (wsX12_clauseHere_r3 ++ (wsX12_clauseHere_r4 ++ wsX12_clauseHere_r5)))) ++ wsX120)
def wsX12_hill_r1 : List Cond := [Cond.fieldLink RX12 9 "MistHeapsModel" "s" "[I", Cond.fieldLink RX12 86 "MistHeapsModel" "act" "I", Cond.fieldLink RX12 62 "MistHeapsModel" "end" "I", Cond.fieldLink RX12 59 "MistHeapsModel" "spot" "I", Cond.fieldLink RX12 65 "MistHeapsModel" "isWrong" "Z", Cond.fieldLink RX12 89 "MistHeapsModel" "open" "I", Cond.methodLink RX12 134 yX12_clauseHere, Cond.instanceMethod yX12_clauseHere, Cond.selects RX12 yX12_clauseHere yX12_clauseHere, Cond.initialized RX12, Cond.code yX12_clauseHere cX12_clauseHere 1 none, Cond.methodLink RX12 69 yX12_here, Cond.instanceMethod yX12_here, Cond.selects RX12 yX12_here yX12_here, Cond.code yX12_here cX12_here 1 (some .int), Cond.methodLink RX12 127 yX12_clauseOfS, Cond.instanceMethod yX12_clauseOfS, Cond.selects RX12 yX12_clauseOfS yX12_clauseOfS, Cond.code yX12_clauseOfS cX12_clauseOfS 2 none, Cond.methodLink RX12 82 yX12_must, Cond.instanceMethod yX12_must, Cond.selects RX12 yX12_must yX12_must, Cond.code yX12_must cX12_must 2 none, Cond.methodLink RX12 121 yX12_much]
def wsX12_hill_r2 : List Cond := [Cond.instanceMethod yX12_much, Cond.selects RX12 yX12_much yX12_much, Cond.code yX12_much cX12_much 4 none, Cond.methodLink RX12 115 yX12_spells, Cond.instanceMethod yX12_spells, Cond.selects RX12 yX12_spells yX12_spells, Cond.code yX12_spells cX12_spells 3 none, Cond.methodLink RX12 73 yJ0_length_8abf5, Cond.instanceMethod yJ0_length_8abf5, Cond.selects RJ0 yJ0_length_8abf5 yJ0_length_8abf5, Cond.initialized RJ0, Cond.code yJ0_length_8abf5 cJ0_length_8abf5 1 (some .int), Cond.fieldLink RJ0 9 "java/lang/String" "value" "[B", Cond.methodLink RJ0 335 yJ0_coder_7d493, Cond.instanceMethod yJ0_coder_7d493, Cond.selects RJ0 yJ0_coder_7d493 yJ0_coder_7d493, Cond.code yJ0_coder_7d493 cJ0_coder_7d493 1 (some .byte), Cond.fieldLink RJ0 38 "java/lang/String" "COMPACT_STRINGS" "Z", Cond.fieldLink RJ0 15 "java/lang/String" "coder" "B", Cond.methodLink RX12 78 yJ0_charAt_5068e, Cond.instanceMethod yJ0_charAt_5068e, Cond.selects RJ0 yJ0_charAt_5068e yJ0_charAt_5068e, Cond.code yJ0_charAt_5068e cJ0_charAt_5068e 2 (some .char), Cond.methodLink RJ0 492 yJ0_isLatin1_aae02]
def wsX12_hill_r3 : List Cond := [Cond.instanceMethod yJ0_isLatin1_aae02, Cond.selects RJ0 yJ0_isLatin1_aae02 yJ0_isLatin1_aae02, Cond.code yJ0_isLatin1_aae02 cJ0_isLatin1_aae02 1 (some .boolean), Cond.methodLink RJ0 495 yJ1_charAt_3b067, Cond.static yJ1_charAt_3b067, Cond.initialized RJ1, Cond.code yJ1_charAt_3b067 cJ1_charAt_3b067 2 (some .char), Cond.methodLink RJ1 9 yJ0_checkIndex_df160, Cond.static yJ0_checkIndex_df160, Cond.code yJ0_checkIndex_df160 cJ0_checkIndex_df160 2 none, Cond.fieldLink RJ0 1053 "jdk/internal/util/Preconditions" "SIOOBE_FORMATTER" "Ljava/util/function/BiFunction;", Cond.methodLink RJ0 1059 yJ3_checkIndex_8e157, Cond.static yJ3_checkIndex_8e157, Cond.initialized RJ3, Cond.code yJ3_checkIndex_8e157 cJ3_checkIndex_8e157 3 (some .int), Cond.methodLink RJ0 498 yJ2_charAt_3b067, Cond.static yJ2_charAt_3b067, Cond.initialized RJ2, Cond.code yJ2_charAt_3b067 cJ2_charAt_3b067 2 (some .char), Cond.methodLink RJ2 67 yJ2_checkIndex_2214a, Cond.static yJ2_checkIndex_2214a, Cond.code yJ2_checkIndex_2214a cJ2_checkIndex_2214a 2 none, Cond.methodLink RJ2 48 yJ2_length_9d52b, Cond.static yJ2_length_9d52b]
def wsX12_hill_r4 : List Cond := [Cond.code yJ2_length_9d52b cJ2_length_9d52b 1 (some .int), Cond.methodLink RJ2 414 yJ0_checkIndex_df160, Cond.methodLink RJ2 71 yJ2_getChar_3b067, Cond.static yJ2_getChar_3b067, Cond.code yJ2_getChar_3b067 cJ2_getChar_3b067 2 (some .char), Cond.fieldLink RJ2 44 "java/lang/StringUTF16" "$assertionsDisabled" "Z", Cond.fieldLink RJ2 59 "java/lang/StringUTF16" "HI_BYTE_SHIFT" "I", Cond.fieldLink RJ2 63 "java/lang/StringUTF16" "LO_BYTE_SHIFT" "I", Cond.methodLink RX12 109 yX12_figures, Cond.instanceMethod yX12_figures, Cond.selects RX12 yX12_figures yX12_figures, Cond.code yX12_figures cX12_figures 3 (some .int), Cond.methodLink RX12 45 yX12_in, Cond.static yX12_in, Cond.code yX12_in cX12_in 3 (some .boolean), Cond.methodLink RX12 98 yX12_some, Cond.instanceMethod yX12_some, Cond.selects RX12 yX12_some yX12_some, Cond.code yX12_some cX12_some 1 none, Cond.methodLink RX12 112 yX12_every, Cond.instanceMethod yX12_every, Cond.selects RX12 yX12_every yX12_every, Cond.methodLink RX12 95 yX12_emits, Cond.instanceMethod yX12_emits]
def wsX12_hill_r5 : List Cond := [Cond.selects RX12 yX12_emits yX12_emits, Cond.code yX12_emits cX12_emits 2 none, Cond.code yX12_every cX12_every 1 none, Cond.methodLink RX12 92 yX12_factor, Cond.instanceMethod yX12_factor, Cond.selects RX12 yX12_factor yX12_factor, Cond.code yX12_factor cX12_factor 5 none, Cond.methodLink RX12 103 yX12_among, Cond.instanceMethod yX12_among, Cond.selects RX12 yX12_among yX12_among, Cond.code yX12_among cX12_among 3 (some .int)]
def wsX12_hill : List Cond := .code yX12_hill cX12_hill 2 (some .int) :: ((wsX12_hill_r1 ++ (wsX12_hill_r2 ++ (wsX12_hill_r3 ++ (wsX12_hill_r4 ++ wsX12_hill_r5)))) ++ wsX120)
def wsX12_sight : List Cond := .code yX12_sight cX12_sight 1 (some .int) :: ([.fieldLink RX12 9 "MistHeapsModel" "s" "[I"] ++ wsX120)
def wsX12_edgesMany : List Cond := .code yX12_edgesMany cX12_edgesMany 3 (some .int) :: ([.fieldLink RX12 9 "MistHeapsModel" "s" "[I"] ++ wsX120)
def wsX12_edges : List Cond := .code yX12_edges cX12_edges 5 (some .int) :: ([.fieldLink RX12 9 "MistHeapsModel" "s" "[I", .methodLink RX12 137 yX12_edgesMany, .instanceMethod yX12_edgesMany, .selects RX12 yX12_edgesMany yX12_edgesMany, .initialized RX12, .code yX12_edgesMany cX12_edgesMany 3 (some .int)] ++ wsX120)
def wsX12_set : List Cond := .code yX12_set cX12_set 4 (some .int) :: ([.fieldLink RX12 9 "MistHeapsModel" "s" "[I", .methodLink RX12 45 yX12_in, .static yX12_in, .initialized RX12, .code yX12_in cX12_in 3 (some .boolean)] ++ wsX120)
def wsX12_told : List Cond := .code yX12_told cX12_told 2 (some .int) :: ([.fieldLink RX12 9 "MistHeapsModel" "s" "[I", .methodLink RX12 140 yX12_sight, .instanceMethod yX12_sight, .selects RX12 yX12_sight yX12_sight, .initialized RX12, .code yX12_sight cX12_sight 1 (some .int), .methodLink RX12 137 yX12_edgesMany, .instanceMethod yX12_edgesMany, .selects RX12 yX12_edgesMany yX12_edgesMany, .code yX12_edgesMany cX12_edgesMany 3 (some .int)] ++ wsX120)
def wsX12_looks : List Cond := .code yX12_looks cX12_looks 12 none :: ([.fieldLink RX12 18 "MistHeapsModel" "by" "[I", .fieldLink RX12 9 "MistHeapsModel" "s" "[I", .fieldLink RX12 143 "MistHeapsModel" "seeing" "I", .fieldLink RX12 146 "MistHeapsModel" "drifting" "I", .fieldLink RX12 21 "MistHeapsModel" "truths" "[Z"] ++ wsX120)
def wsX12_heapOn : List Cond := .code yX12_heapOn cX12_heapOn 4 (some .int) :: ([.fieldLink RX12 9 "MistHeapsModel" "s" "[I"] ++ wsX120)
def wsX12_puts : List Cond := .code yX12_puts cX12_puts 5 (some .int) :: ([.fieldLink RX12 9 "MistHeapsModel" "s" "[I"] ++ wsX120)
def wsX12_heap : List Cond := .code yX12_heap cX12_heap 4 (some .int) :: ([.fieldLink RX12 9 "MistHeapsModel" "s" "[I", .methodLink RX12 45 yX12_in, .static yX12_in, .initialized RX12, .code yX12_in cX12_in 3 (some .boolean), .methodLink RX12 149 yX12_isCell, .static yX12_isCell, .code yX12_isCell cX12_isCell 1 (some .boolean), .methodLink RX12 153 yX12_heapOn, .instanceMethod yX12_heapOn, .selects RX12 yX12_heapOn yX12_heapOn, .code yX12_heapOn cX12_heapOn 4 (some .int), .methodLink RX12 156 yX12_puts, .instanceMethod yX12_puts, .selects RX12 yX12_puts yX12_puts, .code yX12_puts cX12_puts 5 (some .int)] ++ wsX120)
def wsX12_reachOf : List Cond := .code yX12_reachOf cX12_reachOf 5 (some .int) :: ([.fieldLink RX12 9 "MistHeapsModel" "s" "[I", .fieldLink RX12 143 "MistHeapsModel" "seeing" "I", .methodLink RX12 160 yX12_looks, .instanceMethod yX12_looks, .selects RX12 yX12_looks yX12_looks, .initialized RX12, .code yX12_looks cX12_looks 12 none, .fieldLink RX12 18 "MistHeapsModel" "by" "[I", .fieldLink RX12 146 "MistHeapsModel" "drifting" "I", .fieldLink RX12 21 "MistHeapsModel" "truths" "[Z", .methodLink RX12 140 yX12_sight, .instanceMethod yX12_sight, .selects RX12 yX12_sight yX12_sight, .code yX12_sight cX12_sight 1 (some .int)] ++ wsX120)
def wsX12_of_r1 : List Cond := [Cond.fieldLink RX12 9 "MistHeapsModel" "s" "[I", Cond.methodLink RX12 164 yX12_isHeap, Cond.instanceMethod yX12_isHeap, Cond.selects RX12 yX12_isHeap yX12_isHeap, Cond.initialized RX12, Cond.code yX12_isHeap cX12_isHeap 2 (some .boolean), Cond.methodLink RX12 45 yX12_in, Cond.static yX12_in, Cond.code yX12_in cX12_in 3 (some .boolean), Cond.methodLink RX12 167 yX12_reachOf, Cond.instanceMethod yX12_reachOf, Cond.selects RX12 yX12_reachOf yX12_reachOf, Cond.code yX12_reachOf cX12_reachOf 5 (some .int), Cond.fieldLink RX12 143 "MistHeapsModel" "seeing" "I", Cond.methodLink RX12 160 yX12_looks, Cond.instanceMethod yX12_looks, Cond.selects RX12 yX12_looks yX12_looks, Cond.code yX12_looks cX12_looks 12 none, Cond.fieldLink RX12 18 "MistHeapsModel" "by" "[I", Cond.fieldLink RX12 146 "MistHeapsModel" "drifting" "I", Cond.fieldLink RX12 21 "MistHeapsModel" "truths" "[Z", Cond.methodLink RX12 140 yX12_sight, Cond.instanceMethod yX12_sight, Cond.selects RX12 yX12_sight yX12_sight]
def wsX12_of_r2 : List Cond := [Cond.code yX12_sight cX12_sight 1 (some .int)]
def wsX12_of : List Cond := .code yX12_of cX12_of 3 (some .int) :: ((wsX12_of_r1 ++ wsX12_of_r2) ++ wsX120)
def wsX12_isSeen : List Cond := .code yX12_isSeen cX12_isSeen 3 (some .boolean) :: ([.fieldLink RX12 9 "MistHeapsModel" "s" "[I", .methodLink RX12 170 yX12_apart, .static yX12_apart, .initialized RX12, .code yX12_apart cX12_apart 4 (some .int), .methodLink RX12 49 yX12_size, .static yX12_size, .code yX12_size cX12_size 1 (some .int), .methodLink RX12 167 yX12_reachOf, .instanceMethod yX12_reachOf, .selects RX12 yX12_reachOf yX12_reachOf, .code yX12_reachOf cX12_reachOf 5 (some .int), .fieldLink RX12 143 "MistHeapsModel" "seeing" "I", .methodLink RX12 160 yX12_looks, .instanceMethod yX12_looks, .selects RX12 yX12_looks yX12_looks, .code yX12_looks cX12_looks 12 none, .fieldLink RX12 18 "MistHeapsModel" "by" "[I", .fieldLink RX12 146 "MistHeapsModel" "drifting" "I", .fieldLink RX12 21 "MistHeapsModel" "truths" "[Z", .methodLink RX12 140 yX12_sight, .instanceMethod yX12_sight, .selects RX12 yX12_sight yX12_sight, .code yX12_sight cX12_sight 1 (some .int)] ++ wsX120)
def wsX12_seesOf_r1 : List Cond := [Cond.fieldLink RX12 9 "MistHeapsModel" "s" "[I", Cond.methodLink RX12 174 yX12_isSeen, Cond.instanceMethod yX12_isSeen, Cond.selects RX12 yX12_isSeen yX12_isSeen, Cond.initialized RX12, Cond.code yX12_isSeen cX12_isSeen 3 (some .boolean), Cond.methodLink RX12 170 yX12_apart, Cond.static yX12_apart, Cond.code yX12_apart cX12_apart 4 (some .int), Cond.methodLink RX12 49 yX12_size, Cond.static yX12_size, Cond.code yX12_size cX12_size 1 (some .int), Cond.methodLink RX12 167 yX12_reachOf, Cond.instanceMethod yX12_reachOf, Cond.selects RX12 yX12_reachOf yX12_reachOf, Cond.code yX12_reachOf cX12_reachOf 5 (some .int), Cond.fieldLink RX12 143 "MistHeapsModel" "seeing" "I", Cond.methodLink RX12 160 yX12_looks, Cond.instanceMethod yX12_looks, Cond.selects RX12 yX12_looks yX12_looks, Cond.code yX12_looks cX12_looks 12 none, Cond.fieldLink RX12 18 "MistHeapsModel" "by" "[I", Cond.fieldLink RX12 146 "MistHeapsModel" "drifting" "I", Cond.fieldLink RX12 21 "MistHeapsModel" "truths" "[Z"]
def wsX12_seesOf_r2 : List Cond := [Cond.methodLink RX12 140 yX12_sight, Cond.instanceMethod yX12_sight, Cond.selects RX12 yX12_sight yX12_sight, Cond.code yX12_sight cX12_sight 1 (some .int)]
def wsX12_seesOf : List Cond := .code yX12_seesOf cX12_seesOf 4 (some .int) :: ((wsX12_seesOf_r1 ++ wsX12_seesOf_r2) ++ wsX120)
def wsX12_sees_r1 : List Cond := [Cond.methodLink RX12 149 yX12_isCell, Cond.static yX12_isCell, Cond.initialized RX12, Cond.code yX12_isCell cX12_isCell 1 (some .boolean), Cond.methodLink RX12 45 yX12_in, Cond.static yX12_in, Cond.code yX12_in cX12_in 3 (some .boolean), Cond.methodLink RX12 178 yX12_seesOf, Cond.instanceMethod yX12_seesOf, Cond.selects RX12 yX12_seesOf yX12_seesOf, Cond.code yX12_seesOf cX12_seesOf 4 (some .int), Cond.fieldLink RX12 9 "MistHeapsModel" "s" "[I", Cond.methodLink RX12 174 yX12_isSeen, Cond.instanceMethod yX12_isSeen, Cond.selects RX12 yX12_isSeen yX12_isSeen, Cond.code yX12_isSeen cX12_isSeen 3 (some .boolean), Cond.methodLink RX12 170 yX12_apart, Cond.static yX12_apart, Cond.code yX12_apart cX12_apart 4 (some .int), Cond.methodLink RX12 49 yX12_size, Cond.static yX12_size, Cond.code yX12_size cX12_size 1 (some .int), Cond.methodLink RX12 167 yX12_reachOf, Cond.instanceMethod yX12_reachOf]
def wsX12_sees_r2 : List Cond := [Cond.selects RX12 yX12_reachOf yX12_reachOf, Cond.code yX12_reachOf cX12_reachOf 5 (some .int), Cond.fieldLink RX12 143 "MistHeapsModel" "seeing" "I", Cond.methodLink RX12 160 yX12_looks, Cond.instanceMethod yX12_looks, Cond.selects RX12 yX12_looks yX12_looks, Cond.code yX12_looks cX12_looks 12 none, Cond.fieldLink RX12 18 "MistHeapsModel" "by" "[I", Cond.fieldLink RX12 146 "MistHeapsModel" "drifting" "I", Cond.fieldLink RX12 21 "MistHeapsModel" "truths" "[Z", Cond.methodLink RX12 140 yX12_sight, Cond.instanceMethod yX12_sight, Cond.selects RX12 yX12_sight yX12_sight, Cond.code yX12_sight cX12_sight 1 (some .int)]
def wsX12_sees : List Cond := .code yX12_sees cX12_sees 2 (some .int) :: ((wsX12_sees_r1 ++ wsX12_sees_r2) ++ wsX120)
def wsX12_where_r1 : List Cond := [Cond.fieldLink RX12 9 "MistHeapsModel" "s" "[I", Cond.constantLong RX12 181 (-9223372036854775808), Cond.methodLink RX12 178 yX12_seesOf, Cond.instanceMethod yX12_seesOf, Cond.selects RX12 yX12_seesOf yX12_seesOf, Cond.initialized RX12, Cond.code yX12_seesOf cX12_seesOf 4 (some .int), Cond.methodLink RX12 174 yX12_isSeen, Cond.instanceMethod yX12_isSeen, Cond.selects RX12 yX12_isSeen yX12_isSeen, Cond.code yX12_isSeen cX12_isSeen 3 (some .boolean), Cond.methodLink RX12 170 yX12_apart, Cond.static yX12_apart, Cond.code yX12_apart cX12_apart 4 (some .int), Cond.methodLink RX12 49 yX12_size, Cond.static yX12_size, Cond.code yX12_size cX12_size 1 (some .int), Cond.methodLink RX12 167 yX12_reachOf, Cond.instanceMethod yX12_reachOf, Cond.selects RX12 yX12_reachOf yX12_reachOf, Cond.code yX12_reachOf cX12_reachOf 5 (some .int), Cond.fieldLink RX12 143 "MistHeapsModel" "seeing" "I", Cond.methodLink RX12 160 yX12_looks, Cond.instanceMethod yX12_looks]
def wsX12_where_r2 : List Cond := [Cond.selects RX12 yX12_looks yX12_looks, Cond.code yX12_looks cX12_looks 12 none, Cond.fieldLink RX12 18 "MistHeapsModel" "by" "[I", Cond.fieldLink RX12 146 "MistHeapsModel" "drifting" "I", Cond.fieldLink RX12 21 "MistHeapsModel" "truths" "[Z", Cond.methodLink RX12 140 yX12_sight, Cond.instanceMethod yX12_sight, Cond.selects RX12 yX12_sight yX12_sight, Cond.code yX12_sight cX12_sight 1 (some .int)]
def wsX12_where : List Cond := .code yX12_where cX12_where 5 (some .long) :: ((wsX12_where_r1 ++ wsX12_where_r2) ++ wsX120)
def wsX12_isThatSide : List Cond := .code yX12_isThatSide cX12_isThatSide 3 (some .boolean) :: ([])
def wsX12_doesGo_r1 : List Cond := [Cond.fieldLink RX12 9 "MistHeapsModel" "s" "[I", Cond.methodLink RX12 174 yX12_isSeen, Cond.instanceMethod yX12_isSeen, Cond.selects RX12 yX12_isSeen yX12_isSeen, Cond.initialized RX12, Cond.code yX12_isSeen cX12_isSeen 3 (some .boolean), Cond.methodLink RX12 170 yX12_apart, Cond.static yX12_apart, Cond.code yX12_apart cX12_apart 4 (some .int), Cond.methodLink RX12 49 yX12_size, Cond.static yX12_size, Cond.code yX12_size cX12_size 1 (some .int), Cond.methodLink RX12 167 yX12_reachOf, Cond.instanceMethod yX12_reachOf, Cond.selects RX12 yX12_reachOf yX12_reachOf, Cond.code yX12_reachOf cX12_reachOf 5 (some .int), Cond.fieldLink RX12 143 "MistHeapsModel" "seeing" "I", Cond.methodLink RX12 160 yX12_looks, Cond.instanceMethod yX12_looks, Cond.selects RX12 yX12_looks yX12_looks, Cond.code yX12_looks cX12_looks 12 none, Cond.fieldLink RX12 18 "MistHeapsModel" "by" "[I", Cond.fieldLink RX12 146 "MistHeapsModel" "drifting" "I", Cond.fieldLink RX12 21 "MistHeapsModel" "truths" "[Z"]
def wsX12_doesGo_r2 : List Cond := [Cond.methodLink RX12 140 yX12_sight, Cond.instanceMethod yX12_sight, Cond.selects RX12 yX12_sight yX12_sight, Cond.code yX12_sight cX12_sight 1 (some .int), Cond.methodLink RX12 53 yX12_rowsOf, Cond.static yX12_rowsOf, Cond.code yX12_rowsOf cX12_rowsOf 1 (some .int), Cond.methodLink RX12 183 yX12_isThatSide, Cond.static yX12_isThatSide, Cond.code yX12_isThatSide cX12_isThatSide 3 (some .boolean), Cond.methodLink RX12 56 yX12_columnsOf, Cond.static yX12_columnsOf, Cond.code yX12_columnsOf cX12_columnsOf 1 (some .int), Cond.methodLink RX12 45 yX12_in, Cond.static yX12_in, Cond.code yX12_in cX12_in 3 (some .boolean)]
def wsX12_doesGo : List Cond := .code yX12_doesGo cX12_doesGo 7 (some .boolean) :: ((wsX12_doesGo_r1 ++ wsX12_doesGo_r2) ++ wsX120)
def wsX12_looksForGoings_r1 : List Cond := [Cond.fieldLink RX12 9 "MistHeapsModel" "s" "[I", Cond.fieldLink RX12 25 "MistHeapsModel" "goes" "[I", Cond.methodLink RX12 186 yX12_doesGo, Cond.instanceMethod yX12_doesGo, Cond.selects RX12 yX12_doesGo yX12_doesGo, Cond.initialized RX12, Cond.code yX12_doesGo cX12_doesGo 7 (some .boolean), Cond.methodLink RX12 174 yX12_isSeen, Cond.instanceMethod yX12_isSeen, Cond.selects RX12 yX12_isSeen yX12_isSeen, Cond.code yX12_isSeen cX12_isSeen 3 (some .boolean), Cond.methodLink RX12 170 yX12_apart, Cond.static yX12_apart, Cond.code yX12_apart cX12_apart 4 (some .int), Cond.methodLink RX12 49 yX12_size, Cond.static yX12_size, Cond.code yX12_size cX12_size 1 (some .int), Cond.methodLink RX12 167 yX12_reachOf, Cond.instanceMethod yX12_reachOf, Cond.selects RX12 yX12_reachOf yX12_reachOf, Cond.code yX12_reachOf cX12_reachOf 5 (some .int), Cond.fieldLink RX12 143 "MistHeapsModel" "seeing" "I", Cond.methodLink RX12 160 yX12_looks, Cond.instanceMethod yX12_looks]
def wsX12_looksForGoings_r2 : List Cond := [Cond.selects RX12 yX12_looks yX12_looks, Cond.code yX12_looks cX12_looks 12 none, Cond.fieldLink RX12 18 "MistHeapsModel" "by" "[I", Cond.fieldLink RX12 146 "MistHeapsModel" "drifting" "I", Cond.fieldLink RX12 21 "MistHeapsModel" "truths" "[Z", Cond.methodLink RX12 140 yX12_sight, Cond.instanceMethod yX12_sight, Cond.selects RX12 yX12_sight yX12_sight, Cond.code yX12_sight cX12_sight 1 (some .int), Cond.methodLink RX12 53 yX12_rowsOf, Cond.static yX12_rowsOf, Cond.code yX12_rowsOf cX12_rowsOf 1 (some .int), Cond.methodLink RX12 183 yX12_isThatSide, Cond.static yX12_isThatSide, Cond.code yX12_isThatSide cX12_isThatSide 3 (some .boolean), Cond.methodLink RX12 56 yX12_columnsOf, Cond.static yX12_columnsOf, Cond.code yX12_columnsOf cX12_columnsOf 1 (some .int), Cond.methodLink RX12 45 yX12_in, Cond.static yX12_in, Cond.code yX12_in cX12_in 3 (some .boolean)]
def wsX12_looksForGoings : List Cond := .code yX12_looksForGoings cX12_looksForGoings 3 none :: ((wsX12_looksForGoings_r1 ++ wsX12_looksForGoings_r2) ++ wsX120)
def wsX12_spread : List Cond := .code yX12_spread cX12_spread 4 (some .int) :: ([.fieldLink RX12 9 "MistHeapsModel" "s" "[I", .fieldLink RX12 25 "MistHeapsModel" "goes" "[I"] ++ wsX120)
def wsX12_stepsBut : List Cond := .code yX12_stepsBut cX12_stepsBut 6 (some .int) :: ([.methodLink RX12 189 yX12_spread, .instanceMethod yX12_spread, .selects RX12 yX12_spread yX12_spread, .initialized RX12, .code yX12_spread cX12_spread 4 (some .int), .fieldLink RX12 9 "MistHeapsModel" "s" "[I", .fieldLink RX12 25 "MistHeapsModel" "goes" "[I"] ++ wsX120)
def wsX12_stepsOf_r1 : List Cond := [Cond.methodLink RX12 192 yX12_looksForGoings, Cond.instanceMethod yX12_looksForGoings, Cond.selects RX12 yX12_looksForGoings yX12_looksForGoings, Cond.initialized RX12, Cond.code yX12_looksForGoings cX12_looksForGoings 3 none, Cond.fieldLink RX12 9 "MistHeapsModel" "s" "[I", Cond.fieldLink RX12 25 "MistHeapsModel" "goes" "[I", Cond.methodLink RX12 186 yX12_doesGo, Cond.instanceMethod yX12_doesGo, Cond.selects RX12 yX12_doesGo yX12_doesGo, Cond.code yX12_doesGo cX12_doesGo 7 (some .boolean), Cond.methodLink RX12 174 yX12_isSeen, Cond.instanceMethod yX12_isSeen, Cond.selects RX12 yX12_isSeen yX12_isSeen, Cond.code yX12_isSeen cX12_isSeen 3 (some .boolean), Cond.methodLink RX12 170 yX12_apart, Cond.static yX12_apart, Cond.code yX12_apart cX12_apart 4 (some .int), Cond.methodLink RX12 49 yX12_size, Cond.static yX12_size, Cond.code yX12_size cX12_size 1 (some .int), Cond.methodLink RX12 167 yX12_reachOf, Cond.instanceMethod yX12_reachOf, Cond.selects RX12 yX12_reachOf yX12_reachOf]
def wsX12_stepsOf_r2 : List Cond := [Cond.code yX12_reachOf cX12_reachOf 5 (some .int), Cond.fieldLink RX12 143 "MistHeapsModel" "seeing" "I", Cond.methodLink RX12 160 yX12_looks, Cond.instanceMethod yX12_looks, Cond.selects RX12 yX12_looks yX12_looks, Cond.code yX12_looks cX12_looks 12 none, Cond.fieldLink RX12 18 "MistHeapsModel" "by" "[I", Cond.fieldLink RX12 146 "MistHeapsModel" "drifting" "I", Cond.fieldLink RX12 21 "MistHeapsModel" "truths" "[Z", Cond.methodLink RX12 140 yX12_sight, Cond.instanceMethod yX12_sight, Cond.selects RX12 yX12_sight yX12_sight, Cond.code yX12_sight cX12_sight 1 (some .int), Cond.methodLink RX12 53 yX12_rowsOf, Cond.static yX12_rowsOf, Cond.code yX12_rowsOf cX12_rowsOf 1 (some .int), Cond.methodLink RX12 183 yX12_isThatSide, Cond.static yX12_isThatSide, Cond.code yX12_isThatSide cX12_isThatSide 3 (some .boolean), Cond.methodLink RX12 56 yX12_columnsOf, Cond.static yX12_columnsOf, Cond.code yX12_columnsOf cX12_columnsOf 1 (some .int), Cond.methodLink RX12 45 yX12_in, Cond.static yX12_in]
def wsX12_stepsOf_r3 : List Cond := [Cond.code yX12_in cX12_in 3 (some .boolean), Cond.methodLink RX12 195 yX12_stepsBut, Cond.instanceMethod yX12_stepsBut, Cond.selects RX12 yX12_stepsBut yX12_stepsBut, Cond.code yX12_stepsBut cX12_stepsBut 6 (some .int), Cond.methodLink RX12 189 yX12_spread, Cond.instanceMethod yX12_spread, Cond.selects RX12 yX12_spread yX12_spread, Cond.code yX12_spread cX12_spread 4 (some .int)]
def wsX12_stepsOf : List Cond := .code yX12_stepsOf cX12_stepsOf 3 (some .int) :: ((wsX12_stepsOf_r1 ++ (wsX12_stepsOf_r2 ++ wsX12_stepsOf_r3)) ++ wsX120)
def wsX12_steps_r1 : List Cond := [Cond.methodLink RX12 164 yX12_isHeap, Cond.instanceMethod yX12_isHeap, Cond.selects RX12 yX12_isHeap yX12_isHeap, Cond.initialized RX12, Cond.code yX12_isHeap cX12_isHeap 2 (some .boolean), Cond.fieldLink RX12 9 "MistHeapsModel" "s" "[I", Cond.methodLink RX12 45 yX12_in, Cond.static yX12_in, Cond.code yX12_in cX12_in 3 (some .boolean), Cond.methodLink RX12 198 yX12_stepsOf, Cond.instanceMethod yX12_stepsOf, Cond.selects RX12 yX12_stepsOf yX12_stepsOf, Cond.code yX12_stepsOf cX12_stepsOf 3 (some .int), Cond.methodLink RX12 192 yX12_looksForGoings, Cond.instanceMethod yX12_looksForGoings, Cond.selects RX12 yX12_looksForGoings yX12_looksForGoings, Cond.code yX12_looksForGoings cX12_looksForGoings 3 none, Cond.fieldLink RX12 25 "MistHeapsModel" "goes" "[I", Cond.methodLink RX12 186 yX12_doesGo, Cond.instanceMethod yX12_doesGo, Cond.selects RX12 yX12_doesGo yX12_doesGo, Cond.code yX12_doesGo cX12_doesGo 7 (some .boolean), Cond.methodLink RX12 174 yX12_isSeen, Cond.instanceMethod yX12_isSeen]
def wsX12_steps_r2 : List Cond := [Cond.selects RX12 yX12_isSeen yX12_isSeen, Cond.code yX12_isSeen cX12_isSeen 3 (some .boolean), Cond.methodLink RX12 170 yX12_apart, Cond.static yX12_apart, Cond.code yX12_apart cX12_apart 4 (some .int), Cond.methodLink RX12 49 yX12_size, Cond.static yX12_size, Cond.code yX12_size cX12_size 1 (some .int), Cond.methodLink RX12 167 yX12_reachOf, Cond.instanceMethod yX12_reachOf, Cond.selects RX12 yX12_reachOf yX12_reachOf, Cond.code yX12_reachOf cX12_reachOf 5 (some .int), Cond.fieldLink RX12 143 "MistHeapsModel" "seeing" "I", Cond.methodLink RX12 160 yX12_looks, Cond.instanceMethod yX12_looks, Cond.selects RX12 yX12_looks yX12_looks, Cond.code yX12_looks cX12_looks 12 none, Cond.fieldLink RX12 18 "MistHeapsModel" "by" "[I", Cond.fieldLink RX12 146 "MistHeapsModel" "drifting" "I", Cond.fieldLink RX12 21 "MistHeapsModel" "truths" "[Z", Cond.methodLink RX12 140 yX12_sight, Cond.instanceMethod yX12_sight, Cond.selects RX12 yX12_sight yX12_sight, Cond.code yX12_sight cX12_sight 1 (some .int)]
def wsX12_steps_r3 : List Cond := [Cond.methodLink RX12 53 yX12_rowsOf, Cond.static yX12_rowsOf, Cond.code yX12_rowsOf cX12_rowsOf 1 (some .int), Cond.methodLink RX12 183 yX12_isThatSide, Cond.static yX12_isThatSide, Cond.code yX12_isThatSide cX12_isThatSide 3 (some .boolean), Cond.methodLink RX12 56 yX12_columnsOf, Cond.static yX12_columnsOf, Cond.code yX12_columnsOf cX12_columnsOf 1 (some .int), Cond.methodLink RX12 195 yX12_stepsBut, Cond.instanceMethod yX12_stepsBut, Cond.selects RX12 yX12_stepsBut yX12_stepsBut, Cond.code yX12_stepsBut cX12_stepsBut 6 (some .int), Cond.methodLink RX12 189 yX12_spread, Cond.instanceMethod yX12_spread, Cond.selects RX12 yX12_spread yX12_spread, Cond.code yX12_spread cX12_spread 4 (some .int)]
def wsX12_steps : List Cond := .code yX12_steps cX12_steps 3 (some .int) :: ((wsX12_steps_r1 ++ (wsX12_steps_r2 ++ wsX12_steps_r3)) ++ wsX120)
def wsX12_via_r1 : List Cond := [Cond.fieldLink RX12 9 "MistHeapsModel" "s" "[I", Cond.fieldLink RX12 25 "MistHeapsModel" "goes" "[I", Cond.methodLink RX12 164 yX12_isHeap, Cond.instanceMethod yX12_isHeap, Cond.selects RX12 yX12_isHeap yX12_isHeap, Cond.initialized RX12, Cond.code yX12_isHeap cX12_isHeap 2 (some .boolean), Cond.methodLink RX12 45 yX12_in, Cond.static yX12_in, Cond.code yX12_in cX12_in 3 (some .boolean), Cond.methodLink RX12 198 yX12_stepsOf, Cond.instanceMethod yX12_stepsOf, Cond.selects RX12 yX12_stepsOf yX12_stepsOf, Cond.code yX12_stepsOf cX12_stepsOf 3 (some .int), Cond.methodLink RX12 192 yX12_looksForGoings, Cond.instanceMethod yX12_looksForGoings, Cond.selects RX12 yX12_looksForGoings yX12_looksForGoings, Cond.code yX12_looksForGoings cX12_looksForGoings 3 none, Cond.methodLink RX12 186 yX12_doesGo, Cond.instanceMethod yX12_doesGo, Cond.selects RX12 yX12_doesGo yX12_doesGo, Cond.code yX12_doesGo cX12_doesGo 7 (some .boolean), Cond.methodLink RX12 174 yX12_isSeen, Cond.instanceMethod yX12_isSeen]
def wsX12_via_r2 : List Cond := [Cond.selects RX12 yX12_isSeen yX12_isSeen, Cond.code yX12_isSeen cX12_isSeen 3 (some .boolean), Cond.methodLink RX12 170 yX12_apart, Cond.static yX12_apart, Cond.code yX12_apart cX12_apart 4 (some .int), Cond.methodLink RX12 49 yX12_size, Cond.static yX12_size, Cond.code yX12_size cX12_size 1 (some .int), Cond.methodLink RX12 167 yX12_reachOf, Cond.instanceMethod yX12_reachOf, Cond.selects RX12 yX12_reachOf yX12_reachOf, Cond.code yX12_reachOf cX12_reachOf 5 (some .int), Cond.fieldLink RX12 143 "MistHeapsModel" "seeing" "I", Cond.methodLink RX12 160 yX12_looks, Cond.instanceMethod yX12_looks, Cond.selects RX12 yX12_looks yX12_looks, Cond.code yX12_looks cX12_looks 12 none, Cond.fieldLink RX12 18 "MistHeapsModel" "by" "[I", Cond.fieldLink RX12 146 "MistHeapsModel" "drifting" "I", Cond.fieldLink RX12 21 "MistHeapsModel" "truths" "[Z", Cond.methodLink RX12 140 yX12_sight, Cond.instanceMethod yX12_sight, Cond.selects RX12 yX12_sight yX12_sight, Cond.code yX12_sight cX12_sight 1 (some .int)]
def wsX12_via_r3 : List Cond := [Cond.methodLink RX12 53 yX12_rowsOf, Cond.static yX12_rowsOf, Cond.code yX12_rowsOf cX12_rowsOf 1 (some .int), Cond.methodLink RX12 183 yX12_isThatSide, Cond.static yX12_isThatSide, Cond.code yX12_isThatSide cX12_isThatSide 3 (some .boolean), Cond.methodLink RX12 56 yX12_columnsOf, Cond.static yX12_columnsOf, Cond.code yX12_columnsOf cX12_columnsOf 1 (some .int), Cond.methodLink RX12 195 yX12_stepsBut, Cond.instanceMethod yX12_stepsBut, Cond.selects RX12 yX12_stepsBut yX12_stepsBut, Cond.code yX12_stepsBut cX12_stepsBut 6 (some .int), Cond.methodLink RX12 189 yX12_spread, Cond.instanceMethod yX12_spread, Cond.selects RX12 yX12_spread yX12_spread, Cond.code yX12_spread cX12_spread 4 (some .int)]
def wsX12_via : List Cond := .code yX12_via cX12_via 5 (some .int) :: ((wsX12_via_r1 ++ (wsX12_via_r2 ++ wsX12_via_r3)) ++ wsX120)
def wsX12_cuts_r1 : List Cond := [Cond.fieldLink RX12 9 "MistHeapsModel" "s" "[I", Cond.methodLink RX12 164 yX12_isHeap, Cond.instanceMethod yX12_isHeap, Cond.selects RX12 yX12_isHeap yX12_isHeap, Cond.initialized RX12, Cond.code yX12_isHeap cX12_isHeap 2 (some .boolean), Cond.methodLink RX12 45 yX12_in, Cond.static yX12_in, Cond.code yX12_in cX12_in 3 (some .boolean), Cond.methodLink RX12 198 yX12_stepsOf, Cond.instanceMethod yX12_stepsOf, Cond.selects RX12 yX12_stepsOf yX12_stepsOf, Cond.code yX12_stepsOf cX12_stepsOf 3 (some .int), Cond.methodLink RX12 192 yX12_looksForGoings, Cond.instanceMethod yX12_looksForGoings, Cond.selects RX12 yX12_looksForGoings yX12_looksForGoings, Cond.code yX12_looksForGoings cX12_looksForGoings 3 none, Cond.fieldLink RX12 25 "MistHeapsModel" "goes" "[I", Cond.methodLink RX12 186 yX12_doesGo, Cond.instanceMethod yX12_doesGo, Cond.selects RX12 yX12_doesGo yX12_doesGo, Cond.code yX12_doesGo cX12_doesGo 7 (some .boolean), Cond.methodLink RX12 174 yX12_isSeen, Cond.instanceMethod yX12_isSeen]
def wsX12_cuts_r2 : List Cond := [Cond.selects RX12 yX12_isSeen yX12_isSeen, Cond.code yX12_isSeen cX12_isSeen 3 (some .boolean), Cond.methodLink RX12 170 yX12_apart, Cond.static yX12_apart, Cond.code yX12_apart cX12_apart 4 (some .int), Cond.methodLink RX12 49 yX12_size, Cond.static yX12_size, Cond.code yX12_size cX12_size 1 (some .int), Cond.methodLink RX12 167 yX12_reachOf, Cond.instanceMethod yX12_reachOf, Cond.selects RX12 yX12_reachOf yX12_reachOf, Cond.code yX12_reachOf cX12_reachOf 5 (some .int), Cond.fieldLink RX12 143 "MistHeapsModel" "seeing" "I", Cond.methodLink RX12 160 yX12_looks, Cond.instanceMethod yX12_looks, Cond.selects RX12 yX12_looks yX12_looks, Cond.code yX12_looks cX12_looks 12 none, Cond.fieldLink RX12 18 "MistHeapsModel" "by" "[I", Cond.fieldLink RX12 146 "MistHeapsModel" "drifting" "I", Cond.fieldLink RX12 21 "MistHeapsModel" "truths" "[Z", Cond.methodLink RX12 140 yX12_sight, Cond.instanceMethod yX12_sight, Cond.selects RX12 yX12_sight yX12_sight, Cond.code yX12_sight cX12_sight 1 (some .int)]
def wsX12_cuts_r3 : List Cond := [Cond.methodLink RX12 53 yX12_rowsOf, Cond.static yX12_rowsOf, Cond.code yX12_rowsOf cX12_rowsOf 1 (some .int), Cond.methodLink RX12 183 yX12_isThatSide, Cond.static yX12_isThatSide, Cond.code yX12_isThatSide cX12_isThatSide 3 (some .boolean), Cond.methodLink RX12 56 yX12_columnsOf, Cond.static yX12_columnsOf, Cond.code yX12_columnsOf cX12_columnsOf 1 (some .int), Cond.methodLink RX12 195 yX12_stepsBut, Cond.instanceMethod yX12_stepsBut, Cond.selects RX12 yX12_stepsBut yX12_stepsBut, Cond.code yX12_stepsBut cX12_stepsBut 6 (some .int), Cond.methodLink RX12 189 yX12_spread, Cond.instanceMethod yX12_spread, Cond.selects RX12 yX12_spread yX12_spread, Cond.code yX12_spread cX12_spread 4 (some .int)]
def wsX12_cuts : List Cond := .code yX12_cuts cX12_cuts 5 (some .int) :: ((wsX12_cuts_r1 ++ (wsX12_cuts_r2 ++ wsX12_cuts_r3)) ++ wsX120)
def wsX12_bears_r1 : List Cond := [Cond.fieldLink RX12 9 "MistHeapsModel" "s" "[I", Cond.methodLink RX12 164 yX12_isHeap, Cond.instanceMethod yX12_isHeap, Cond.selects RX12 yX12_isHeap yX12_isHeap, Cond.initialized RX12, Cond.code yX12_isHeap cX12_isHeap 2 (some .boolean), Cond.methodLink RX12 45 yX12_in, Cond.static yX12_in, Cond.code yX12_in cX12_in 3 (some .boolean), Cond.methodLink RX12 198 yX12_stepsOf, Cond.instanceMethod yX12_stepsOf, Cond.selects RX12 yX12_stepsOf yX12_stepsOf, Cond.code yX12_stepsOf cX12_stepsOf 3 (some .int), Cond.methodLink RX12 192 yX12_looksForGoings, Cond.instanceMethod yX12_looksForGoings, Cond.selects RX12 yX12_looksForGoings yX12_looksForGoings, Cond.code yX12_looksForGoings cX12_looksForGoings 3 none, Cond.fieldLink RX12 25 "MistHeapsModel" "goes" "[I", Cond.methodLink RX12 186 yX12_doesGo, Cond.instanceMethod yX12_doesGo, Cond.selects RX12 yX12_doesGo yX12_doesGo, Cond.code yX12_doesGo cX12_doesGo 7 (some .boolean), Cond.methodLink RX12 174 yX12_isSeen, Cond.instanceMethod yX12_isSeen]
def wsX12_bears_r2 : List Cond := [Cond.selects RX12 yX12_isSeen yX12_isSeen, Cond.code yX12_isSeen cX12_isSeen 3 (some .boolean), Cond.methodLink RX12 170 yX12_apart, Cond.static yX12_apart, Cond.code yX12_apart cX12_apart 4 (some .int), Cond.methodLink RX12 49 yX12_size, Cond.static yX12_size, Cond.code yX12_size cX12_size 1 (some .int), Cond.methodLink RX12 167 yX12_reachOf, Cond.instanceMethod yX12_reachOf, Cond.selects RX12 yX12_reachOf yX12_reachOf, Cond.code yX12_reachOf cX12_reachOf 5 (some .int), Cond.fieldLink RX12 143 "MistHeapsModel" "seeing" "I", Cond.methodLink RX12 160 yX12_looks, Cond.instanceMethod yX12_looks, Cond.selects RX12 yX12_looks yX12_looks, Cond.code yX12_looks cX12_looks 12 none, Cond.fieldLink RX12 18 "MistHeapsModel" "by" "[I", Cond.fieldLink RX12 146 "MistHeapsModel" "drifting" "I", Cond.fieldLink RX12 21 "MistHeapsModel" "truths" "[Z", Cond.methodLink RX12 140 yX12_sight, Cond.instanceMethod yX12_sight, Cond.selects RX12 yX12_sight yX12_sight, Cond.code yX12_sight cX12_sight 1 (some .int)]
def wsX12_bears_r3 : List Cond := [Cond.methodLink RX12 53 yX12_rowsOf, Cond.static yX12_rowsOf, Cond.code yX12_rowsOf cX12_rowsOf 1 (some .int), Cond.methodLink RX12 183 yX12_isThatSide, Cond.static yX12_isThatSide, Cond.code yX12_isThatSide cX12_isThatSide 3 (some .boolean), Cond.methodLink RX12 56 yX12_columnsOf, Cond.static yX12_columnsOf, Cond.code yX12_columnsOf cX12_columnsOf 1 (some .int), Cond.methodLink RX12 195 yX12_stepsBut, Cond.instanceMethod yX12_stepsBut, Cond.selects RX12 yX12_stepsBut yX12_stepsBut, Cond.code yX12_stepsBut cX12_stepsBut 6 (some .int), Cond.methodLink RX12 189 yX12_spread, Cond.instanceMethod yX12_spread, Cond.selects RX12 yX12_spread yX12_spread, Cond.code yX12_spread cX12_spread 4 (some .int)]
def wsX12_bears : List Cond := .code yX12_bears cX12_bears 6 (some .int) :: ((wsX12_bears_r1 ++ (wsX12_bears_r2 ++ wsX12_bears_r3)) ++ wsX120)
def wsX12_build_r1 : List Cond := [Cond.fieldLink RX12 9 "MistHeapsModel" "s" "[I", Cond.methodLink RX12 164 yX12_isHeap, Cond.instanceMethod yX12_isHeap, Cond.selects RX12 yX12_isHeap yX12_isHeap, Cond.initialized RX12, Cond.code yX12_isHeap cX12_isHeap 2 (some .boolean), Cond.methodLink RX12 45 yX12_in, Cond.static yX12_in, Cond.code yX12_in cX12_in 3 (some .boolean), Cond.methodLink RX12 198 yX12_stepsOf, Cond.instanceMethod yX12_stepsOf, Cond.selects RX12 yX12_stepsOf yX12_stepsOf, Cond.code yX12_stepsOf cX12_stepsOf 3 (some .int), Cond.methodLink RX12 192 yX12_looksForGoings, Cond.instanceMethod yX12_looksForGoings, Cond.selects RX12 yX12_looksForGoings yX12_looksForGoings, Cond.code yX12_looksForGoings cX12_looksForGoings 3 none, Cond.fieldLink RX12 25 "MistHeapsModel" "goes" "[I", Cond.methodLink RX12 186 yX12_doesGo, Cond.instanceMethod yX12_doesGo, Cond.selects RX12 yX12_doesGo yX12_doesGo, Cond.code yX12_doesGo cX12_doesGo 7 (some .boolean), Cond.methodLink RX12 174 yX12_isSeen, Cond.instanceMethod yX12_isSeen]
def wsX12_build_r2 : List Cond := [Cond.selects RX12 yX12_isSeen yX12_isSeen, Cond.code yX12_isSeen cX12_isSeen 3 (some .boolean), Cond.methodLink RX12 170 yX12_apart, Cond.static yX12_apart, Cond.code yX12_apart cX12_apart 4 (some .int), Cond.methodLink RX12 49 yX12_size, Cond.static yX12_size, Cond.code yX12_size cX12_size 1 (some .int), Cond.methodLink RX12 167 yX12_reachOf, Cond.instanceMethod yX12_reachOf, Cond.selects RX12 yX12_reachOf yX12_reachOf, Cond.code yX12_reachOf cX12_reachOf 5 (some .int), Cond.fieldLink RX12 143 "MistHeapsModel" "seeing" "I", Cond.methodLink RX12 160 yX12_looks, Cond.instanceMethod yX12_looks, Cond.selects RX12 yX12_looks yX12_looks, Cond.code yX12_looks cX12_looks 12 none, Cond.fieldLink RX12 18 "MistHeapsModel" "by" "[I", Cond.fieldLink RX12 146 "MistHeapsModel" "drifting" "I", Cond.fieldLink RX12 21 "MistHeapsModel" "truths" "[Z", Cond.methodLink RX12 140 yX12_sight, Cond.instanceMethod yX12_sight, Cond.selects RX12 yX12_sight yX12_sight, Cond.code yX12_sight cX12_sight 1 (some .int)]
def wsX12_build_r3 : List Cond := [Cond.methodLink RX12 53 yX12_rowsOf, Cond.static yX12_rowsOf, Cond.code yX12_rowsOf cX12_rowsOf 1 (some .int), Cond.methodLink RX12 183 yX12_isThatSide, Cond.static yX12_isThatSide, Cond.code yX12_isThatSide cX12_isThatSide 3 (some .boolean), Cond.methodLink RX12 56 yX12_columnsOf, Cond.static yX12_columnsOf, Cond.code yX12_columnsOf cX12_columnsOf 1 (some .int), Cond.methodLink RX12 195 yX12_stepsBut, Cond.instanceMethod yX12_stepsBut, Cond.selects RX12 yX12_stepsBut yX12_stepsBut, Cond.code yX12_stepsBut cX12_stepsBut 6 (some .int), Cond.methodLink RX12 189 yX12_spread, Cond.instanceMethod yX12_spread, Cond.selects RX12 yX12_spread yX12_spread, Cond.code yX12_spread cX12_spread 4 (some .int), Cond.methodLink RX12 153 yX12_heapOn, Cond.instanceMethod yX12_heapOn, Cond.selects RX12 yX12_heapOn yX12_heapOn, Cond.code yX12_heapOn cX12_heapOn 4 (some .int), Cond.methodLink RX12 156 yX12_puts, Cond.instanceMethod yX12_puts, Cond.selects RX12 yX12_puts yX12_puts]
def wsX12_build_r4 : List Cond := [Cond.code yX12_puts cX12_puts 5 (some .int)]
def wsX12_build : List Cond := .code yX12_build cX12_build 9 (some .int) :: ((wsX12_build_r1 ++ (wsX12_build_r2 ++ (wsX12_build_r3 ++ wsX12_build_r4))) ++ wsX120)
def wsX12_driftOf : List Cond := .code yX12_driftOf cX12_driftOf 2 (some .int) :: ([.fieldLink RX12 146 "MistHeapsModel" "drifting" "I", .methodLink RX12 160 yX12_looks, .instanceMethod yX12_looks, .selects RX12 yX12_looks yX12_looks, .initialized RX12, .code yX12_looks cX12_looks 12 none, .fieldLink RX12 18 "MistHeapsModel" "by" "[I", .fieldLink RX12 9 "MistHeapsModel" "s" "[I", .fieldLink RX12 143 "MistHeapsModel" "seeing" "I", .fieldLink RX12 21 "MistHeapsModel" "truths" "[Z"] ++ wsX120)
def wsX12_drift : List Cond := .code yX12_drift cX12_drift 2 (some .int) :: ([.methodLink RX12 149 yX12_isCell, .static yX12_isCell, .initialized RX12, .code yX12_isCell cX12_isCell 1 (some .boolean), .methodLink RX12 45 yX12_in, .static yX12_in, .code yX12_in cX12_in 3 (some .boolean), .methodLink RX12 201 yX12_driftOf, .instanceMethod yX12_driftOf, .selects RX12 yX12_driftOf yX12_driftOf, .code yX12_driftOf cX12_driftOf 2 (some .int), .fieldLink RX12 146 "MistHeapsModel" "drifting" "I", .methodLink RX12 160 yX12_looks, .instanceMethod yX12_looks, .selects RX12 yX12_looks yX12_looks, .code yX12_looks cX12_looks 12 none, .fieldLink RX12 18 "MistHeapsModel" "by" "[I", .fieldLink RX12 9 "MistHeapsModel" "s" "[I", .fieldLink RX12 143 "MistHeapsModel" "seeing" "I", .fieldLink RX12 21 "MistHeapsModel" "truths" "[Z"] ++ wsX120)
def wsX12_looksForDrifts : List Cond := .code yX12_looksForDrifts cX12_looksForDrifts 2 none :: ([.fieldLink RX12 35 "MistHeapsModel" "drifts" "[I", .methodLink RX12 201 yX12_driftOf, .instanceMethod yX12_driftOf, .selects RX12 yX12_driftOf yX12_driftOf, .initialized RX12, .code yX12_driftOf cX12_driftOf 2 (some .int), .fieldLink RX12 146 "MistHeapsModel" "drifting" "I", .methodLink RX12 160 yX12_looks, .instanceMethod yX12_looks, .selects RX12 yX12_looks yX12_looks, .code yX12_looks cX12_looks 12 none, .fieldLink RX12 18 "MistHeapsModel" "by" "[I", .fieldLink RX12 9 "MistHeapsModel" "s" "[I", .fieldLink RX12 143 "MistHeapsModel" "seeing" "I", .fieldLink RX12 21 "MistHeapsModel" "truths" "[Z"] ++ wsX120)
def wsX12_begins : List Cond := .code yX12_begins cX12_begins 3 none :: ([.fieldLink RX12 28 "MistHeapsModel" "often" "[J"] ++ wsX120)
def wsX12_goesOn : List Cond := .code yX12_goesOn cX12_goesOn 4 none :: ([.fieldLink RX12 32 "MistHeapsModel" "then" "[J", .fieldLink RX12 28 "MistHeapsModel" "often" "[J", .fieldLink RX12 9 "MistHeapsModel" "s" "[I", .constantLong RX12 204 (20), .fieldLink RX12 35 "MistHeapsModel" "drifts" "[I", .methodLink RX12 206 yX12_nextTo, .static yX12_nextTo, .initialized RX12, .code yX12_nextTo cX12_nextTo 4 (some .int), .methodLink RX12 53 yX12_rowsOf, .static yX12_rowsOf, .code yX12_rowsOf cX12_rowsOf 1 (some .int), .methodLink RX12 56 yX12_columnsOf, .static yX12_columnsOf, .code yX12_columnsOf cX12_columnsOf 1 (some .int), .methodLink RX12 45 yX12_in, .static yX12_in, .code yX12_in cX12_in 3 (some .boolean)] ++ wsX120)
def wsX12_over : List Cond := .code yX12_over cX12_over 4 (some .long) :: ([.fieldLink RX12 9 "MistHeapsModel" "s" "[I", .fieldLink RX12 28 "MistHeapsModel" "often" "[J"] ++ wsX120)
def wsX12_seen_r1 : List Cond := [Cond.fieldLink RX12 9 "MistHeapsModel" "s" "[I", Cond.fieldLink RX12 28 "MistHeapsModel" "often" "[J", Cond.methodLink RX12 174 yX12_isSeen, Cond.instanceMethod yX12_isSeen, Cond.selects RX12 yX12_isSeen yX12_isSeen, Cond.initialized RX12, Cond.code yX12_isSeen cX12_isSeen 3 (some .boolean), Cond.methodLink RX12 170 yX12_apart, Cond.static yX12_apart, Cond.code yX12_apart cX12_apart 4 (some .int), Cond.methodLink RX12 49 yX12_size, Cond.static yX12_size, Cond.code yX12_size cX12_size 1 (some .int), Cond.methodLink RX12 167 yX12_reachOf, Cond.instanceMethod yX12_reachOf, Cond.selects RX12 yX12_reachOf yX12_reachOf, Cond.code yX12_reachOf cX12_reachOf 5 (some .int), Cond.fieldLink RX12 143 "MistHeapsModel" "seeing" "I", Cond.methodLink RX12 160 yX12_looks, Cond.instanceMethod yX12_looks, Cond.selects RX12 yX12_looks yX12_looks, Cond.code yX12_looks cX12_looks 12 none, Cond.fieldLink RX12 18 "MistHeapsModel" "by" "[I", Cond.fieldLink RX12 146 "MistHeapsModel" "drifting" "I"]
def wsX12_seen_r2 : List Cond := [Cond.fieldLink RX12 21 "MistHeapsModel" "truths" "[Z", Cond.methodLink RX12 140 yX12_sight, Cond.instanceMethod yX12_sight, Cond.selects RX12 yX12_sight yX12_sight, Cond.code yX12_sight cX12_sight 1 (some .int)]
def wsX12_seen : List Cond := .code yX12_seen cX12_seen 5 (some .long) :: ((wsX12_seen_r1 ++ wsX12_seen_r2) ++ wsX120)
def wsX12_lowest : List Cond := .code yX12_lowest cX12_lowest 11 (some .long) :: ([])
def wsX12_twenties : List Cond := .code yX12_twenties cX12_twenties 4 (some .long) :: ([.constantLong RX12 204 (20)])
def wsX12_walk : List Cond := .code yX12_walk cX12_walk 2 (some .int) :: ([.fieldLink RX12 9 "MistHeapsModel" "s" "[I", .methodLink RX12 45 yX12_in, .static yX12_in, .initialized RX12, .code yX12_in cX12_in 3 (some .boolean)] ++ wsX120)
def wsX12_odds_r1 : List Cond := [Cond.constantLong RX12 181 (-9223372036854775808), Cond.fieldLink RX12 9 "MistHeapsModel" "s" "[I", Cond.fieldLink RX12 28 "MistHeapsModel" "often" "[J", Cond.methodLink RX12 164 yX12_isHeap, Cond.instanceMethod yX12_isHeap, Cond.selects RX12 yX12_isHeap yX12_isHeap, Cond.initialized RX12, Cond.code yX12_isHeap cX12_isHeap 2 (some .boolean), Cond.methodLink RX12 45 yX12_in, Cond.static yX12_in, Cond.code yX12_in cX12_in 3 (some .boolean), Cond.methodLink RX12 149 yX12_isCell, Cond.static yX12_isCell, Cond.code yX12_isCell cX12_isCell 1 (some .boolean), Cond.methodLink RX12 209 yX12_looksForDrifts, Cond.instanceMethod yX12_looksForDrifts, Cond.selects RX12 yX12_looksForDrifts yX12_looksForDrifts, Cond.code yX12_looksForDrifts cX12_looksForDrifts 2 none, Cond.fieldLink RX12 35 "MistHeapsModel" "drifts" "[I", Cond.methodLink RX12 201 yX12_driftOf, Cond.instanceMethod yX12_driftOf, Cond.selects RX12 yX12_driftOf yX12_driftOf, Cond.code yX12_driftOf cX12_driftOf 2 (some .int), Cond.fieldLink RX12 146 "MistHeapsModel" "drifting" "I"]
def wsX12_odds_r2 : List Cond := [Cond.methodLink RX12 160 yX12_looks, Cond.instanceMethod yX12_looks, Cond.selects RX12 yX12_looks yX12_looks, Cond.code yX12_looks cX12_looks 12 none, Cond.fieldLink RX12 18 "MistHeapsModel" "by" "[I", Cond.fieldLink RX12 143 "MistHeapsModel" "seeing" "I", Cond.fieldLink RX12 21 "MistHeapsModel" "truths" "[Z", Cond.methodLink RX12 212 yX12_begins, Cond.instanceMethod yX12_begins, Cond.selects RX12 yX12_begins yX12_begins, Cond.code yX12_begins cX12_begins 3 none, Cond.methodLink RX12 215 yX12_goesOn, Cond.instanceMethod yX12_goesOn, Cond.selects RX12 yX12_goesOn yX12_goesOn, Cond.code yX12_goesOn cX12_goesOn 4 none, Cond.fieldLink RX12 32 "MistHeapsModel" "then" "[J", Cond.constantLong RX12 204 (20), Cond.methodLink RX12 206 yX12_nextTo, Cond.static yX12_nextTo, Cond.code yX12_nextTo cX12_nextTo 4 (some .int), Cond.methodLink RX12 53 yX12_rowsOf, Cond.static yX12_rowsOf, Cond.code yX12_rowsOf cX12_rowsOf 1 (some .int), Cond.methodLink RX12 56 yX12_columnsOf]
def wsX12_odds_r3 : List Cond := [Cond.static yX12_columnsOf, Cond.code yX12_columnsOf cX12_columnsOf 1 (some .int), Cond.methodLink RX12 218 yX12_seen, Cond.instanceMethod yX12_seen, Cond.selects RX12 yX12_seen yX12_seen, Cond.code yX12_seen cX12_seen 5 (some .long), Cond.methodLink RX12 174 yX12_isSeen, Cond.instanceMethod yX12_isSeen, Cond.selects RX12 yX12_isSeen yX12_isSeen, Cond.code yX12_isSeen cX12_isSeen 3 (some .boolean), Cond.methodLink RX12 170 yX12_apart, Cond.static yX12_apart, Cond.code yX12_apart cX12_apart 4 (some .int), Cond.methodLink RX12 49 yX12_size, Cond.static yX12_size, Cond.code yX12_size cX12_size 1 (some .int), Cond.methodLink RX12 167 yX12_reachOf, Cond.instanceMethod yX12_reachOf, Cond.selects RX12 yX12_reachOf yX12_reachOf, Cond.code yX12_reachOf cX12_reachOf 5 (some .int), Cond.methodLink RX12 140 yX12_sight, Cond.instanceMethod yX12_sight, Cond.selects RX12 yX12_sight yX12_sight, Cond.code yX12_sight cX12_sight 1 (some .int)]
def wsX12_odds_r4 : List Cond := [Cond.methodLink RX12 222 yX12_over, Cond.instanceMethod yX12_over, Cond.selects RX12 yX12_over yX12_over, Cond.code yX12_over cX12_over 4 (some .long), Cond.methodLink RX12 226 yX12_twenties, Cond.static yX12_twenties, Cond.code yX12_twenties cX12_twenties 4 (some .long), Cond.methodLink RX12 229 yX12_lowest, Cond.static yX12_lowest, Cond.code yX12_lowest cX12_lowest 11 (some .long)]
def wsX12_odds : List Cond := .code yX12_odds cX12_odds 7 (some .long) :: ((wsX12_odds_r1 ++ (wsX12_odds_r2 ++ (wsX12_odds_r3 ++ wsX12_odds_r4))) ++ wsX120)
def wsX12_goesBy_r1 : List Cond := [Cond.methodLink RX12 212 yX12_begins, Cond.instanceMethod yX12_begins, Cond.selects RX12 yX12_begins yX12_begins, Cond.initialized RX12, Cond.code yX12_begins cX12_begins 3 none, Cond.fieldLink RX12 28 "MistHeapsModel" "often" "[J", Cond.methodLink RX12 215 yX12_goesOn, Cond.instanceMethod yX12_goesOn, Cond.selects RX12 yX12_goesOn yX12_goesOn, Cond.code yX12_goesOn cX12_goesOn 4 none, Cond.fieldLink RX12 32 "MistHeapsModel" "then" "[J", Cond.fieldLink RX12 9 "MistHeapsModel" "s" "[I", Cond.constantLong RX12 204 (20), Cond.fieldLink RX12 35 "MistHeapsModel" "drifts" "[I", Cond.methodLink RX12 206 yX12_nextTo, Cond.static yX12_nextTo, Cond.code yX12_nextTo cX12_nextTo 4 (some .int), Cond.methodLink RX12 53 yX12_rowsOf, Cond.static yX12_rowsOf, Cond.code yX12_rowsOf cX12_rowsOf 1 (some .int), Cond.methodLink RX12 56 yX12_columnsOf, Cond.static yX12_columnsOf, Cond.code yX12_columnsOf cX12_columnsOf 1 (some .int), Cond.methodLink RX12 45 yX12_in]
def wsX12_goesBy_r2 : List Cond := [Cond.static yX12_in, Cond.code yX12_in cX12_in 3 (some .boolean)]
def wsX12_goesBy : List Cond := .code yX12_goesBy cX12_goesBy 6 none :: ((wsX12_goesBy_r1 ++ wsX12_goesBy_r2) ++ wsX120)
def wsX12_bestRow_r1 : List Cond := [Cond.fieldLink RX12 28 "MistHeapsModel" "often" "[J", Cond.fieldLink RX12 236 "MistHeapsModel" "bestOften" "J", Cond.methodLink RX12 209 yX12_looksForDrifts, Cond.instanceMethod yX12_looksForDrifts, Cond.selects RX12 yX12_looksForDrifts yX12_looksForDrifts, Cond.initialized RX12, Cond.code yX12_looksForDrifts cX12_looksForDrifts 2 none, Cond.fieldLink RX12 35 "MistHeapsModel" "drifts" "[I", Cond.methodLink RX12 201 yX12_driftOf, Cond.instanceMethod yX12_driftOf, Cond.selects RX12 yX12_driftOf yX12_driftOf, Cond.code yX12_driftOf cX12_driftOf 2 (some .int), Cond.fieldLink RX12 146 "MistHeapsModel" "drifting" "I", Cond.methodLink RX12 160 yX12_looks, Cond.instanceMethod yX12_looks, Cond.selects RX12 yX12_looks yX12_looks, Cond.code yX12_looks cX12_looks 12 none, Cond.fieldLink RX12 18 "MistHeapsModel" "by" "[I", Cond.fieldLink RX12 9 "MistHeapsModel" "s" "[I", Cond.fieldLink RX12 143 "MistHeapsModel" "seeing" "I", Cond.fieldLink RX12 21 "MistHeapsModel" "truths" "[Z", Cond.methodLink RX12 233 yX12_goesBy, Cond.instanceMethod yX12_goesBy, Cond.selects RX12 yX12_goesBy yX12_goesBy]
def wsX12_bestRow_r2 : List Cond := [Cond.code yX12_goesBy cX12_goesBy 6 none, Cond.methodLink RX12 212 yX12_begins, Cond.instanceMethod yX12_begins, Cond.selects RX12 yX12_begins yX12_begins, Cond.code yX12_begins cX12_begins 3 none, Cond.methodLink RX12 215 yX12_goesOn, Cond.instanceMethod yX12_goesOn, Cond.selects RX12 yX12_goesOn yX12_goesOn, Cond.code yX12_goesOn cX12_goesOn 4 none, Cond.fieldLink RX12 32 "MistHeapsModel" "then" "[J", Cond.constantLong RX12 204 (20), Cond.methodLink RX12 206 yX12_nextTo, Cond.static yX12_nextTo, Cond.code yX12_nextTo cX12_nextTo 4 (some .int), Cond.methodLink RX12 53 yX12_rowsOf, Cond.static yX12_rowsOf, Cond.code yX12_rowsOf cX12_rowsOf 1 (some .int), Cond.methodLink RX12 56 yX12_columnsOf, Cond.static yX12_columnsOf, Cond.code yX12_columnsOf cX12_columnsOf 1 (some .int), Cond.methodLink RX12 45 yX12_in, Cond.static yX12_in, Cond.code yX12_in cX12_in 3 (some .boolean), Cond.methodLink RX12 222 yX12_over]
def wsX12_bestRow_r3 : List Cond := [Cond.instanceMethod yX12_over, Cond.selects RX12 yX12_over yX12_over, Cond.code yX12_over cX12_over 4 (some .long)]
def wsX12_bestRow : List Cond := .code yX12_bestRow cX12_bestRow 10 (some .int) :: ((wsX12_bestRow_r1 ++ (wsX12_bestRow_r2 ++ wsX12_bestRow_r3)) ++ wsX120)
def wsX12_wayOf : List Cond := .code yX12_wayOf cX12_wayOf 4 (some .int) :: ([])
def wsX12_best_r1 : List Cond := [Cond.methodLink RX12 149 yX12_isCell, Cond.static yX12_isCell, Cond.initialized RX12, Cond.code yX12_isCell cX12_isCell 1 (some .boolean), Cond.methodLink RX12 45 yX12_in, Cond.static yX12_in, Cond.code yX12_in cX12_in 3 (some .boolean), Cond.methodLink RX12 240 yX12_bestRow, Cond.instanceMethod yX12_bestRow, Cond.selects RX12 yX12_bestRow yX12_bestRow, Cond.code yX12_bestRow cX12_bestRow 10 (some .int), Cond.fieldLink RX12 28 "MistHeapsModel" "often" "[J", Cond.fieldLink RX12 236 "MistHeapsModel" "bestOften" "J", Cond.methodLink RX12 209 yX12_looksForDrifts, Cond.instanceMethod yX12_looksForDrifts, Cond.selects RX12 yX12_looksForDrifts yX12_looksForDrifts, Cond.code yX12_looksForDrifts cX12_looksForDrifts 2 none, Cond.fieldLink RX12 35 "MistHeapsModel" "drifts" "[I", Cond.methodLink RX12 201 yX12_driftOf, Cond.instanceMethod yX12_driftOf, Cond.selects RX12 yX12_driftOf yX12_driftOf, Cond.code yX12_driftOf cX12_driftOf 2 (some .int), Cond.fieldLink RX12 146 "MistHeapsModel" "drifting" "I", Cond.methodLink RX12 160 yX12_looks]
def wsX12_best_r2 : List Cond := [Cond.instanceMethod yX12_looks, Cond.selects RX12 yX12_looks yX12_looks, Cond.code yX12_looks cX12_looks 12 none, Cond.fieldLink RX12 18 "MistHeapsModel" "by" "[I", Cond.fieldLink RX12 9 "MistHeapsModel" "s" "[I", Cond.fieldLink RX12 143 "MistHeapsModel" "seeing" "I", Cond.fieldLink RX12 21 "MistHeapsModel" "truths" "[Z", Cond.methodLink RX12 233 yX12_goesBy, Cond.instanceMethod yX12_goesBy, Cond.selects RX12 yX12_goesBy yX12_goesBy, Cond.code yX12_goesBy cX12_goesBy 6 none, Cond.methodLink RX12 212 yX12_begins, Cond.instanceMethod yX12_begins, Cond.selects RX12 yX12_begins yX12_begins, Cond.code yX12_begins cX12_begins 3 none, Cond.methodLink RX12 215 yX12_goesOn, Cond.instanceMethod yX12_goesOn, Cond.selects RX12 yX12_goesOn yX12_goesOn, Cond.code yX12_goesOn cX12_goesOn 4 none, Cond.fieldLink RX12 32 "MistHeapsModel" "then" "[J", Cond.constantLong RX12 204 (20), Cond.methodLink RX12 206 yX12_nextTo, Cond.static yX12_nextTo, Cond.code yX12_nextTo cX12_nextTo 4 (some .int)]
def wsX12_best_r3 : List Cond := [Cond.methodLink RX12 53 yX12_rowsOf, Cond.static yX12_rowsOf, Cond.code yX12_rowsOf cX12_rowsOf 1 (some .int), Cond.methodLink RX12 56 yX12_columnsOf, Cond.static yX12_columnsOf, Cond.code yX12_columnsOf cX12_columnsOf 1 (some .int), Cond.methodLink RX12 222 yX12_over, Cond.instanceMethod yX12_over, Cond.selects RX12 yX12_over yX12_over, Cond.code yX12_over cX12_over 4 (some .long), Cond.methodLink RX12 243 yX12_wayOf, Cond.static yX12_wayOf, Cond.code yX12_wayOf cX12_wayOf 4 (some .int)]
def wsX12_best : List Cond := .code yX12_best cX12_best 5 (some .int) :: ((wsX12_best_r1 ++ (wsX12_best_r2 ++ wsX12_best_r3)) ++ wsX120)
def wsX12_bestOdds_r1 : List Cond := [Cond.constantLong RX12 181 (-9223372036854775808), Cond.fieldLink RX12 236 "MistHeapsModel" "bestOften" "J", Cond.methodLink RX12 149 yX12_isCell, Cond.static yX12_isCell, Cond.initialized RX12, Cond.code yX12_isCell cX12_isCell 1 (some .boolean), Cond.methodLink RX12 45 yX12_in, Cond.static yX12_in, Cond.code yX12_in cX12_in 3 (some .boolean), Cond.methodLink RX12 240 yX12_bestRow, Cond.instanceMethod yX12_bestRow, Cond.selects RX12 yX12_bestRow yX12_bestRow, Cond.code yX12_bestRow cX12_bestRow 10 (some .int), Cond.fieldLink RX12 28 "MistHeapsModel" "often" "[J", Cond.methodLink RX12 209 yX12_looksForDrifts, Cond.instanceMethod yX12_looksForDrifts, Cond.selects RX12 yX12_looksForDrifts yX12_looksForDrifts, Cond.code yX12_looksForDrifts cX12_looksForDrifts 2 none, Cond.fieldLink RX12 35 "MistHeapsModel" "drifts" "[I", Cond.methodLink RX12 201 yX12_driftOf, Cond.instanceMethod yX12_driftOf, Cond.selects RX12 yX12_driftOf yX12_driftOf, Cond.code yX12_driftOf cX12_driftOf 2 (some .int), Cond.fieldLink RX12 146 "MistHeapsModel" "drifting" "I"]
def wsX12_bestOdds_r2 : List Cond := [Cond.methodLink RX12 160 yX12_looks, Cond.instanceMethod yX12_looks, Cond.selects RX12 yX12_looks yX12_looks, Cond.code yX12_looks cX12_looks 12 none, Cond.fieldLink RX12 18 "MistHeapsModel" "by" "[I", Cond.fieldLink RX12 9 "MistHeapsModel" "s" "[I", Cond.fieldLink RX12 143 "MistHeapsModel" "seeing" "I", Cond.fieldLink RX12 21 "MistHeapsModel" "truths" "[Z", Cond.methodLink RX12 233 yX12_goesBy, Cond.instanceMethod yX12_goesBy, Cond.selects RX12 yX12_goesBy yX12_goesBy, Cond.code yX12_goesBy cX12_goesBy 6 none, Cond.methodLink RX12 212 yX12_begins, Cond.instanceMethod yX12_begins, Cond.selects RX12 yX12_begins yX12_begins, Cond.code yX12_begins cX12_begins 3 none, Cond.methodLink RX12 215 yX12_goesOn, Cond.instanceMethod yX12_goesOn, Cond.selects RX12 yX12_goesOn yX12_goesOn, Cond.code yX12_goesOn cX12_goesOn 4 none, Cond.fieldLink RX12 32 "MistHeapsModel" "then" "[J", Cond.constantLong RX12 204 (20), Cond.methodLink RX12 206 yX12_nextTo, Cond.static yX12_nextTo]
def wsX12_bestOdds_r3 : List Cond := [Cond.code yX12_nextTo cX12_nextTo 4 (some .int), Cond.methodLink RX12 53 yX12_rowsOf, Cond.static yX12_rowsOf, Cond.code yX12_rowsOf cX12_rowsOf 1 (some .int), Cond.methodLink RX12 56 yX12_columnsOf, Cond.static yX12_columnsOf, Cond.code yX12_columnsOf cX12_columnsOf 1 (some .int), Cond.methodLink RX12 222 yX12_over, Cond.instanceMethod yX12_over, Cond.selects RX12 yX12_over yX12_over, Cond.code yX12_over cX12_over 4 (some .long), Cond.methodLink RX12 226 yX12_twenties, Cond.static yX12_twenties, Cond.code yX12_twenties cX12_twenties 4 (some .long), Cond.methodLink RX12 229 yX12_lowest, Cond.static yX12_lowest, Cond.code yX12_lowest cX12_lowest 11 (some .long)]
def wsX12_bestOdds : List Cond := .code yX12_bestOdds cX12_bestOdds 6 (some .long) :: ((wsX12_bestOdds_r1 ++ (wsX12_bestOdds_r2 ++ wsX12_bestOdds_r3)) ++ wsX120)
def wsX12_safe_r1 : List Cond := [Cond.methodLink RX12 149 yX12_isCell, Cond.static yX12_isCell, Cond.initialized RX12, Cond.code yX12_isCell cX12_isCell 1 (some .boolean), Cond.methodLink RX12 45 yX12_in, Cond.static yX12_in, Cond.code yX12_in cX12_in 3 (some .boolean), Cond.methodLink RX12 240 yX12_bestRow, Cond.instanceMethod yX12_bestRow, Cond.selects RX12 yX12_bestRow yX12_bestRow, Cond.code yX12_bestRow cX12_bestRow 10 (some .int), Cond.fieldLink RX12 28 "MistHeapsModel" "often" "[J", Cond.fieldLink RX12 236 "MistHeapsModel" "bestOften" "J", Cond.methodLink RX12 209 yX12_looksForDrifts, Cond.instanceMethod yX12_looksForDrifts, Cond.selects RX12 yX12_looksForDrifts yX12_looksForDrifts, Cond.code yX12_looksForDrifts cX12_looksForDrifts 2 none, Cond.fieldLink RX12 35 "MistHeapsModel" "drifts" "[I", Cond.methodLink RX12 201 yX12_driftOf, Cond.instanceMethod yX12_driftOf, Cond.selects RX12 yX12_driftOf yX12_driftOf, Cond.code yX12_driftOf cX12_driftOf 2 (some .int), Cond.fieldLink RX12 146 "MistHeapsModel" "drifting" "I", Cond.methodLink RX12 160 yX12_looks]
def wsX12_safe_r2 : List Cond := [Cond.instanceMethod yX12_looks, Cond.selects RX12 yX12_looks yX12_looks, Cond.code yX12_looks cX12_looks 12 none, Cond.fieldLink RX12 18 "MistHeapsModel" "by" "[I", Cond.fieldLink RX12 9 "MistHeapsModel" "s" "[I", Cond.fieldLink RX12 143 "MistHeapsModel" "seeing" "I", Cond.fieldLink RX12 21 "MistHeapsModel" "truths" "[Z", Cond.methodLink RX12 233 yX12_goesBy, Cond.instanceMethod yX12_goesBy, Cond.selects RX12 yX12_goesBy yX12_goesBy, Cond.code yX12_goesBy cX12_goesBy 6 none, Cond.methodLink RX12 212 yX12_begins, Cond.instanceMethod yX12_begins, Cond.selects RX12 yX12_begins yX12_begins, Cond.code yX12_begins cX12_begins 3 none, Cond.methodLink RX12 215 yX12_goesOn, Cond.instanceMethod yX12_goesOn, Cond.selects RX12 yX12_goesOn yX12_goesOn, Cond.code yX12_goesOn cX12_goesOn 4 none, Cond.fieldLink RX12 32 "MistHeapsModel" "then" "[J", Cond.constantLong RX12 204 (20), Cond.methodLink RX12 206 yX12_nextTo, Cond.static yX12_nextTo, Cond.code yX12_nextTo cX12_nextTo 4 (some .int)]
def wsX12_safe_r3 : List Cond := [Cond.methodLink RX12 53 yX12_rowsOf, Cond.static yX12_rowsOf, Cond.code yX12_rowsOf cX12_rowsOf 1 (some .int), Cond.methodLink RX12 56 yX12_columnsOf, Cond.static yX12_columnsOf, Cond.code yX12_columnsOf cX12_columnsOf 1 (some .int), Cond.methodLink RX12 222 yX12_over, Cond.instanceMethod yX12_over, Cond.selects RX12 yX12_over yX12_over, Cond.code yX12_over cX12_over 4 (some .long), Cond.methodLink RX12 243 yX12_wayOf, Cond.static yX12_wayOf, Cond.code yX12_wayOf cX12_wayOf 4 (some .int)]
def wsX12_safe : List Cond := .code yX12_safe cX12_safe 4 (some .int) :: ((wsX12_safe_r1 ++ (wsX12_safe_r2 ++ wsX12_safe_r3)) ++ wsX120)
def wsX12_line : List Cond := .code yX12_line cX12_line 6 (some .int) :: ([.fieldLink RX12 9 "MistHeapsModel" "s" "[I", .methodLink RX12 164 yX12_isHeap, .instanceMethod yX12_isHeap, .selects RX12 yX12_isHeap yX12_isHeap, .initialized RX12, .code yX12_isHeap cX12_isHeap 2 (some .boolean), .methodLink RX12 45 yX12_in, .static yX12_in, .code yX12_in cX12_in 3 (some .boolean), .methodLink RX12 140 yX12_sight, .instanceMethod yX12_sight, .selects RX12 yX12_sight yX12_sight, .code yX12_sight cX12_sight 1 (some .int), .methodLink RX12 170 yX12_apart, .static yX12_apart, .code yX12_apart cX12_apart 4 (some .int), .methodLink RX12 49 yX12_size, .static yX12_size, .code yX12_size cX12_size 1 (some .int)] ++ wsX120)
def wsX12_next : List Cond := .code yX12_next cX12_next 9 (some .int) :: ([.fieldLink RX12 9 "MistHeapsModel" "s" "[I", .methodLink RX12 164 yX12_isHeap, .instanceMethod yX12_isHeap, .selects RX12 yX12_isHeap yX12_isHeap, .initialized RX12, .code yX12_isHeap cX12_isHeap 2 (some .boolean), .methodLink RX12 45 yX12_in, .static yX12_in, .code yX12_in cX12_in 3 (some .boolean)] ++ wsX120)
def wsX12_book : List Cond := .code yX12_book cX12_book 2 (some .int) :: ([.fieldLink RX12 9 "MistHeapsModel" "s" "[I", .methodLink RX12 164 yX12_isHeap, .instanceMethod yX12_isHeap, .selects RX12 yX12_isHeap yX12_isHeap, .initialized RX12, .code yX12_isHeap cX12_isHeap 2 (some .boolean), .methodLink RX12 45 yX12_in, .static yX12_in, .code yX12_in cX12_in 3 (some .boolean)] ++ wsX120)
def wsX12_looked_r1 : List Cond := [Cond.fieldLink RX12 9 "MistHeapsModel" "s" "[I", Cond.methodLink RX12 186 yX12_doesGo, Cond.instanceMethod yX12_doesGo, Cond.selects RX12 yX12_doesGo yX12_doesGo, Cond.initialized RX12, Cond.code yX12_doesGo cX12_doesGo 7 (some .boolean), Cond.methodLink RX12 174 yX12_isSeen, Cond.instanceMethod yX12_isSeen, Cond.selects RX12 yX12_isSeen yX12_isSeen, Cond.code yX12_isSeen cX12_isSeen 3 (some .boolean), Cond.methodLink RX12 170 yX12_apart, Cond.static yX12_apart, Cond.code yX12_apart cX12_apart 4 (some .int), Cond.methodLink RX12 49 yX12_size, Cond.static yX12_size, Cond.code yX12_size cX12_size 1 (some .int), Cond.methodLink RX12 167 yX12_reachOf, Cond.instanceMethod yX12_reachOf, Cond.selects RX12 yX12_reachOf yX12_reachOf, Cond.code yX12_reachOf cX12_reachOf 5 (some .int), Cond.fieldLink RX12 143 "MistHeapsModel" "seeing" "I", Cond.methodLink RX12 160 yX12_looks, Cond.instanceMethod yX12_looks, Cond.selects RX12 yX12_looks yX12_looks]
def wsX12_looked_r2 : List Cond := [Cond.code yX12_looks cX12_looks 12 none, Cond.fieldLink RX12 18 "MistHeapsModel" "by" "[I", Cond.fieldLink RX12 146 "MistHeapsModel" "drifting" "I", Cond.fieldLink RX12 21 "MistHeapsModel" "truths" "[Z", Cond.methodLink RX12 140 yX12_sight, Cond.instanceMethod yX12_sight, Cond.selects RX12 yX12_sight yX12_sight, Cond.code yX12_sight cX12_sight 1 (some .int), Cond.methodLink RX12 53 yX12_rowsOf, Cond.static yX12_rowsOf, Cond.code yX12_rowsOf cX12_rowsOf 1 (some .int), Cond.methodLink RX12 183 yX12_isThatSide, Cond.static yX12_isThatSide, Cond.code yX12_isThatSide cX12_isThatSide 3 (some .boolean), Cond.methodLink RX12 56 yX12_columnsOf, Cond.static yX12_columnsOf, Cond.code yX12_columnsOf cX12_columnsOf 1 (some .int), Cond.methodLink RX12 45 yX12_in, Cond.static yX12_in, Cond.code yX12_in cX12_in 3 (some .boolean)]
def wsX12_looked : List Cond := .code yX12_looked cX12_looked 2 (some .int) :: ((wsX12_looked_r1 ++ wsX12_looked_r2) ++ wsX120)
def wsX12_ranBody : List Cond := .code yX12_ranBody cX12_ranBody 2 none :: ([.fieldLink RX12 246 "MistHeapsModel" "ran" "I", .fieldLink RX12 38 "MistHeapsModel" "bodies" "[I"] ++ wsX120)
def wsX12_isUnder : List Cond := .code yX12_isUnder cX12_isUnder 2 (some .boolean) :: ([])
def wsX12_plainSees : List Cond := .code yX12_plainSees cX12_plainSees 2 (some .int) :: ([.fieldLink RX12 252 "MistHeapsModel" "number" "I", .methodLink RX12 249 yX12_ranBody, .instanceMethod yX12_ranBody, .selects RX12 yX12_ranBody yX12_ranBody, .initialized RX12, .code yX12_ranBody cX12_ranBody 2 none, .fieldLink RX12 246 "MistHeapsModel" "ran" "I", .fieldLink RX12 38 "MistHeapsModel" "bodies" "[I"] ++ wsX120)
def wsX12_seesActs : List Cond := .code yX12_seesActs cX12_seesActs 2 (some .int) :: ([.fieldLink RX12 255 "MistHeapsModel" "kind" "I", .fieldLink RX12 252 "MistHeapsModel" "number" "I", .methodLink RX12 258 yX12_isUnder, .static yX12_isUnder, .initialized RX12, .code yX12_isUnder cX12_isUnder 2 (some .boolean), .methodLink RX12 249 yX12_ranBody, .instanceMethod yX12_ranBody, .selects RX12 yX12_ranBody yX12_ranBody, .code yX12_ranBody cX12_ranBody 2 none, .fieldLink RX12 246 "MistHeapsModel" "ran" "I", .fieldLink RX12 38 "MistHeapsModel" "bodies" "[I", .methodLink RX12 261 yX12_plainSees, .instanceMethod yX12_plainSees, .selects RX12 yX12_plainSees yX12_plainSees, .code yX12_plainSees cX12_plainSees 2 (some .int)] ++ wsX120)
def wsX12_plainGoes : List Cond := .code yX12_plainGoes cX12_plainGoes 2 (some .int) :: ([.fieldLink RX12 267 "MistHeapsModel" "tellsV" "I", .methodLink RX12 249 yX12_ranBody, .instanceMethod yX12_ranBody, .selects RX12 yX12_ranBody yX12_ranBody, .initialized RX12, .code yX12_ranBody cX12_ranBody 2 none, .fieldLink RX12 246 "MistHeapsModel" "ran" "I", .fieldLink RX12 38 "MistHeapsModel" "bodies" "[I", .methodLink RX12 264 yX12_seesActs, .instanceMethod yX12_seesActs, .selects RX12 yX12_seesActs yX12_seesActs, .code yX12_seesActs cX12_seesActs 2 (some .int), .fieldLink RX12 255 "MistHeapsModel" "kind" "I", .fieldLink RX12 252 "MistHeapsModel" "number" "I", .methodLink RX12 258 yX12_isUnder, .static yX12_isUnder, .code yX12_isUnder cX12_isUnder 2 (some .boolean), .methodLink RX12 261 yX12_plainSees, .instanceMethod yX12_plainSees, .selects RX12 yX12_plainSees yX12_plainSees, .code yX12_plainSees cX12_plainSees 2 (some .int)] ++ wsX120)
def wsX12_goesActs_r1 : List Cond := [Cond.fieldLink RX12 255 "MistHeapsModel" "kind" "I", Cond.fieldLink RX12 267 "MistHeapsModel" "tellsV" "I", Cond.methodLink RX12 258 yX12_isUnder, Cond.static yX12_isUnder, Cond.initialized RX12, Cond.code yX12_isUnder cX12_isUnder 2 (some .boolean), Cond.methodLink RX12 249 yX12_ranBody, Cond.instanceMethod yX12_ranBody, Cond.selects RX12 yX12_ranBody yX12_ranBody, Cond.code yX12_ranBody cX12_ranBody 2 none, Cond.fieldLink RX12 246 "MistHeapsModel" "ran" "I", Cond.fieldLink RX12 38 "MistHeapsModel" "bodies" "[I", Cond.methodLink RX12 270 yX12_plainGoes, Cond.instanceMethod yX12_plainGoes, Cond.selects RX12 yX12_plainGoes yX12_plainGoes, Cond.code yX12_plainGoes cX12_plainGoes 2 (some .int), Cond.methodLink RX12 264 yX12_seesActs, Cond.instanceMethod yX12_seesActs, Cond.selects RX12 yX12_seesActs yX12_seesActs, Cond.code yX12_seesActs cX12_seesActs 2 (some .int), Cond.fieldLink RX12 252 "MistHeapsModel" "number" "I", Cond.methodLink RX12 261 yX12_plainSees, Cond.instanceMethod yX12_plainSees, Cond.selects RX12 yX12_plainSees yX12_plainSees]
def wsX12_goesActs_r2 : List Cond := [Cond.code yX12_plainSees cX12_plainSees 2 (some .int)]
def wsX12_goesActs : List Cond := .code yX12_goesActs cX12_goesActs 2 (some .int) :: ((wsX12_goesActs_r1 ++ wsX12_goesActs_r2) ++ wsX120)
def wsX12_plainLooks_r1 : List Cond := [Cond.methodLink RX12 249 yX12_ranBody, Cond.instanceMethod yX12_ranBody, Cond.selects RX12 yX12_ranBody yX12_ranBody, Cond.initialized RX12, Cond.code yX12_ranBody cX12_ranBody 2 none, Cond.fieldLink RX12 246 "MistHeapsModel" "ran" "I", Cond.fieldLink RX12 38 "MistHeapsModel" "bodies" "[I", Cond.methodLink RX12 273 yX12_goesActs, Cond.instanceMethod yX12_goesActs, Cond.selects RX12 yX12_goesActs yX12_goesActs, Cond.code yX12_goesActs cX12_goesActs 2 (some .int), Cond.fieldLink RX12 255 "MistHeapsModel" "kind" "I", Cond.fieldLink RX12 267 "MistHeapsModel" "tellsV" "I", Cond.methodLink RX12 258 yX12_isUnder, Cond.static yX12_isUnder, Cond.code yX12_isUnder cX12_isUnder 2 (some .boolean), Cond.methodLink RX12 270 yX12_plainGoes, Cond.instanceMethod yX12_plainGoes, Cond.selects RX12 yX12_plainGoes yX12_plainGoes, Cond.code yX12_plainGoes cX12_plainGoes 2 (some .int), Cond.methodLink RX12 264 yX12_seesActs, Cond.instanceMethod yX12_seesActs, Cond.selects RX12 yX12_seesActs yX12_seesActs, Cond.code yX12_seesActs cX12_seesActs 2 (some .int)]
def wsX12_plainLooks_r2 : List Cond := [Cond.fieldLink RX12 252 "MistHeapsModel" "number" "I", Cond.methodLink RX12 261 yX12_plainSees, Cond.instanceMethod yX12_plainSees, Cond.selects RX12 yX12_plainSees yX12_plainSees, Cond.code yX12_plainSees cX12_plainSees 2 (some .int)]
def wsX12_plainLooks : List Cond := .code yX12_plainLooks cX12_plainLooks 2 (some .int) :: ((wsX12_plainLooks_r1 ++ wsX12_plainLooks_r2) ++ wsX120)
def wsX12_looksActs_r1 : List Cond := [Cond.fieldLink RX12 255 "MistHeapsModel" "kind" "I", Cond.methodLink RX12 258 yX12_isUnder, Cond.static yX12_isUnder, Cond.initialized RX12, Cond.code yX12_isUnder cX12_isUnder 2 (some .boolean), Cond.methodLink RX12 249 yX12_ranBody, Cond.instanceMethod yX12_ranBody, Cond.selects RX12 yX12_ranBody yX12_ranBody, Cond.code yX12_ranBody cX12_ranBody 2 none, Cond.fieldLink RX12 246 "MistHeapsModel" "ran" "I", Cond.fieldLink RX12 38 "MistHeapsModel" "bodies" "[I", Cond.methodLink RX12 276 yX12_plainLooks, Cond.instanceMethod yX12_plainLooks, Cond.selects RX12 yX12_plainLooks yX12_plainLooks, Cond.code yX12_plainLooks cX12_plainLooks 2 (some .int), Cond.methodLink RX12 273 yX12_goesActs, Cond.instanceMethod yX12_goesActs, Cond.selects RX12 yX12_goesActs yX12_goesActs, Cond.code yX12_goesActs cX12_goesActs 2 (some .int), Cond.fieldLink RX12 267 "MistHeapsModel" "tellsV" "I", Cond.methodLink RX12 270 yX12_plainGoes, Cond.instanceMethod yX12_plainGoes, Cond.selects RX12 yX12_plainGoes yX12_plainGoes, Cond.code yX12_plainGoes cX12_plainGoes 2 (some .int)]
def wsX12_looksActs_r2 : List Cond := [Cond.methodLink RX12 264 yX12_seesActs, Cond.instanceMethod yX12_seesActs, Cond.selects RX12 yX12_seesActs yX12_seesActs, Cond.code yX12_seesActs cX12_seesActs 2 (some .int), Cond.fieldLink RX12 252 "MistHeapsModel" "number" "I", Cond.methodLink RX12 261 yX12_plainSees, Cond.instanceMethod yX12_plainSees, Cond.selects RX12 yX12_plainSees yX12_plainSees, Cond.code yX12_plainSees cX12_plainSees 2 (some .int)]
def wsX12_looksActs : List Cond := .code yX12_looksActs cX12_looksActs 3 (some .int) :: ((wsX12_looksActs_r1 ++ wsX12_looksActs_r2) ++ wsX120)
def wsX12_act_r1 : List Cond := [Cond.fieldLink RX12 246 "MistHeapsModel" "ran" "I", Cond.fieldLink RX12 9 "MistHeapsModel" "s" "[I", Cond.fieldLink RX12 255 "MistHeapsModel" "kind" "I", Cond.fieldLink RX12 252 "MistHeapsModel" "number" "I", Cond.fieldLink RX12 267 "MistHeapsModel" "tellsV" "I", Cond.methodLink RX12 164 yX12_isHeap, Cond.instanceMethod yX12_isHeap, Cond.selects RX12 yX12_isHeap yX12_isHeap, Cond.initialized RX12, Cond.code yX12_isHeap cX12_isHeap 2 (some .boolean), Cond.methodLink RX12 45 yX12_in, Cond.static yX12_in, Cond.code yX12_in cX12_in 3 (some .boolean), Cond.methodLink RX12 264 yX12_seesActs, Cond.instanceMethod yX12_seesActs, Cond.selects RX12 yX12_seesActs yX12_seesActs, Cond.code yX12_seesActs cX12_seesActs 2 (some .int), Cond.methodLink RX12 258 yX12_isUnder, Cond.static yX12_isUnder, Cond.code yX12_isUnder cX12_isUnder 2 (some .boolean), Cond.methodLink RX12 249 yX12_ranBody, Cond.instanceMethod yX12_ranBody, Cond.selects RX12 yX12_ranBody yX12_ranBody, Cond.code yX12_ranBody cX12_ranBody 2 none]
def wsX12_act_r2 : List Cond := [Cond.fieldLink RX12 38 "MistHeapsModel" "bodies" "[I", Cond.methodLink RX12 261 yX12_plainSees, Cond.instanceMethod yX12_plainSees, Cond.selects RX12 yX12_plainSees yX12_plainSees, Cond.code yX12_plainSees cX12_plainSees 2 (some .int), Cond.methodLink RX12 273 yX12_goesActs, Cond.instanceMethod yX12_goesActs, Cond.selects RX12 yX12_goesActs yX12_goesActs, Cond.code yX12_goesActs cX12_goesActs 2 (some .int), Cond.methodLink RX12 270 yX12_plainGoes, Cond.instanceMethod yX12_plainGoes, Cond.selects RX12 yX12_plainGoes yX12_plainGoes, Cond.code yX12_plainGoes cX12_plainGoes 2 (some .int), Cond.methodLink RX12 279 yX12_looksActs, Cond.instanceMethod yX12_looksActs, Cond.selects RX12 yX12_looksActs yX12_looksActs, Cond.code yX12_looksActs cX12_looksActs 3 (some .int), Cond.methodLink RX12 276 yX12_plainLooks, Cond.instanceMethod yX12_plainLooks, Cond.selects RX12 yX12_plainLooks yX12_plainLooks, Cond.code yX12_plainLooks cX12_plainLooks 2 (some .int)]
def wsX12_act : List Cond := .code yX12_act cX12_act 4 (some .int) :: ((wsX12_act_r1 ++ wsX12_act_r2) ++ wsX120)
def wsX12_trace : List Cond := .code yX12_trace cX12_trace 2 (some .int) :: ([.fieldLink RX12 246 "MistHeapsModel" "ran" "I", .fieldLink RX12 38 "MistHeapsModel" "bodies" "[I", .methodLink RX12 45 yX12_in, .static yX12_in, .initialized RX12, .code yX12_in cX12_in 3 (some .boolean)] ++ wsX120)
def wsX12_as : List Cond := .code yX12_as cX12_as 3 (some .int) :: ([.fieldLink RX12 9 "MistHeapsModel" "s" "[I", .methodLink RX12 164 yX12_isHeap, .instanceMethod yX12_isHeap, .selects RX12 yX12_isHeap yX12_isHeap, .initialized RX12, .code yX12_isHeap cX12_isHeap 2 (some .boolean), .methodLink RX12 45 yX12_in, .static yX12_in, .code yX12_in cX12_in 3 (some .boolean), .methodLink RX12 258 yX12_isUnder, .static yX12_isUnder, .code yX12_isUnder cX12_isUnder 2 (some .boolean)] ++ wsX120)
def wsX12_image : List Cond := .code yX12_image cX12_image 2 (some .int) :: ([.fieldLink RX12 15 "MistHeapsModel" "image" "[I", .fieldLink RX12 9 "MistHeapsModel" "s" "[I", .fieldLink RX12 282 "MistHeapsModel" "hasImage" "Z"] ++ wsX120)
def wsX12_undo : List Cond := .code yX12_undo cX12_undo 2 (some .int) :: ([.fieldLink RX12 282 "MistHeapsModel" "hasImage" "Z", .fieldLink RX12 9 "MistHeapsModel" "s" "[I", .fieldLink RX12 15 "MistHeapsModel" "image" "[I"] ++ wsX120)
def wsX12_count : List Cond := .code yX12_count cX12_count 2 (some .int) :: ([.fieldLink RX12 9 "MistHeapsModel" "s" "[I", .fieldLink RX12 246 "MistHeapsModel" "ran" "I"] ++ wsX120)
def wsJ9_abs_0f7a4 : List Cond := .code yJ9_abs_0f7a4 cJ9_abs_0f7a4 1 (some .int) :: ([])
def wsJ9_max_7cf53 : List Cond := .code yJ9_max_7cf53 cJ9_max_7cf53 2 (some .int) :: ([])
def wsJ9_min_7cf53 : List Cond := .code yJ9_min_7cf53 cJ9_min_7cf53 2 (some .int) :: ([])
def wsL_law_r1 : List Cond := [Cond.classLink RL 7 RX11, Cond.instantiable RX11 7, Cond.initialized RX11, Cond.classLink RL 10 RX12, Cond.instantiable RX12 23, Cond.initialized RX12, Cond.constantLong RL 23 (4294967295), Cond.methodLink RL 9 yX11_init, Cond.instanceMethod yX11_init, Cond.code yX11_init cX11_init 1 none, Cond.methodLink RX11 5 objectInit, Cond.instanceMethod objectInit, Cond.code objectInit ⟨#[0xb1]⟩ 1 none, Cond.classLink RX11 11 RX8, Cond.instantiable RX8 14, Cond.initialized RX8, Cond.fieldLink RX11 14 "MistHeaps" "scene" "LMistHeaps$Scene;", Cond.fieldLink RX11 18 "MistHeaps" "kept" "LMistHeaps$Scene;", Cond.fieldLink RX11 21 "MistHeaps" "isKept" "Z", Cond.classLink RX11 25 RX5, Cond.instantiable RX5 11, Cond.initialized RX5, Cond.fieldLink RX11 28 "MistHeaps" "blank" "LMistHeaps$Hill;", Cond.classLink RX11 32 RX2]
def wsL_law_r2 : List Cond := [Cond.instantiable RX2 4, Cond.initialized RX2, Cond.fieldLink RX11 35 "MistHeaps" "goings" "LMistHeaps$Goings;", Cond.classLink RX11 39 RX0, Cond.instantiable RX0 5, Cond.initialized RX0, Cond.fieldLink RX11 42 "MistHeaps" "chances" "LMistHeaps$Chances;", Cond.classLink RX11 46 RJx4a65c, Cond.instantiable RJx4a65c 3, Cond.initialized RJx4a65c, Cond.fieldLink RX11 49 "MistHeaps" "bodies" "Ljava/util/ArrayList;", Cond.methodLink RX11 13 yX8_init, Cond.instanceMethod yX8_init, Cond.code yX8_init cX8_init 1 none, Cond.methodLink RX8 3 objectInit, Cond.arrayClass .int, Cond.fieldLink RX8 9 "MistHeaps$Scene" "tape" "[I", Cond.classLink RX8 15 RX5, Cond.fieldLink RX8 18 "MistHeaps$Scene" "hill" "LMistHeaps$Hill;", Cond.classLink RX8 22 RX3, Cond.fieldLink RX8 24 "MistHeaps$Scene" "heaps" "[LMistHeaps$Heap;", Cond.fieldLink RX8 28 "MistHeaps$Scene" "walk" "[I", Cond.fieldLink RX8 31 "MistHeaps$Scene" "book" "[I", Cond.fieldLink RX8 34 "MistHeaps$Scene" "facts" "[I"]
def wsL_law_r3 : List Cond := [Cond.methodLink RX8 17 yX5_init, Cond.instanceMethod yX5_init, Cond.code yX5_init cX5_init 1 none, Cond.methodLink RX5 3 objectInit, Cond.fieldLink RX5 11 "MistHeaps$Hill" "sight" "I", Cond.fieldLink RX5 15 "MistHeaps$Hill" "words" "[I", Cond.fieldLink RX5 19 "MistHeaps$Hill" "amounts" "[I", Cond.fieldLink RX5 22 "MistHeaps$Hill" "ends" "[I", Cond.fieldLink RX5 25 "MistHeaps$Hill" "codes" "[I", Cond.methodLink RX11 27 yX5_init, Cond.methodLink RX11 34 yX2_init, Cond.instanceMethod yX2_init, Cond.code yX2_init cX2_init 1 none, Cond.methodLink RX2 3 objectInit, Cond.fieldLink RX2 9 "MistHeaps$Goings" "reach" "[I", Cond.fieldLink RX2 15 "MistHeaps$Goings" "onward" "[I", Cond.classLink RX2 18 RX3, Cond.instantiable RX3 4, Cond.initialized RX3, Cond.fieldLink RX2 23 "MistHeaps$Goings" "spare" "LMistHeaps$Heap;", Cond.methodLink RX2 20 yX3_init, Cond.instanceMethod yX3_init, Cond.code yX3_init cX3_init 5 none, Cond.methodLink RX3 3 objectInit]
def wsL_law_r4 : List Cond := [Cond.fieldLink RX3 9 "MistHeaps$Heap" "kind" "I", Cond.fieldLink RX3 15 "MistHeaps$Heap" "number" "I", Cond.fieldLink RX3 18 "MistHeaps$Heap" "v" "I", Cond.fieldLink RX3 21 "MistHeaps$Heap" "cell" "I", Cond.methodLink RX11 41 yX0_init, Cond.instanceMethod yX0_init, Cond.code yX0_init cX0_init 1 none, Cond.methodLink RX0 3 objectInit, Cond.fieldLink RX0 9 "MistHeaps$Chances" "drifts" "[I", Cond.classLink RX0 15 "[[J", Cond.arrayClass .long, Cond.fieldLink RX0 17 "MistHeaps$Chances" "times" "[[J", Cond.classLink RX0 20 "[[I", Cond.fieldLink RX0 22 "MistHeaps$Chances" "hits" "[[I", Cond.methodLink RX11 48 yJx4a65c_init_da8c8, Cond.instanceMethod yJx4a65c_init_da8c8, Cond.code yJx4a65c_init_da8c8 cJx4a65c_init_da8c8 1 none, Cond.fieldLink RJx4a65c 39 "java/util/ArrayList" "DEFAULTCAPACITY_EMPTY_ELEMENTDATA" "[Ljava/lang/Object;", Cond.fieldLink RJx4a65c 9 "java/util/ArrayList" "elementData" "[Ljava/lang/Object;", Cond.methodLink RJx4a65c 1 yJxc12de_init_da8c8, Cond.instanceMethod yJxc12de_init_da8c8, Cond.initialized RJxc12de, Cond.code yJxc12de_init_da8c8 cJxc12de_init_da8c8 1 none, Cond.fieldLink RJxc12de 7 "java/util/AbstractList" "modCount" "I"]
def wsL_law_r5 : List Cond := [Cond.methodLink RJxc12de 1 yJxa1e45_init_da8c8, Cond.instanceMethod yJxa1e45_init_da8c8, Cond.initialized RJxa1e45, Cond.code yJxa1e45_init_da8c8 cJxa1e45_init_da8c8 1 none, Cond.methodLink RJxa1e45 1 objectInit, Cond.methodLink RL 12 yX12_init, Cond.instanceMethod yX12_init, Cond.code yX12_init cX12_init 1 none, Cond.methodLink RX12 3 objectInit, Cond.fieldLink RX12 9 "MistHeapsModel" "s" "[I", Cond.fieldLink RX12 15 "MistHeapsModel" "image" "[I", Cond.fieldLink RX12 18 "MistHeapsModel" "by" "[I", Cond.arrayClass .boolean, Cond.fieldLink RX12 21 "MistHeapsModel" "truths" "[Z", Cond.fieldLink RX12 25 "MistHeapsModel" "goes" "[I", Cond.fieldLink RX12 28 "MistHeapsModel" "often" "[J", Cond.fieldLink RX12 32 "MistHeapsModel" "then" "[J", Cond.fieldLink RX12 35 "MistHeapsModel" "drifts" "[I", Cond.fieldLink RX12 38 "MistHeapsModel" "bodies" "[I", Cond.methodLink RL 13 yX11_feed, Cond.instanceMethod yX11_feed, Cond.selects RX11 yX11_feed yX11_feed, Cond.code yX11_feed cX11_feed 2 (some .int), Cond.fieldLink RX11 53 "MistHeaps$Scene" "tapeSize" "I"]
def wsL_law_r6 : List Cond := [Cond.fieldLink RX11 57 "MistHeaps$Scene" "tape" "[I", Cond.methodLink RL 17 yX12_feed, Cond.instanceMethod yX12_feed, Cond.selects RX12 yX12_feed yX12_feed, Cond.code yX12_feed cX12_feed 2 (some .int), Cond.methodLink RX12 45 yX12_in, Cond.static yX12_in, Cond.code yX12_in cX12_in 3 (some .boolean), Cond.methodLink RL 18 yX11_hill, Cond.instanceMethod yX11_hill, Cond.selects RX11 yX11_hill yX11_hill, Cond.code yX11_hill cX11_hill 2 (some .int), Cond.fieldLink RX11 61 "MistHeaps$Scene" "hills" "I", Cond.fieldLink RX11 68 "MistHeaps$Scene" "hill" "LMistHeaps$Hill;", Cond.methodLink RX11 64 yX5_read, Cond.instanceMethod yX5_read, Cond.selects RX5 yX5_read yX5_read, Cond.code yX5_read cX5_read 5 (some .int), Cond.fieldLink RX5 28 "MistHeaps$Hill" "tape" "[I", Cond.fieldLink RX5 31 "MistHeaps$Hill" "size" "I", Cond.fieldLink RX5 34 "MistHeaps$Hill" "at" "I", Cond.fieldLink RX5 37 "MistHeaps$Hill" "coded" "I", Cond.fieldLink RX5 48 "MistHeaps$Hill" "number" "I", Cond.fieldLink RX5 59 "MistHeaps$Hill" "clauses" "I"]
def wsL_law_r7 : List Cond := [Cond.methodLink RX5 40 yX5_readWord, Cond.instanceMethod yX5_readWord, Cond.selects RX5 yX5_readWord yX5_readWord, Cond.code yX5_readWord cX5_readWord 5 (some .int), Cond.methodLink RX5 70 Lib.Math.max.name, Cond.static Lib.Math.max.name, Cond.initialized "java/lang/Math", Cond.code Lib.Math.max.name Lib.Math.max.code 2 (some .int), Cond.methodLink RX5 62 yX5_textOf, Cond.static yX5_textOf, Cond.code yX5_textOf cX5_textOf 1 (some (.object "java/lang/String")), Cond.methodLink RX5 66 yX5_sameSigns, Cond.instanceMethod yX5_sameSigns, Cond.selects RX5 yX5_sameSigns yX5_sameSigns, Cond.code yX5_sameSigns cX5_sameSigns 3 (some .int), Cond.methodLink RX5 76 yJ0_length_8abf5, Cond.instanceMethod yJ0_length_8abf5, Cond.selects RJ0 yJ0_length_8abf5 yJ0_length_8abf5, Cond.initialized RJ0, Cond.code yJ0_length_8abf5 cJ0_length_8abf5 1 (some .int), Cond.fieldLink RJ0 9 "java/lang/String" "value" "[B", Cond.methodLink RJ0 335 yJ0_coder_7d493, Cond.instanceMethod yJ0_coder_7d493, Cond.selects RJ0 yJ0_coder_7d493 yJ0_coder_7d493]
def wsL_law_r8 : List Cond := [Cond.code yJ0_coder_7d493 cJ0_coder_7d493 1 (some .byte), Cond.fieldLink RJ0 38 "java/lang/String" "COMPACT_STRINGS" "Z", Cond.fieldLink RJ0 15 "java/lang/String" "coder" "B", Cond.methodLink RX5 89 yJ0_charAt_5068e, Cond.instanceMethod yJ0_charAt_5068e, Cond.selects RJ0 yJ0_charAt_5068e yJ0_charAt_5068e, Cond.code yJ0_charAt_5068e cJ0_charAt_5068e 2 (some .char), Cond.methodLink RJ0 492 yJ0_isLatin1_aae02, Cond.instanceMethod yJ0_isLatin1_aae02, Cond.selects RJ0 yJ0_isLatin1_aae02 yJ0_isLatin1_aae02, Cond.code yJ0_isLatin1_aae02 cJ0_isLatin1_aae02 1 (some .boolean), Cond.methodLink RJ0 495 yJ1_charAt_3b067, Cond.static yJ1_charAt_3b067, Cond.initialized RJ1, Cond.code yJ1_charAt_3b067 cJ1_charAt_3b067 2 (some .char), Cond.methodLink RJ1 9 yJ0_checkIndex_df160, Cond.static yJ0_checkIndex_df160, Cond.code yJ0_checkIndex_df160 cJ0_checkIndex_df160 2 none, Cond.fieldLink RJ0 1053 "jdk/internal/util/Preconditions" "SIOOBE_FORMATTER" "Ljava/util/function/BiFunction;", Cond.methodLink RJ0 1059 yJ3_checkIndex_8e157, Cond.static yJ3_checkIndex_8e157, Cond.initialized RJ3, Cond.code yJ3_checkIndex_8e157 cJ3_checkIndex_8e157 3 (some .int), Cond.methodLink RJ0 498 yJ2_charAt_3b067]
def wsL_law_r9 : List Cond := [Cond.static yJ2_charAt_3b067, Cond.initialized RJ2, Cond.code yJ2_charAt_3b067 cJ2_charAt_3b067 2 (some .char), Cond.methodLink RJ2 67 yJ2_checkIndex_2214a, Cond.static yJ2_checkIndex_2214a, Cond.code yJ2_checkIndex_2214a cJ2_checkIndex_2214a 2 none, Cond.methodLink RJ2 48 yJ2_length_9d52b, Cond.static yJ2_length_9d52b, Cond.code yJ2_length_9d52b cJ2_length_9d52b 1 (some .int), Cond.methodLink RJ2 414 yJ0_checkIndex_df160, Cond.methodLink RJ2 71 yJ2_getChar_3b067, Cond.static yJ2_getChar_3b067, Cond.code yJ2_getChar_3b067 cJ2_getChar_3b067 2 (some .char), Cond.fieldLink RJ2 44 "java/lang/StringUTF16" "$assertionsDisabled" "Z", Cond.fieldLink RJ2 59 "java/lang/StringUTF16" "HI_BYTE_SHIFT" "I", Cond.fieldLink RJ2 63 "java/lang/StringUTF16" "LO_BYTE_SHIFT" "I", Cond.methodLink RX5 44 yX5_readNumber, Cond.instanceMethod yX5_readNumber, Cond.selects RX5 yX5_readNumber yX5_readNumber, Cond.code yX5_readNumber cX5_readNumber 1 (some .boolean), Cond.methodLink RX5 93 yX5_sign, Cond.instanceMethod yX5_sign, Cond.selects RX5 yX5_sign yX5_sign, Cond.code yX5_sign cX5_sign 1 (some .int)]
def wsL_law_r10 : List Cond := [Cond.methodLink RX5 96 yX5_isDigit, Cond.static yX5_isDigit, Cond.code yX5_isDigit cX5_isDigit 1 (some .boolean), Cond.methodLink RX5 51 yX5_readSign, Cond.instanceMethod yX5_readSign, Cond.selects RX5 yX5_readSign yX5_readSign, Cond.code yX5_readSign cX5_readSign 2 (some .boolean), Cond.methodLink RX5 55 yX5_readEither, Cond.instanceMethod yX5_readEither, Cond.selects RX5 yX5_readEither yX5_readEither, Cond.code yX5_readEither cX5_readEither 3 (some .boolean), Cond.methodLink RX5 99 yX5_readBoth, Cond.instanceMethod yX5_readBoth, Cond.selects RX5 yX5_readBoth yX5_readBoth, Cond.methodLink RX5 102 yX5_code, Cond.instanceMethod yX5_code, Cond.selects RX5 yX5_code yX5_code, Cond.code yX5_code cX5_code 2 none, Cond.code yX5_readBoth cX5_readBoth 3 (some .boolean), Cond.methodLink RX5 106 yX5_readPlain, Cond.instanceMethod yX5_readPlain, Cond.selects RX5 yX5_readPlain yX5_readPlain, Cond.code yX5_readPlain cX5_readPlain 3 (some .boolean), Cond.methodLink RX5 109 yX5_readTest]
def wsL_law_r11 : List Cond := [Cond.instanceMethod yX5_readTest, Cond.selects RX5 yX5_readTest yX5_readTest, Cond.code yX5_readTest cX5_readTest 3 (some .boolean), Cond.methodLink RX5 114 yJ0_indexOf_0f7a4, Cond.instanceMethod yJ0_indexOf_0f7a4, Cond.selects RJ0 yJ0_indexOf_0f7a4 yJ0_indexOf_0f7a4, Cond.code yJ0_indexOf_0f7a4 cJ0_indexOf_0f7a4 2 (some .int), Cond.methodLink RJ0 633 yJ0_indexOf_7cf53, Cond.instanceMethod yJ0_indexOf_7cf53, Cond.selects RJ0 yJ0_indexOf_7cf53 yJ0_indexOf_7cf53, Cond.code yJ0_indexOf_7cf53 cJ0_indexOf_7cf53 3 (some .int), Cond.methodLink RJ0 505 yJ0_length_8abf5, Cond.methodLink RJ0 637 yJ1_indexOf_4cfef, Cond.static yJ1_indexOf_4cfef, Cond.code yJ1_indexOf_4cfef cJ1_indexOf_4cfef 4 (some .int), Cond.methodLink RJ1 92 Lib.Math.max.name, Cond.methodLink RJ1 38 Lib.Math.min.name, Cond.static Lib.Math.min.name, Cond.code Lib.Math.min.name Lib.Math.min.code 2 (some .int), Cond.methodLink RJ1 88 yJ1_canEncode_9a6ad, Cond.static yJ1_canEncode_9a6ad, Cond.code yJ1_canEncode_9a6ad cJ1_canEncode_9a6ad 1 (some .boolean), Cond.methodLink RJ1 95 yJ1_indexOfChar_4cfef, Cond.static yJ1_indexOfChar_4cfef]
def wsL_law_r12 : List Cond := [Cond.code yJ1_indexOfChar_4cfef cJ1_indexOfChar_4cfef 6 (some .int), Cond.methodLink RJ0 640 yJ2_indexOf_4cfef, Cond.static yJ2_indexOf_4cfef, Cond.code yJ2_indexOf_4cfef cJ2_indexOf_4cfef 4 (some .int), Cond.methodLink RJ2 224 Lib.Math.max.name, Cond.methodLink RJ2 183 Lib.Math.min.name, Cond.constant RJ2 227 (65536), Cond.methodLink RJ2 228 yJ2_indexOfChar_4cfef, Cond.static yJ2_indexOfChar_4cfef, Cond.code yJ2_indexOfChar_4cfef cJ2_indexOfChar_4cfef 4 (some .int), Cond.methodLink RJ2 96 yJ2_checkBoundsBeginEnd_d044e, Cond.static yJ2_checkBoundsBeginEnd_d044e, Cond.code yJ2_checkBoundsBeginEnd_d044e cJ2_checkBoundsBeginEnd_d044e 3 none, Cond.methodLink RJ2 241 yJ0_checkBoundsBeginEnd_23922, Cond.static yJ0_checkBoundsBeginEnd_23922, Cond.code yJ0_checkBoundsBeginEnd_23922 cJ0_checkBoundsBeginEnd_23922 3 none, Cond.methodLink RJ0 1062 yJ3_checkFromToIndex_8c36e, Cond.static yJ3_checkFromToIndex_8c36e, Cond.code yJ3_checkFromToIndex_8c36e cJ3_checkFromToIndex_8c36e 4 (some .int), Cond.methodLink RJ2 244 yJ2_indexOfCharUnsafe_4cfef, Cond.static yJ2_indexOfCharUnsafe_4cfef, Cond.code yJ2_indexOfCharUnsafe_4cfef cJ2_indexOfCharUnsafe_4cfef 5 (some .int), Cond.methodLink RJ2 232 yJ2_indexOfSupplementary_4cfef, Cond.static yJ2_indexOfSupplementary_4cfef]
def wsL_law_r13 : List Cond := [Cond.code yJ2_indexOfSupplementary_4cfef cJ2_indexOfSupplementary_4cfef 7 (some .int), Cond.methodLink RJ2 164 yJ11_isValidCodePoint_9a6ad, Cond.static yJ11_isValidCodePoint_9a6ad, Cond.initialized RJ11, Cond.code yJ11_isValidCodePoint_9a6ad cJ11_isValidCodePoint_9a6ad 2 (some .boolean), Cond.methodLink RJ2 157 yJ11_highSurrogate_5068e, Cond.static yJ11_highSurrogate_5068e, Cond.code yJ11_highSurrogate_5068e cJ11_highSurrogate_5068e 1 (some .char), Cond.constant RJ11 110 (55232), Cond.methodLink RJ2 161 yJ11_lowSurrogate_5068e, Cond.static yJ11_lowSurrogate_5068e, Cond.code yJ11_lowSurrogate_5068e cJ11_lowSurrogate_5068e 1 (some .char), Cond.constant RJ11 76 (56320), Cond.methodLink RL 22 yX12_hill, Cond.instanceMethod yX12_hill, Cond.selects RX12 yX12_hill yX12_hill, Cond.code yX12_hill cX12_hill 2 (some .int), Cond.fieldLink RX12 86 "MistHeapsModel" "act" "I", Cond.fieldLink RX12 62 "MistHeapsModel" "end" "I", Cond.fieldLink RX12 59 "MistHeapsModel" "spot" "I", Cond.fieldLink RX12 65 "MistHeapsModel" "isWrong" "Z", Cond.fieldLink RX12 89 "MistHeapsModel" "open" "I", Cond.methodLink RX12 134 yX12_clauseHere, Cond.instanceMethod yX12_clauseHere]
def wsL_law_r14 : List Cond := [Cond.selects RX12 yX12_clauseHere yX12_clauseHere, Cond.code yX12_clauseHere cX12_clauseHere 1 none, Cond.methodLink RX12 69 yX12_here, Cond.instanceMethod yX12_here, Cond.selects RX12 yX12_here yX12_here, Cond.code yX12_here cX12_here 1 (some .int), Cond.methodLink RX12 127 yX12_clauseOfS, Cond.instanceMethod yX12_clauseOfS, Cond.selects RX12 yX12_clauseOfS yX12_clauseOfS, Cond.code yX12_clauseOfS cX12_clauseOfS 2 none, Cond.methodLink RX12 82 yX12_must, Cond.instanceMethod yX12_must, Cond.selects RX12 yX12_must yX12_must, Cond.code yX12_must cX12_must 2 none, Cond.methodLink RX12 121 yX12_much, Cond.instanceMethod yX12_much, Cond.selects RX12 yX12_much yX12_much, Cond.code yX12_much cX12_much 4 none, Cond.methodLink RX12 115 yX12_spells, Cond.instanceMethod yX12_spells, Cond.selects RX12 yX12_spells yX12_spells, Cond.code yX12_spells cX12_spells 3 none, Cond.methodLink RX12 73 yJ0_length_8abf5, Cond.methodLink RX12 78 yJ0_charAt_5068e]
def wsL_law_r15 : List Cond := [Cond.methodLink RX12 109 yX12_figures, Cond.instanceMethod yX12_figures, Cond.selects RX12 yX12_figures yX12_figures, Cond.code yX12_figures cX12_figures 3 (some .int), Cond.methodLink RX12 98 yX12_some, Cond.instanceMethod yX12_some, Cond.selects RX12 yX12_some yX12_some, Cond.code yX12_some cX12_some 1 none, Cond.methodLink RX12 112 yX12_every, Cond.instanceMethod yX12_every, Cond.selects RX12 yX12_every yX12_every, Cond.methodLink RX12 95 yX12_emits, Cond.instanceMethod yX12_emits, Cond.selects RX12 yX12_emits yX12_emits, Cond.code yX12_emits cX12_emits 2 none, Cond.code yX12_every cX12_every 1 none, Cond.methodLink RX12 92 yX12_factor, Cond.instanceMethod yX12_factor, Cond.selects RX12 yX12_factor yX12_factor, Cond.code yX12_factor cX12_factor 5 none, Cond.methodLink RX12 103 yX12_among, Cond.instanceMethod yX12_among, Cond.selects RX12 yX12_among yX12_among, Cond.code yX12_among cX12_among 3 (some .int)]
def wsL_law_r16 : List Cond := [Cond.methodLink RL 25 yX11_edges, Cond.instanceMethod yX11_edges, Cond.selects RX11 yX11_edges yX11_edges, Cond.code yX11_edges cX11_edges 4 (some .int), Cond.constantLong RX11 71 (-68719476736), Cond.fieldLink RX11 73 "MistHeaps$Scene" "edges" "J", Cond.methodLink RX11 77 yJ13_bitCount_95d88, Cond.static yJ13_bitCount_95d88, Cond.initialized RJ13, Cond.code yJ13_bitCount_95d88 cJ13_bitCount_95d88 2 (some .int), Cond.constantLong RJ13 314 (6148914691236517205), Cond.constantLong RJ13 316 (3689348814741910323), Cond.constantLong RJ13 318 (1085102592571150095), Cond.methodLink RL 29 yX12_edges, Cond.instanceMethod yX12_edges, Cond.selects RX12 yX12_edges yX12_edges, Cond.code yX12_edges cX12_edges 5 (some .int), Cond.methodLink RX12 137 yX12_edgesMany, Cond.instanceMethod yX12_edgesMany, Cond.selects RX12 yX12_edgesMany yX12_edgesMany, Cond.code yX12_edgesMany cX12_edgesMany 3 (some .int), Cond.methodLink RL 30 yX11_set, Cond.instanceMethod yX11_set, Cond.selects RX11 yX11_set yX11_set]
def wsL_law_r17 : List Cond := [Cond.code yX11_set cX11_set 4 (some .int), Cond.fieldLink RX11 85 "MistHeaps$Scene" "mist" "I", Cond.fieldLink RX11 88 "MistHeaps$Scene" "snow" "I", Cond.methodLink RX11 81 yX11_told, Cond.instanceMethod yX11_told, Cond.selects RX11 yX11_told yX11_told, Cond.code yX11_told cX11_told 2 (some .int), Cond.fieldLink RX11 91 "MistHeaps$Hill" "sight" "I", Cond.methodLink RL 34 yX12_set, Cond.instanceMethod yX12_set, Cond.selects RX12 yX12_set yX12_set, Cond.code yX12_set cX12_set 4 (some .int), Cond.methodLink RL 35 yX11_told, Cond.methodLink RL 38 yX12_told, Cond.instanceMethod yX12_told, Cond.selects RX12 yX12_told yX12_told, Cond.code yX12_told cX12_told 2 (some .int), Cond.methodLink RX12 140 yX12_sight, Cond.instanceMethod yX12_sight, Cond.selects RX12 yX12_sight yX12_sight, Cond.code yX12_sight cX12_sight 1 (some .int), Cond.methodLink RL 39 yX11_heap, Cond.instanceMethod yX11_heap, Cond.selects RX11 yX11_heap yX11_heap]
def wsL_law_r18 : List Cond := [Cond.code yX11_heap cX11_heap 4 (some .int), Cond.fieldLink RX11 101 "MistHeaps$Scene" "heapCount" "I", Cond.fieldLink RX11 104 "MistHeaps$Scene" "heaps" "[LMistHeaps$Heap;", Cond.methodLink RX11 94 yX11_isCell, Cond.static yX11_isCell, Cond.code yX11_isCell cX11_isCell 1 (some .boolean), Cond.methodLink RX11 98 yX8_isTaken, Cond.instanceMethod yX8_isTaken, Cond.selects RX8 yX8_isTaken yX8_isTaken, Cond.code yX8_isTaken cX8_isTaken 3 (some .boolean), Cond.fieldLink RX8 60 "MistHeaps$Scene" "heapCount" "I", Cond.fieldLink RX8 73 "MistHeaps$Heap" "cell" "I", Cond.methodLink RX11 108 yX11_heapOfKind, Cond.static yX11_heapOfKind, Cond.code yX11_heapOfKind cX11_heapOfKind 4 (some (.object "MistHeaps$Heap")), Cond.classLink RX11 276 RX4, Cond.instantiable RX4 4, Cond.initialized RX4, Cond.classLink RX11 281 RX6, Cond.instantiable RX6 4, Cond.initialized RX6, Cond.classLink RX11 284 RX1, Cond.instantiable RX1 4, Cond.initialized RX1]
def wsL_law_r19 : List Cond := [Cond.classLink RX11 287 RX10, Cond.instantiable RX10 4, Cond.initialized RX10, Cond.classLink RX11 290 RX9, Cond.instantiable RX9 4, Cond.initialized RX9, Cond.classLink RX11 293 RX7, Cond.instantiable RX7 4, Cond.initialized RX7, Cond.classLink RX11 117 RX3, Cond.methodLink RX11 278 yX4_init, Cond.instanceMethod yX4_init, Cond.code yX4_init cX4_init 5 none, Cond.methodLink RX4 1 yX3_init, Cond.methodLink RX11 283 yX6_init, Cond.instanceMethod yX6_init, Cond.code yX6_init cX6_init 5 none, Cond.methodLink RX6 1 yX3_init, Cond.methodLink RX11 286 yX1_init, Cond.instanceMethod yX1_init, Cond.code yX1_init cX1_init 5 none, Cond.methodLink RX1 1 yX3_init, Cond.methodLink RX11 289 yX10_init, Cond.instanceMethod yX10_init]
def wsL_law_r20 : List Cond := [Cond.code yX10_init cX10_init 5 none, Cond.methodLink RX10 3 yX4_init, Cond.methodLink RX11 292 yX9_init, Cond.instanceMethod yX9_init, Cond.code yX9_init cX9_init 5 none, Cond.methodLink RX9 1 yX6_init, Cond.methodLink RX11 295 yX7_init, Cond.instanceMethod yX7_init, Cond.code yX7_init cX7_init 5 none, Cond.methodLink RX7 1 yX1_init, Cond.methodLink RX11 296 yX3_init, Cond.methodLink RL 43 yX12_heap, Cond.instanceMethod yX12_heap, Cond.selects RX12 yX12_heap yX12_heap, Cond.code yX12_heap cX12_heap 4 (some .int), Cond.methodLink RX12 149 yX12_isCell, Cond.static yX12_isCell, Cond.code yX12_isCell cX12_isCell 1 (some .boolean), Cond.methodLink RX12 153 yX12_heapOn, Cond.instanceMethod yX12_heapOn, Cond.selects RX12 yX12_heapOn yX12_heapOn, Cond.code yX12_heapOn cX12_heapOn 4 (some .int), Cond.methodLink RX12 156 yX12_puts, Cond.instanceMethod yX12_puts]
def wsL_law_r21 : List Cond := [Cond.selects RX12 yX12_puts yX12_puts, Cond.code yX12_puts cX12_puts 5 (some .int), Cond.methodLink RL 44 yX11_of, Cond.instanceMethod yX11_of, Cond.selects RX11 yX11_of yX11_of, Cond.code yX11_of cX11_of 4 (some .int), Cond.fieldLink RX11 116 "MistHeaps$Heap" "kind" "I", Cond.fieldLink RX11 121 "MistHeaps$Heap" "v" "I", Cond.fieldLink RX11 124 "MistHeaps$Heap" "cell" "I", Cond.methodLink RX11 112 yX8_heapAt, Cond.instanceMethod yX8_heapAt, Cond.selects RX8 yX8_heapAt yX8_heapAt, Cond.code yX8_heapAt cX8_heapAt 2 (some (.object "MistHeaps$Heap")), Cond.methodLink RX11 127 yX8_reachOf, Cond.instanceMethod yX8_reachOf, Cond.selects RX8 yX8_reachOf yX8_reachOf, Cond.code yX8_reachOf cX8_reachOf 4 (some .int), Cond.fieldLink RX8 76 "MistHeaps$Heap" "number" "I", Cond.fieldLink RX8 79 "MistHeaps$Heap" "kind" "I", Cond.fieldLink RX8 86 "MistHeaps$Hill" "sight" "I", Cond.fieldLink RX8 54 "MistHeaps$Scene" "mist" "I", Cond.methodLink RX8 82 yX8_tellFacts, Cond.instanceMethod yX8_tellFacts, Cond.selects RX8 yX8_tellFacts yX8_tellFacts]
def wsL_law_r22 : List Cond := [Cond.code yX8_tellFacts cX8_tellFacts 5 none, Cond.static yX11_rowOf, Cond.code yX11_rowOf cX11_rowOf 1 (some .int), Cond.static yX11_columnOf, Cond.code yX11_columnOf cX11_columnOf 1 (some .int), Cond.methodLink RX8 89 yX5_total, Cond.instanceMethod yX5_total, Cond.selects RX5 yX5_total yX5_total, Cond.code yX5_total cX5_total 5 (some .int), Cond.methodLink RX5 120 yX5_holds, Cond.instanceMethod yX5_holds, Cond.selects RX5 yX5_holds yX5_holds, Cond.code yX5_holds cX5_holds 7 (some .boolean), Cond.methodLink RX5 124 yX5_isSo, Cond.static yX5_isSo, Cond.code yX5_isSo cX5_isSo 4 (some .boolean), Cond.methodLink RX8 93 ⟨"MistHeaps$Heap", "reachBy", "(II)I"⟩, Cond.sameMethod "MistHeaps$Heap" "MistHeaps$Heap" "reachBy" "(II)I", Cond.selects RX1 ⟨"MistHeaps$Heap", "reachBy", "(II)I"⟩ yX3_reachBy, Cond.instanceMethod yX3_reachBy, Cond.code yX3_reachBy cX3_reachBy 3 (some .int), Cond.methodLink RX3 28 Lib.Math.max.name, Cond.methodLink RX8 93 yX3_reachBy, Cond.selects RX3 yX3_reachBy yX3_reachBy]
def wsL_law_r23 : List Cond := [Cond.instanceMethod ⟨"MistHeaps$Heap", "reachBy", "(II)I"⟩, Cond.selects RX4 ⟨"MistHeaps$Heap", "reachBy", "(II)I"⟩ yX4_reachBy, Cond.instanceMethod yX4_reachBy, Cond.code yX4_reachBy cX4_reachBy 3 (some .int), Cond.fieldLink RX4 7 "MistHeaps$High" "v" "I", Cond.sameField "MistHeaps$High" "MistHeaps$Heap" "v" "I", Cond.methodLink RX4 13 yX3_reachBy, Cond.superclass RX4 RX3, Cond.selects RX6 ⟨"MistHeaps$Heap", "reachBy", "(II)I"⟩ yX6_reachBy, Cond.instanceMethod yX6_reachBy, Cond.code yX6_reachBy cX6_reachBy 3 (some .int), Cond.methodLink RX6 7 yX3_reachBy, Cond.superclass RX6 RX3, Cond.selects RX7 ⟨"MistHeaps$Heap", "reachBy", "(II)I"⟩ yX7_reachBy, Cond.instanceMethod yX7_reachBy, Cond.code yX7_reachBy cX7_reachBy 3 (some .int), Cond.methodLink RX7 11 Lib.Math.min.name, Cond.selects RX9 ⟨"MistHeaps$Heap", "reachBy", "(II)I"⟩ yX9_reachBy, Cond.instanceMethod yX9_reachBy, Cond.code yX9_reachBy cX9_reachBy 3 (some .int), Cond.fieldLink RX9 7 "MistHeaps$Snowed" "v" "I", Cond.sameField "MistHeaps$Snowed" "MistHeaps$Heap" "v" "I", Cond.methodLink RX9 13 yX6_reachBy, Cond.sameMethod "MistHeaps$Low" "MistHeaps$Low" "reachBy" "(II)I"]
def wsL_law_r24 : List Cond := [Cond.superclass RX9 RX6, Cond.selects RX10 ⟨"MistHeaps$Heap", "reachBy", "(II)I"⟩ yX4_reachBy, Cond.methodLink RL 47 yX12_of, Cond.instanceMethod yX12_of, Cond.selects RX12 yX12_of yX12_of, Cond.code yX12_of cX12_of 3 (some .int), Cond.methodLink RX12 164 yX12_isHeap, Cond.instanceMethod yX12_isHeap, Cond.selects RX12 yX12_isHeap yX12_isHeap, Cond.code yX12_isHeap cX12_isHeap 2 (some .boolean), Cond.methodLink RX12 167 yX12_reachOf, Cond.instanceMethod yX12_reachOf, Cond.selects RX12 yX12_reachOf yX12_reachOf, Cond.code yX12_reachOf cX12_reachOf 5 (some .int), Cond.fieldLink RX12 143 "MistHeapsModel" "seeing" "I", Cond.methodLink RX12 160 yX12_looks, Cond.instanceMethod yX12_looks, Cond.selects RX12 yX12_looks yX12_looks, Cond.code yX12_looks cX12_looks 12 none, Cond.fieldLink RX12 146 "MistHeapsModel" "drifting" "I", Cond.methodLink RL 48 yX11_sees, Cond.instanceMethod yX11_sees, Cond.selects RX11 yX11_sees yX11_sees, Cond.code yX11_sees cX11_sees 2 (some .int)]
def wsL_law_r25 : List Cond := [Cond.methodLink RX11 131 yX2_measure, Cond.instanceMethod yX2_measure, Cond.selects RX2 yX2_measure yX2_measure, Cond.code yX2_measure cX2_measure 4 none, Cond.fieldLink RX2 27 "MistHeaps$Scene" "heapCount" "I", Cond.fieldLink RX2 33 "MistHeaps$Scene" "heaps" "[LMistHeaps$Heap;", Cond.methodLink RX2 37 yX8_reachOf, Cond.methodLink RX11 135 yX2_seenFrom, Cond.instanceMethod yX2_seenFrom, Cond.selects RX2 yX2_seenFrom yX2_seenFrom, Cond.code yX2_seenFrom cX2_seenFrom 5 (some .int), Cond.fieldLink RX2 41 "MistHeaps$Heap" "cell" "I", Cond.static yX11_apart, Cond.code yX11_apart cX11_apart 2 (some .int), Cond.methodLink RX11 263 Lib.Math.abs.name, Cond.static Lib.Math.abs.name, Cond.code Lib.Math.abs.name Lib.Math.abs.code 1 (some .int), Cond.methodLink RX11 204 Lib.Math.max.name, Cond.methodLink RX11 212 yX11_rowOf, Cond.methodLink RX11 215 yX11_columnOf, Cond.methodLink RL 51 yX12_sees, Cond.instanceMethod yX12_sees, Cond.selects RX12 yX12_sees yX12_sees, Cond.code yX12_sees cX12_sees 2 (some .int)]
def wsL_law_r26 : List Cond := [Cond.methodLink RX12 178 yX12_seesOf, Cond.instanceMethod yX12_seesOf, Cond.selects RX12 yX12_seesOf yX12_seesOf, Cond.code yX12_seesOf cX12_seesOf 4 (some .int), Cond.methodLink RX12 174 yX12_isSeen, Cond.instanceMethod yX12_isSeen, Cond.selects RX12 yX12_isSeen yX12_isSeen, Cond.code yX12_isSeen cX12_isSeen 3 (some .boolean), Cond.methodLink RX12 170 yX12_apart, Cond.static yX12_apart, Cond.code yX12_apart cX12_apart 4 (some .int), Cond.methodLink RX12 49 yX12_size, Cond.static yX12_size, Cond.code yX12_size cX12_size 1 (some .int), Cond.methodLink RL 52 yX11_where, Cond.instanceMethod yX11_where, Cond.selects RX11 yX11_where yX11_where, Cond.code yX11_where cX11_where 5 (some .long), Cond.constantLong RX11 139 (-9223372036854775808), Cond.methodLink RL 56 yX12_where, Cond.instanceMethod yX12_where, Cond.selects RX12 yX12_where yX12_where, Cond.code yX12_where cX12_where 5 (some .long), Cond.constantLong RX12 181 (-9223372036854775808)]
def wsL_law_r27 : List Cond := [Cond.methodLink RL 57 yX11_steps, Cond.instanceMethod yX11_steps, Cond.selects RX11 yX11_steps yX11_steps, Cond.code yX11_steps cX11_steps 3 (some .int), Cond.methodLink RX11 141 yX8_areHeaps, Cond.instanceMethod yX8_areHeaps, Cond.selects RX8 yX8_areHeaps yX8_areHeaps, Cond.code yX8_areHeaps cX8_areHeaps 3 (some .boolean), Cond.methodLink RX8 69 yX8_heapAt, Cond.methodLink RX11 145 yX2_link, Cond.instanceMethod yX2_link, Cond.selects RX2 yX2_link yX2_link, Cond.code yX2_link cX2_link 5 none, Cond.fieldLink RX2 52 "MistHeaps$Goings" "linked" "I", Cond.methodLink RX2 48 yX2_measure, Cond.methodLink RX2 55 yX2_tellGoing, Cond.instanceMethod yX2_tellGoing, Cond.selects RX2 yX2_tellGoing yX2_tellGoing, Cond.code yX2_tellGoing cX2_tellGoing 5 none, Cond.fieldLink RX2 59 "MistHeaps$Heap" "number" "I", Cond.methodLink RX2 62 ⟨"MistHeaps$Heap", "leadsTo", "(I)Z"⟩, Cond.sameMethod "MistHeaps$Heap" "MistHeaps$Heap" "leadsTo" "(I)Z", Cond.instanceMethod ⟨"MistHeaps$Heap", "leadsTo", "(I)Z"⟩, Cond.selects RX1 ⟨"MistHeaps$Heap", "leadsTo", "(I)Z"⟩ yX1_leadsTo]
def wsL_law_r28 : List Cond := [Cond.instanceMethod yX1_leadsTo, Cond.code yX1_leadsTo cX1_leadsTo 2 (some .boolean), Cond.code yX3_leadsTo cX3_leadsTo 2 (some .boolean), Cond.methodLink RX2 62 yX3_leadsTo, Cond.instanceMethod yX3_leadsTo, Cond.selects RX3 yX3_leadsTo yX3_leadsTo, Cond.selects RX4 ⟨"MistHeaps$Heap", "leadsTo", "(I)Z"⟩ yX3_leadsTo, Cond.selects RX6 ⟨"MistHeaps$Heap", "leadsTo", "(I)Z"⟩ yX3_leadsTo, Cond.selects RX7 ⟨"MistHeaps$Heap", "leadsTo", "(I)Z"⟩ yX1_leadsTo, Cond.selects RX9 ⟨"MistHeaps$Heap", "leadsTo", "(I)Z"⟩ yX3_leadsTo, Cond.selects RX10 ⟨"MistHeaps$Heap", "leadsTo", "(I)Z"⟩ yX10_leadsTo, Cond.instanceMethod yX10_leadsTo, Cond.code yX10_leadsTo cX10_leadsTo 3 (some .boolean), Cond.fieldLink RX10 9 "MistHeaps$Turning" "v" "I", Cond.sameField "MistHeaps$Turning" "MistHeaps$Heap" "v" "I", Cond.fieldLink RX10 23 "MistHeaps$Turning" "cell" "I", Cond.sameField "MistHeaps$Turning" "MistHeaps$Heap" "cell" "I", Cond.methodLink RX10 26 yX10_isOnSide, Cond.static yX10_isOnSide, Cond.code yX10_isOnSide cX10_isOnSide 2 (some .boolean), Cond.methodLink RX11 148 yX2_fewest, Cond.instanceMethod yX2_fewest, Cond.selects RX2 yX2_fewest yX2_fewest, Cond.code yX2_fewest cX2_fewest 7 (some .int)]
def wsL_law_r29 : List Cond := [Cond.methodLink RX2 66 yX2_onwardFrom, Cond.instanceMethod yX2_onwardFrom, Cond.selects RX2 yX2_onwardFrom yX2_onwardFrom, Cond.code yX2_onwardFrom cX2_onwardFrom 4 (some .int), Cond.methodLink RL 60 yX12_steps, Cond.instanceMethod yX12_steps, Cond.selects RX12 yX12_steps yX12_steps, Cond.code yX12_steps cX12_steps 3 (some .int), Cond.methodLink RX12 198 yX12_stepsOf, Cond.instanceMethod yX12_stepsOf, Cond.selects RX12 yX12_stepsOf yX12_stepsOf, Cond.code yX12_stepsOf cX12_stepsOf 3 (some .int), Cond.methodLink RX12 192 yX12_looksForGoings, Cond.instanceMethod yX12_looksForGoings, Cond.selects RX12 yX12_looksForGoings yX12_looksForGoings, Cond.code yX12_looksForGoings cX12_looksForGoings 3 none, Cond.methodLink RX12 186 yX12_doesGo, Cond.instanceMethod yX12_doesGo, Cond.selects RX12 yX12_doesGo yX12_doesGo, Cond.code yX12_doesGo cX12_doesGo 7 (some .boolean), Cond.methodLink RX12 53 yX12_rowsOf, Cond.static yX12_rowsOf, Cond.code yX12_rowsOf cX12_rowsOf 1 (some .int), Cond.methodLink RX12 183 yX12_isThatSide]
def wsL_law_r30 : List Cond := [Cond.static yX12_isThatSide, Cond.code yX12_isThatSide cX12_isThatSide 3 (some .boolean), Cond.methodLink RX12 56 yX12_columnsOf, Cond.static yX12_columnsOf, Cond.code yX12_columnsOf cX12_columnsOf 1 (some .int), Cond.methodLink RX12 195 yX12_stepsBut, Cond.instanceMethod yX12_stepsBut, Cond.selects RX12 yX12_stepsBut yX12_stepsBut, Cond.code yX12_stepsBut cX12_stepsBut 6 (some .int), Cond.methodLink RX12 189 yX12_spread, Cond.instanceMethod yX12_spread, Cond.selects RX12 yX12_spread yX12_spread, Cond.code yX12_spread cX12_spread 4 (some .int), Cond.methodLink RL 61 yX11_via, Cond.instanceMethod yX11_via, Cond.selects RX11 yX11_via yX11_via, Cond.code yX11_via cX11_via 3 (some .int), Cond.methodLink RX11 152 yX2_first, Cond.instanceMethod yX2_first, Cond.selects RX2 yX2_first yX2_first, Cond.code yX2_first cX2_first 5 (some .int), Cond.methodLink RX2 70 yX2_fewest, Cond.methodLink RX2 74 yX2_isGoing, Cond.instanceMethod yX2_isGoing]
def wsL_law_r31 : List Cond := [Cond.selects RX2 yX2_isGoing yX2_isGoing, Cond.code yX2_isGoing cX2_isGoing 3 (some .boolean), Cond.methodLink RL 64 yX12_via, Cond.instanceMethod yX12_via, Cond.selects RX12 yX12_via yX12_via, Cond.code yX12_via cX12_via 5 (some .int), Cond.methodLink RL 65 yX11_cuts, Cond.instanceMethod yX11_cuts, Cond.selects RX11 yX11_cuts yX11_cuts, Cond.code yX11_cuts cX11_cuts 3 (some .int), Cond.methodLink RX11 156 yX2_breaks, Cond.instanceMethod yX2_breaks, Cond.selects RX2 yX2_breaks yX2_breaks, Cond.code yX2_breaks cX2_breaks 5 (some .int), Cond.methodLink RL 68 yX12_cuts, Cond.instanceMethod yX12_cuts, Cond.selects RX12 yX12_cuts yX12_cuts, Cond.code yX12_cuts cX12_cuts 5 (some .int), Cond.methodLink RL 69 yX11_bears, Cond.instanceMethod yX11_bears, Cond.selects RX11 yX11_bears yX11_bears, Cond.code yX11_bears cX11_bears 4 (some .int), Cond.methodLink RL 72 yX12_bears, Cond.instanceMethod yX12_bears]
def wsL_law_r32 : List Cond := [Cond.selects RX12 yX12_bears yX12_bears, Cond.code yX12_bears cX12_bears 6 (some .int), Cond.methodLink RL 73 yX11_build, Cond.instanceMethod yX11_build, Cond.selects RX11 yX11_build yX11_build, Cond.code yX11_build cX11_build 5 (some .int), Cond.methodLink RX11 159 yX2_bestCell, Cond.instanceMethod yX2_bestCell, Cond.selects RX2 yX2_bestCell yX2_bestCell, Cond.code yX2_bestCell cX2_bestCell 8 (some .int), Cond.fieldLink RX2 78 "MistHeaps$Scene" "snow" "I", Cond.methodLink RX2 81 yX2_link, Cond.methodLink RX2 84 yX8_isTaken, Cond.methodLink RX2 87 yX2_join, Cond.instanceMethod yX2_join, Cond.selects RX2 yX2_join yX2_join, Cond.code yX2_join cX2_join 5 none, Cond.methodLink RX11 163 yX2_join, Cond.methodLink RL 76 yX12_build, Cond.instanceMethod yX12_build, Cond.selects RX12 yX12_build yX12_build, Cond.code yX12_build cX12_build 9 (some .int), Cond.methodLink RL 77 yX11_drift, Cond.instanceMethod yX11_drift]
def wsL_law_r33 : List Cond := [Cond.selects RX11 yX11_drift yX11_drift, Cond.code yX11_drift cX11_drift 2 (some .int), Cond.methodLink RX11 166 yX8_driftOn, Cond.instanceMethod yX8_driftOn, Cond.selects RX8 yX8_driftOn yX8_driftOn, Cond.code yX8_driftOn cX8_driftOn 2 (some .int), Cond.fieldLink RX8 57 "MistHeaps$Scene" "snow" "I", Cond.methodLink RX8 97 Lib.Math.min.name, Cond.methodLink RL 80 yX12_drift, Cond.instanceMethod yX12_drift, Cond.selects RX12 yX12_drift yX12_drift, Cond.code yX12_drift cX12_drift 2 (some .int), Cond.methodLink RX12 201 yX12_driftOf, Cond.instanceMethod yX12_driftOf, Cond.selects RX12 yX12_driftOf yX12_driftOf, Cond.code yX12_driftOf cX12_driftOf 2 (some .int), Cond.methodLink RL 81 yX11_walk, Cond.instanceMethod yX11_walk, Cond.selects RX11 yX11_walk yX11_walk, Cond.code yX11_walk cX11_walk 2 (some .int), Cond.fieldLink RX11 169 "MistHeaps$Scene" "walkSize" "I", Cond.fieldLink RX11 172 "MistHeaps$Scene" "walk" "[I", Cond.methodLink RL 84 yX12_walk, Cond.instanceMethod yX12_walk]
def wsL_law_r34 : List Cond := [Cond.selects RX12 yX12_walk yX12_walk, Cond.code yX12_walk cX12_walk 2 (some .int), Cond.methodLink RL 85 yX11_odds, Cond.instanceMethod yX11_odds, Cond.selects RX11 yX11_odds yX11_odds, Cond.code yX11_odds cX11_odds 8 (some .long), Cond.constantLong RX11 179 (-1), Cond.methodLink RX11 175 yX8_cellsSeeing, Cond.instanceMethod yX8_cellsSeeing, Cond.selects RX8 yX8_cellsSeeing yX8_cellsSeeing, Cond.code yX8_cellsSeeing cX8_cellsSeeing 7 (some .long), Cond.methodLink RX8 109 yX8_reachOf, Cond.methodLink RX11 181 yX0_walked, Cond.instanceMethod yX0_walked, Cond.selects RX0 yX0_walked yX0_walked, Cond.code yX0_walked cX0_walked 9 (some .long), Cond.fieldLink RX0 31 "MistHeaps$Scene" "walkSize" "I", Cond.fieldLink RX0 37 "MistHeaps$Scene" "walk" "[I", Cond.methodLink RX0 27 yX0_begin, Cond.instanceMethod yX0_begin, Cond.selects RX0 yX0_begin yX0_begin, Cond.code yX0_begin cX0_begin 4 none, Cond.methodLink RX0 48 yX8_driftOn, Cond.methodLink RX0 40 yX0_spread]
def wsL_law_r35 : List Cond := [Cond.instanceMethod yX0_spread, Cond.selects RX0 yX0_spread yX0_spread, Cond.code yX0_spread cX0_spread 9 none, Cond.fieldLink RX0 52 "MistHeaps$Scene" "edges" "J", Cond.constantLong RX0 25 (20), Cond.static yX11_isIn, Cond.code yX11_isIn cX11_isIn 3 (some .boolean), Cond.static yX11_besideOrSame, Cond.code yX11_besideOrSame cX11_besideOrSame 4 (some .int), Cond.fieldLink RX11 266 "MistHeaps" "DOWN" "[I", Cond.fieldLink RX11 269 "MistHeaps" "RIGHT" "[I", Cond.methodLink RX11 218 yX11_isOnHill, Cond.static yX11_isOnHill, Cond.code yX11_isOnHill cX11_isOnHill 2 (some .boolean), Cond.methodLink RX11 185 yX0_timesOf, Cond.static yX0_timesOf, Cond.code yX0_timesOf cX0_timesOf 4 (some .long), Cond.methodLink RX11 188 yX11_partOf, Cond.static yX11_partOf, Cond.code yX11_partOf cX11_partOf 7 (some .long), Cond.methodLink RX11 272 yX11_commonDivisor, Cond.static yX11_commonDivisor, Cond.code yX11_commonDivisor cX11_commonDivisor 7 (some .long), Cond.methodLink RL 89 yX12_odds]
def wsL_law_r36 : List Cond := [Cond.instanceMethod yX12_odds, Cond.selects RX12 yX12_odds yX12_odds, Cond.code yX12_odds cX12_odds 7 (some .long), Cond.methodLink RX12 209 yX12_looksForDrifts, Cond.instanceMethod yX12_looksForDrifts, Cond.selects RX12 yX12_looksForDrifts yX12_looksForDrifts, Cond.code yX12_looksForDrifts cX12_looksForDrifts 2 none, Cond.methodLink RX12 212 yX12_begins, Cond.instanceMethod yX12_begins, Cond.selects RX12 yX12_begins yX12_begins, Cond.code yX12_begins cX12_begins 3 none, Cond.methodLink RX12 215 yX12_goesOn, Cond.instanceMethod yX12_goesOn, Cond.selects RX12 yX12_goesOn yX12_goesOn, Cond.code yX12_goesOn cX12_goesOn 4 none, Cond.constantLong RX12 204 (20), Cond.methodLink RX12 206 yX12_nextTo, Cond.static yX12_nextTo, Cond.code yX12_nextTo cX12_nextTo 4 (some .int), Cond.methodLink RX12 218 yX12_seen, Cond.instanceMethod yX12_seen, Cond.selects RX12 yX12_seen yX12_seen, Cond.code yX12_seen cX12_seen 5 (some .long), Cond.methodLink RX12 222 yX12_over]
def wsL_law_r37 : List Cond := [Cond.instanceMethod yX12_over, Cond.selects RX12 yX12_over yX12_over, Cond.code yX12_over cX12_over 4 (some .long), Cond.methodLink RX12 226 yX12_twenties, Cond.static yX12_twenties, Cond.code yX12_twenties cX12_twenties 4 (some .long), Cond.methodLink RX12 229 yX12_lowest, Cond.static yX12_lowest, Cond.code yX12_lowest cX12_lowest 11 (some .long), Cond.methodLink RL 90 yX11_best, Cond.instanceMethod yX11_best, Cond.selects RX11 yX11_best yX11_best, Cond.code yX11_best cX11_best 5 (some .int), Cond.methodLink RX11 192 yX0_search, Cond.instanceMethod yX0_search, Cond.selects RX0 yX0_search yX0_search, Cond.code yX0_search cX0_search 11 none, Cond.constantLong RX0 64 (-1), Cond.fieldLink RX0 66 "MistHeaps$Chances" "foundTimes" "J", Cond.methodLink RX0 60 yX0_tellHits, Cond.instanceMethod yX0_tellHits, Cond.selects RX0 yX0_tellHits yX0_tellHits, Cond.code yX0_tellHits cX0_tellHits 6 none, Cond.methodLink RX0 73 yX0_hit]
def wsL_law_r38 : List Cond := [Cond.static yX0_hit, Cond.code yX0_hit cX0_hit 3 (some .int), Cond.methodLink RX0 69 yX0_tryLast, Cond.instanceMethod yX0_tryLast, Cond.selects RX0 yX0_tryLast yX0_tryLast, Cond.code yX0_tryLast cX0_tryLast 7 none, Cond.fieldLink RX0 77 "MistHeaps$Chances" "foundRow" "I", Cond.methodLink RX11 196 yX0_foundWay, Cond.instanceMethod yX0_foundWay, Cond.selects RX0 yX0_foundWay yX0_foundWay, Cond.code yX0_foundWay cX0_foundWay 3 (some .int), Cond.methodLink RL 94 yX12_best, Cond.instanceMethod yX12_best, Cond.selects RX12 yX12_best yX12_best, Cond.code yX12_best cX12_best 5 (some .int), Cond.methodLink RX12 240 yX12_bestRow, Cond.instanceMethod yX12_bestRow, Cond.selects RX12 yX12_bestRow yX12_bestRow, Cond.code yX12_bestRow cX12_bestRow 10 (some .int), Cond.fieldLink RX12 236 "MistHeapsModel" "bestOften" "J", Cond.methodLink RX12 233 yX12_goesBy, Cond.instanceMethod yX12_goesBy, Cond.selects RX12 yX12_goesBy yX12_goesBy, Cond.code yX12_goesBy cX12_goesBy 6 none]
def wsL_law_r39 : List Cond := [Cond.methodLink RX12 243 yX12_wayOf, Cond.static yX12_wayOf, Cond.code yX12_wayOf cX12_wayOf 4 (some .int), Cond.methodLink RL 95 yX11_bestOdds, Cond.instanceMethod yX11_bestOdds, Cond.selects RX11 yX11_bestOdds yX11_bestOdds, Cond.code yX11_bestOdds cX11_bestOdds 5 (some .long), Cond.fieldLink RX11 199 "MistHeaps$Chances" "foundTimes" "J", Cond.methodLink RL 99 yX12_bestOdds, Cond.instanceMethod yX12_bestOdds, Cond.selects RX12 yX12_bestOdds yX12_bestOdds, Cond.code yX12_bestOdds cX12_bestOdds 6 (some .long), Cond.methodLink RL 100 yX11_safe, Cond.instanceMethod yX11_safe, Cond.selects RX11 yX11_safe yX11_safe, Cond.code yX11_safe cX11_safe 4 (some .int), Cond.constantLong RX11 202 (68719476735), Cond.methodLink RL 103 yX12_safe, Cond.instanceMethod yX12_safe, Cond.selects RX12 yX12_safe yX12_safe, Cond.code yX12_safe cX12_safe 4 (some .int), Cond.methodLink RL 104 yX11_line, Cond.instanceMethod yX11_line, Cond.selects RX11 yX11_line yX11_line]
def wsL_law_r40 : List Cond := [Cond.code yX11_line cX11_line 7 (some .int), Cond.methodLink RX11 209 yX11_apart, Cond.methodLink RL 107 yX12_line, Cond.instanceMethod yX12_line, Cond.selects RX12 yX12_line yX12_line, Cond.code yX12_line cX12_line 6 (some .int), Cond.methodLink RL 108 yX11_next, Cond.instanceMethod yX11_next, Cond.selects RX11 yX11_next yX11_next, Cond.code yX11_next cX11_next 9 (some .int), Cond.methodLink RL 111 yX12_next, Cond.instanceMethod yX12_next, Cond.selects RX12 yX12_next yX12_next, Cond.code yX12_next cX12_next 9 (some .int), Cond.methodLink RL 112 yX11_book, Cond.instanceMethod yX11_book, Cond.selects RX11 yX11_book yX11_book, Cond.code yX11_book cX11_book 2 (some .int), Cond.fieldLink RX11 221 "MistHeaps$Scene" "bookSize" "I", Cond.fieldLink RX11 224 "MistHeaps$Scene" "book" "[I", Cond.methodLink RL 115 yX12_book, Cond.instanceMethod yX12_book, Cond.selects RX12 yX12_book yX12_book, Cond.code yX12_book cX12_book 2 (some .int)]
def wsL_law_r41 : List Cond := [Cond.methodLink RL 116 yX11_looked, Cond.instanceMethod yX11_looked, Cond.selects RX11 yX11_looked yX11_looked, Cond.code yX11_looked cX11_looked 2 (some .int), Cond.methodLink RX11 227 yX2_isGoing, Cond.methodLink RL 119 yX12_looked, Cond.instanceMethod yX12_looked, Cond.selects RX12 yX12_looked yX12_looked, Cond.code yX12_looked cX12_looked 2 (some .int), Cond.methodLink RL 120 yX11_act, Cond.instanceMethod yX11_act, Cond.selects RX11 yX11_act yX11_act, Cond.code yX11_act cX11_act 5 (some .int), Cond.methodLink RX11 230 yJx4a65c_clear_da8c8, Cond.instanceMethod yJx4a65c_clear_da8c8, Cond.selects RJx4a65c yJx4a65c_clear_da8c8 yJx4a65c_clear_da8c8, Cond.code yJx4a65c_clear_da8c8 cJx4a65c_clear_da8c8 4 none, Cond.fieldLink RJx4a65c 63 "java/util/ArrayList" "modCount" "I", Cond.sameField "java/util/ArrayList" "java/util/AbstractList" "modCount" "I", Cond.fieldLink RJx4a65c 48 "java/util/ArrayList" "size" "I", Cond.methodLink RX11 233 ⟨"MistHeaps$Heap", "doSees", "(ILjava/util/ArrayList;)I"⟩, Cond.sameMethod "MistHeaps$Heap" "MistHeaps$Heap" "doSees" "(ILjava/util/ArrayList;)I", Cond.selects RX1 ⟨"MistHeaps$Heap", "doSees", "(ILjava/util/ArrayList;)I"⟩ yX3_doSees, Cond.instanceMethod yX3_doSees]
def wsL_law_r42 : List Cond := [Cond.code yX3_doSees cX3_doSees 3 (some .int), Cond.methodLink RX3 34 yX3_begin, Cond.static yX3_begin, Cond.code yX3_begin cX3_begin 2 none, Cond.methodLink RX3 45 yJx4a65c_size_8abf5, Cond.instanceMethod yJx4a65c_size_8abf5, Cond.selects RJx4a65c yJx4a65c_size_8abf5 yJx4a65c_size_8abf5, Cond.code yJx4a65c_size_8abf5 cJx4a65c_size_8abf5 1 (some .int), Cond.methodLink RX3 51 yJ6_valueOf_2dffe, Cond.static yJ6_valueOf_2dffe, Cond.initialized RJ6, Cond.code yJ6_valueOf_2dffe cJ6_valueOf_2dffe 1 (some (.object "java/lang/Integer")), Cond.fieldLink RJ6 191 "java/lang/Integer$IntegerCache" "high" "I", Cond.fieldLink RJ6 195 "java/lang/Integer$IntegerCache" "cache" "[Ljava/lang/Integer;", Cond.classLink RJ6 1 RJ6, Cond.instantiable RJ6 1, Cond.methodLink RJ6 199 yJ6_init_d00df, Cond.instanceMethod yJ6_init_d00df, Cond.code yJ6_init_d00df cJ6_init_d00df 2 none, Cond.fieldLink RJ6 205 "java/lang/Integer" "value" "I", Cond.methodLink RJ6 202 yJxd2413_init_da8c8, Cond.instanceMethod yJxd2413_init_da8c8, Cond.initialized RJxd2413, Cond.code yJxd2413_init_da8c8 cJxd2413_init_da8c8 1 none]
def wsL_law_r43 : List Cond := [Cond.methodLink RJxd2413 1 objectInit, Cond.methodLink RX3 57 yJx4a65c_add_9ea2d, Cond.instanceMethod yJx4a65c_add_9ea2d, Cond.selects RJx4a65c yJx4a65c_add_9ea2d yJx4a65c_add_9ea2d, Cond.code yJx4a65c_add_9ea2d cJx4a65c_add_9ea2d 2 (some .boolean), Cond.methodLink RJx4a65c 131 yJx4a65c_add_72be8, Cond.instanceMethod yJx4a65c_add_72be8, Cond.selects RJx4a65c yJx4a65c_add_72be8 yJx4a65c_add_72be8, Cond.code yJx4a65c_add_72be8 cJx4a65c_add_72be8 4 none, Cond.methodLink RJx4a65c 129 yJx4a65c_grow_d5877, Cond.instanceMethod yJx4a65c_grow_d5877, Cond.selects RJx4a65c yJx4a65c_grow_d5877 yJx4a65c_grow_d5877, Cond.code yJx4a65c_grow_d5877 cJx4a65c_grow_d5877 1 (some (.array (.object "java/lang/Object"))), Cond.methodLink RJx4a65c 69 yJx4a65c_grow_92f84, Cond.instanceMethod yJx4a65c_grow_92f84, Cond.selects RJx4a65c yJx4a65c_grow_92f84 yJx4a65c_grow_92f84, Cond.code yJx4a65c_grow_92f84 cJx4a65c_grow_92f84 4 (some (.array (.object "java/lang/Object"))), Cond.methodLink RJx4a65c 79 Lib.Math.max.name, Cond.classLink RJx4a65c 7 "java/lang/Object", Cond.methodLink RJx4a65c 73 yJ8_newLength_cabcc, Cond.static yJ8_newLength_cabcc, Cond.initialized RJ8, Cond.code yJ8_newLength_cabcc cJ8_newLength_cabcc 4 (some .int), Cond.methodLink RJ8 194 Lib.Math.max.name]
def wsL_law_r44 : List Cond := [Cond.constant RJ8 200 (2147483639), Cond.methodLink RJ8 201 yJ8_hugeLength_7cf53, Cond.static yJ8_hugeLength_7cf53, Cond.code yJ8_hugeLength_7cf53 cJ8_hugeLength_7cf53 3 (some .int), Cond.methodLink RJx4a65c 66 yJ7_copyOf_1904c, Cond.static yJ7_copyOf_1904c, Cond.initialized RJ7, Cond.code yJ7_copyOf_1904c cJ7_copyOf_1904c 2 (some (.array (.object "java/lang/Object"))), Cond.methodLink RJ7 86 ⟨"java/lang/Object", "getClass", "()Ljava/lang/Class;"⟩, Cond.selects "[Ljava/lang/Object;" ⟨"java/lang/Object", "getClass", "()Ljava/lang/Class;"⟩ ⟨"java/lang/Object", "getClass", "()Ljava/lang/Class;"⟩, Cond.instanceMethod ⟨"java/lang/Object", "getClass", "()Ljava/lang/Class;"⟩, Cond.native ⟨"java/lang/Object", "getClass", "()Ljava/lang/Class;"⟩, Cond.methodLink RJ7 300 yJ7_copyOf_6403c, Cond.static yJ7_copyOf_6403c, Cond.code yJ7_copyOf_6403c cJ7_copyOf_6403c 4 (some (.array (.object "java/lang/Object"))), Cond.classLink RJ7 110 "[Ljava/lang/Object;", Cond.classLink RJ7 2 "java/lang/Object", Cond.methodLink RJ7 304 Lib.Math.min.name, Cond.methodLink RJ7 150 arraycopyName, Cond.native arraycopyName, Cond.static arraycopyName, Cond.initialized "java/lang/System", Cond.methodLink RX11 233 yX3_doSees, Cond.selects RX3 yX3_doSees yX3_doSees]
def wsL_law_r45 : List Cond := [Cond.instanceMethod ⟨"MistHeaps$Heap", "doSees", "(ILjava/util/ArrayList;)I"⟩, Cond.selects RX4 ⟨"MistHeaps$Heap", "doSees", "(ILjava/util/ArrayList;)I"⟩ yX4_doSees, Cond.instanceMethod yX4_doSees, Cond.code yX4_doSees cX4_doSees 3 (some .int), Cond.methodLink RX4 21 yX3_doSees, Cond.selects RX6 ⟨"MistHeaps$Heap", "doSees", "(ILjava/util/ArrayList;)I"⟩ yX3_doSees, Cond.selects RX7 ⟨"MistHeaps$Heap", "doSees", "(ILjava/util/ArrayList;)I"⟩ yX3_doSees, Cond.selects RX9 ⟨"MistHeaps$Heap", "doSees", "(ILjava/util/ArrayList;)I"⟩ yX9_doSees, Cond.instanceMethod yX9_doSees, Cond.code yX9_doSees cX9_doSees 3 (some .int), Cond.fieldLink RX9 25 "MistHeaps$Snowed" "number" "I", Cond.sameField "MistHeaps$Snowed" "MistHeaps$Heap" "number" "I", Cond.selects RX10 ⟨"MistHeaps$Heap", "doSees", "(ILjava/util/ArrayList;)I"⟩ yX4_doSees, Cond.methodLink RX11 237 ⟨"MistHeaps$Heap", "doGoes", "(ILjava/util/ArrayList;)I"⟩, Cond.sameMethod "MistHeaps$Heap" "MistHeaps$Heap" "doGoes" "(ILjava/util/ArrayList;)I", Cond.selects RX1 ⟨"MistHeaps$Heap", "doGoes", "(ILjava/util/ArrayList;)I"⟩ yX3_doGoes, Cond.instanceMethod yX3_doGoes, Cond.code yX3_doGoes cX3_doGoes 3 (some .int), Cond.methodLink RX3 38 ⟨"MistHeaps$Heap", "doSees", "(ILjava/util/ArrayList;)I"⟩, Cond.methodLink RX3 38 yX3_doSees, Cond.methodLink RX11 237 yX3_doGoes, Cond.selects RX3 yX3_doGoes yX3_doGoes, Cond.selects RX4 ⟨"MistHeaps$Heap", "doGoes", "(ILjava/util/ArrayList;)I"⟩ yX3_doGoes, Cond.instanceMethod ⟨"MistHeaps$Heap", "doGoes", "(ILjava/util/ArrayList;)I"⟩]
def wsL_law_r46 : List Cond := [Cond.selects RX6 ⟨"MistHeaps$Heap", "doGoes", "(ILjava/util/ArrayList;)I"⟩ yX6_doGoes, Cond.instanceMethod yX6_doGoes, Cond.code yX6_doGoes cX6_doGoes 3 (some .int), Cond.methodLink RX6 17 yX3_doGoes, Cond.selects RX7 ⟨"MistHeaps$Heap", "doGoes", "(ILjava/util/ArrayList;)I"⟩ yX7_doGoes, Cond.instanceMethod yX7_doGoes, Cond.code yX7_doGoes cX7_doGoes 3 (some .int), Cond.fieldLink RX7 26 "MistHeaps$Old" "v" "I", Cond.sameField "MistHeaps$Old" "MistHeaps$Heap" "v" "I", Cond.selects RX9 ⟨"MistHeaps$Heap", "doGoes", "(ILjava/util/ArrayList;)I"⟩ yX6_doGoes, Cond.selects RX10 ⟨"MistHeaps$Heap", "doGoes", "(ILjava/util/ArrayList;)I"⟩ yX3_doGoes, Cond.methodLink RX11 240 ⟨"MistHeaps$Heap", "doLooks", "(ILjava/util/ArrayList;)I"⟩, Cond.sameMethod "MistHeaps$Heap" "MistHeaps$Heap" "doLooks" "(ILjava/util/ArrayList;)I", Cond.instanceMethod ⟨"MistHeaps$Heap", "doLooks", "(ILjava/util/ArrayList;)I"⟩, Cond.selects RX1 ⟨"MistHeaps$Heap", "doLooks", "(ILjava/util/ArrayList;)I"⟩ yX1_doLooks, Cond.instanceMethod yX1_doLooks, Cond.code yX1_doLooks cX1_doLooks 3 (some .int), Cond.methodLink RX1 13 yX3_doLooks, Cond.superclass RX1 RX3, Cond.instanceMethod yX3_doLooks, Cond.code yX3_doLooks cX3_doLooks 3 (some .int), Cond.methodLink RX3 42 ⟨"MistHeaps$Heap", "doGoes", "(ILjava/util/ArrayList;)I"⟩, Cond.methodLink RX3 42 yX3_doGoes, Cond.methodLink RX11 240 yX3_doLooks]
def wsL_law_r47 : List Cond := [Cond.selects RX3 yX3_doLooks yX3_doLooks, Cond.selects RX4 ⟨"MistHeaps$Heap", "doLooks", "(ILjava/util/ArrayList;)I"⟩ yX3_doLooks, Cond.selects RX6 ⟨"MistHeaps$Heap", "doLooks", "(ILjava/util/ArrayList;)I"⟩ yX3_doLooks, Cond.selects RX7 ⟨"MistHeaps$Heap", "doLooks", "(ILjava/util/ArrayList;)I"⟩ yX1_doLooks, Cond.selects RX9 ⟨"MistHeaps$Heap", "doLooks", "(ILjava/util/ArrayList;)I"⟩ yX3_doLooks, Cond.selects RX10 ⟨"MistHeaps$Heap", "doLooks", "(ILjava/util/ArrayList;)I"⟩ yX10_doLooks, Cond.instanceMethod yX10_doLooks, Cond.code yX10_doLooks cX10_doLooks 4 (some .int), Cond.methodLink RX10 44 ⟨"MistHeaps$Turning", "doSees", "(ILjava/util/ArrayList;)I"⟩, Cond.sameMethod "MistHeaps$Turning" "MistHeaps$High" "doSees" "(ILjava/util/ArrayList;)I", Cond.selects RX10 ⟨"MistHeaps$Turning", "doSees", "(ILjava/util/ArrayList;)I"⟩ yX4_doSees, Cond.methodLink RL 123 yX12_act, Cond.instanceMethod yX12_act, Cond.selects RX12 yX12_act yX12_act, Cond.code yX12_act cX12_act 4 (some .int), Cond.fieldLink RX12 246 "MistHeapsModel" "ran" "I", Cond.fieldLink RX12 255 "MistHeapsModel" "kind" "I", Cond.fieldLink RX12 252 "MistHeapsModel" "number" "I", Cond.fieldLink RX12 267 "MistHeapsModel" "tellsV" "I", Cond.methodLink RX12 264 yX12_seesActs, Cond.instanceMethod yX12_seesActs, Cond.selects RX12 yX12_seesActs yX12_seesActs, Cond.code yX12_seesActs cX12_seesActs 2 (some .int), Cond.methodLink RX12 258 yX12_isUnder]
def wsL_law_r48 : List Cond := [Cond.static yX12_isUnder, Cond.code yX12_isUnder cX12_isUnder 2 (some .boolean), Cond.methodLink RX12 249 yX12_ranBody, Cond.instanceMethod yX12_ranBody, Cond.selects RX12 yX12_ranBody yX12_ranBody, Cond.code yX12_ranBody cX12_ranBody 2 none, Cond.methodLink RX12 261 yX12_plainSees, Cond.instanceMethod yX12_plainSees, Cond.selects RX12 yX12_plainSees yX12_plainSees, Cond.code yX12_plainSees cX12_plainSees 2 (some .int), Cond.methodLink RX12 273 yX12_goesActs, Cond.instanceMethod yX12_goesActs, Cond.selects RX12 yX12_goesActs yX12_goesActs, Cond.code yX12_goesActs cX12_goesActs 2 (some .int), Cond.methodLink RX12 270 yX12_plainGoes, Cond.instanceMethod yX12_plainGoes, Cond.selects RX12 yX12_plainGoes yX12_plainGoes, Cond.code yX12_plainGoes cX12_plainGoes 2 (some .int), Cond.methodLink RX12 279 yX12_looksActs, Cond.instanceMethod yX12_looksActs, Cond.selects RX12 yX12_looksActs yX12_looksActs, Cond.code yX12_looksActs cX12_looksActs 3 (some .int), Cond.methodLink RX12 276 yX12_plainLooks, Cond.instanceMethod yX12_plainLooks]
def wsL_law_r49 : List Cond := [Cond.selects RX12 yX12_plainLooks yX12_plainLooks, Cond.code yX12_plainLooks cX12_plainLooks 2 (some .int), Cond.methodLink RL 124 yX11_trace, Cond.instanceMethod yX11_trace, Cond.selects RX11 yX11_trace yX11_trace, Cond.code yX11_trace cX11_trace 2 (some .int), Cond.classLink RX11 251 "java/lang/Integer", Cond.methodLink RX11 243 yJx4a65c_size_8abf5, Cond.methodLink RX11 247 yJx4a65c_get_915e3, Cond.instanceMethod yJx4a65c_get_915e3, Cond.selects RJx4a65c yJx4a65c_get_915e3 yJx4a65c_get_915e3, Cond.code yJx4a65c_get_915e3 cJx4a65c_get_915e3 2 (some (.object "java/lang/Object")), Cond.methodLink RJx4a65c 118 yJ15_checkIndex_7cf53, Cond.static yJ15_checkIndex_7cf53, Cond.initialized RJ15, Cond.code yJ15_checkIndex_7cf53 cJ15_checkIndex_7cf53 2 (some .int), Cond.methodLink RJ15 105 yJ3_checkIndex_8e157, Cond.methodLink RJx4a65c 123 yJx4a65c_elementData_915e3, Cond.instanceMethod yJx4a65c_elementData_915e3, Cond.selects RJx4a65c yJx4a65c_elementData_915e3 yJx4a65c_elementData_915e3, Cond.code yJx4a65c_elementData_915e3 cJx4a65c_elementData_915e3 2 (some (.object "java/lang/Object")), Cond.methodLink RX11 253 yJ6_intValue_8abf5, Cond.instanceMethod yJ6_intValue_8abf5, Cond.selects RJ6 yJ6_intValue_8abf5 yJ6_intValue_8abf5]
def wsL_law_r50 : List Cond := [Cond.code yJ6_intValue_8abf5 cJ6_intValue_8abf5 1 (some .int), Cond.methodLink RL 127 yX12_trace, Cond.instanceMethod yX12_trace, Cond.selects RX12 yX12_trace yX12_trace, Cond.code yX12_trace cX12_trace 2 (some .int), Cond.methodLink RL 128 yX11_as, Cond.instanceMethod yX11_as, Cond.selects RX11 yX11_as yX11_as, Cond.code yX11_as cX11_as 4 (some .int), Cond.methodLink RX11 256 ⟨"MistHeaps$Heap", "isOfKind", "(I)Z"⟩, Cond.sameMethod "MistHeaps$Heap" "MistHeaps$Heap" "isOfKind" "(I)Z", Cond.selects RX1 ⟨"MistHeaps$Heap", "isOfKind", "(I)Z"⟩ yX3_isOfKind, Cond.instanceMethod yX3_isOfKind, Cond.code yX3_isOfKind cX3_isOfKind 4 (some .boolean), Cond.methodLink RX11 256 yX3_isOfKind, Cond.selects RX3 yX3_isOfKind yX3_isOfKind, Cond.selects RX4 ⟨"MistHeaps$Heap", "isOfKind", "(I)Z"⟩ yX3_isOfKind, Cond.selects RX6 ⟨"MistHeaps$Heap", "isOfKind", "(I)Z"⟩ yX3_isOfKind, Cond.selects RX7 ⟨"MistHeaps$Heap", "isOfKind", "(I)Z"⟩ yX3_isOfKind, Cond.selects RX9 ⟨"MistHeaps$Heap", "isOfKind", "(I)Z"⟩ yX3_isOfKind, Cond.selects RX10 ⟨"MistHeaps$Heap", "isOfKind", "(I)Z"⟩ yX3_isOfKind, Cond.methodLink RL 131 yX12_as, Cond.instanceMethod yX12_as, Cond.selects RX12 yX12_as yX12_as]
def wsL_law_r51 : List Cond := [Cond.code yX12_as cX12_as 3 (some .int), Cond.methodLink RL 132 yX11_image, Cond.instanceMethod yX11_image, Cond.selects RX11 yX11_image yX11_image, Cond.code yX11_image cX11_image 1 (some .int), Cond.methodLink RX11 259 yX8_copyFrom, Cond.instanceMethod yX8_copyFrom, Cond.selects RX8 yX8_copyFrom yX8_copyFrom, Cond.code yX8_copyFrom cX8_copyFrom 3 none, Cond.methodLink RX8 37 arraycopyName, Cond.fieldLink RX8 43 "MistHeaps$Scene" "tapeSize" "I", Cond.fieldLink RX8 47 "MistHeaps$Scene" "hills" "I", Cond.fieldLink RX8 50 "MistHeaps$Scene" "edges" "J", Cond.fieldLink RX8 63 "MistHeaps$Scene" "walkSize" "I", Cond.fieldLink RX8 66 "MistHeaps$Scene" "bookSize" "I", Cond.methodLink RL 135 yX12_image, Cond.instanceMethod yX12_image, Cond.selects RX12 yX12_image yX12_image, Cond.code yX12_image cX12_image 2 (some .int), Cond.fieldLink RX12 282 "MistHeapsModel" "hasImage" "Z", Cond.methodLink RL 136 yX11_undo, Cond.instanceMethod yX11_undo, Cond.selects RX11 yX11_undo yX11_undo, Cond.code yX11_undo cX11_undo 1 (some .int)]
def wsL_law_r52 : List Cond := [Cond.methodLink RL 139 yX12_undo, Cond.instanceMethod yX12_undo, Cond.selects RX12 yX12_undo yX12_undo, Cond.code yX12_undo cX12_undo 2 (some .int), Cond.methodLink RL 140 yX11_count, Cond.instanceMethod yX11_count, Cond.selects RX11 yX11_count yX11_count, Cond.code yX11_count cX11_count 2 (some .int), Cond.methodLink RL 143 yX12_count, Cond.instanceMethod yX12_count, Cond.selects RX12 yX12_count yX12_count, Cond.code yX12_count cX12_count 2 (some .int)]
def wsL_law : List Cond := (wsL_law_r1 ++ (wsL_law_r2 ++ (wsL_law_r3 ++ (wsL_law_r4 ++ (wsL_law_r5 ++ (wsL_law_r6 ++ (wsL_law_r7 ++ (wsL_law_r8 ++ (wsL_law_r9 ++ (wsL_law_r10 ++ (wsL_law_r11 ++ (wsL_law_r12 ++ (wsL_law_r13 ++ (wsL_law_r14 ++ (wsL_law_r15 ++ (wsL_law_r16 ++ (wsL_law_r17 ++ (wsL_law_r18 ++ (wsL_law_r19 ++ (wsL_law_r20 ++ (wsL_law_r21 ++ (wsL_law_r22 ++ (wsL_law_r23 ++ (wsL_law_r24 ++ (wsL_law_r25 ++ (wsL_law_r26 ++ (wsL_law_r27 ++ (wsL_law_r28 ++ (wsL_law_r29 ++ (wsL_law_r30 ++ (wsL_law_r31 ++ (wsL_law_r32 ++ (wsL_law_r33 ++ (wsL_law_r34 ++ (wsL_law_r35 ++ (wsL_law_r36 ++ (wsL_law_r37 ++ (wsL_law_r38 ++ (wsL_law_r39 ++ (wsL_law_r40 ++ (wsL_law_r41 ++ (wsL_law_r42 ++ (wsL_law_r43 ++ (wsL_law_r44 ++ (wsL_law_r45 ++ (wsL_law_r46 ++ (wsL_law_r47 ++ (wsL_law_r48 ++ (wsL_law_r49 ++ (wsL_law_r50 ++ (wsL_law_r51 ++ wsL_law_r52))))))))))))))))))))))))))))))))))))))))))))))))))) ++ wsX110 ++ wsX120 ++ wsX80 ++ wsX50 ++ wsX20 ++ wsX00 ++ wsJx4a65c0 ++ wsX30 ++ wsX10 ++ wsX40 ++ wsX60 ++ wsX70 ++ wsX90 ++ wsX100 ++ wsJ60 ++ ([] : List Cond)
theorem inlX0 : ∀ w ∈ wsX00, w ∈ wsL_law := fun _ h => List.mem_append_left _ (List.mem_append_left _ (List.mem_append_left _ (List.mem_append_left _ (List.mem_append_left _ (List.mem_append_left _ (List.mem_append_left _ (List.mem_append_left _ (List.mem_append_left _ (List.mem_append_left _ (List.mem_append_right _ h))))))))))
theorem inlX1 : ∀ w ∈ wsX10, w ∈ wsL_law := fun _ h => List.mem_append_left _ (List.mem_append_left _ (List.mem_append_left _ (List.mem_append_left _ (List.mem_append_left _ (List.mem_append_left _ (List.mem_append_left _ (List.mem_append_right _ h)))))))
theorem inlX2 : ∀ w ∈ wsX20, w ∈ wsL_law := fun _ h => List.mem_append_left _ (List.mem_append_left _ (List.mem_append_left _ (List.mem_append_left _ (List.mem_append_left _ (List.mem_append_left _ (List.mem_append_left _ (List.mem_append_left _ (List.mem_append_left _ (List.mem_append_left _ (List.mem_append_left _ (List.mem_append_right _ h)))))))))))
theorem inlX3 : ∀ w ∈ wsX30, w ∈ wsL_law := fun _ h => List.mem_append_left _ (List.mem_append_left _ (List.mem_append_left _ (List.mem_append_left _ (List.mem_append_left _ (List.mem_append_left _ (List.mem_append_left _ (List.mem_append_left _ (List.mem_append_right _ h))))))))
theorem inlX4 : ∀ w ∈ wsX40, w ∈ wsL_law := fun _ h => List.mem_append_left _ (List.mem_append_left _ (List.mem_append_left _ (List.mem_append_left _ (List.mem_append_left _ (List.mem_append_left _ (List.mem_append_right _ h))))))
theorem inlX5 : ∀ w ∈ wsX50, w ∈ wsL_law := fun _ h => List.mem_append_left _ (List.mem_append_left _ (List.mem_append_left _ (List.mem_append_left _ (List.mem_append_left _ (List.mem_append_left _ (List.mem_append_left _ (List.mem_append_left _ (List.mem_append_left _ (List.mem_append_left _ (List.mem_append_left _ (List.mem_append_left _ (List.mem_append_right _ h))))))))))))
theorem inlX6 : ∀ w ∈ wsX60, w ∈ wsL_law := fun _ h => List.mem_append_left _ (List.mem_append_left _ (List.mem_append_left _ (List.mem_append_left _ (List.mem_append_left _ (List.mem_append_right _ h)))))
theorem inlX7 : ∀ w ∈ wsX70, w ∈ wsL_law := fun _ h => List.mem_append_left _ (List.mem_append_left _ (List.mem_append_left _ (List.mem_append_left _ (List.mem_append_right _ h))))
theorem inlX8 : ∀ w ∈ wsX80, w ∈ wsL_law := fun _ h => List.mem_append_left _ (List.mem_append_left _ (List.mem_append_left _ (List.mem_append_left _ (List.mem_append_left _ (List.mem_append_left _ (List.mem_append_left _ (List.mem_append_left _ (List.mem_append_left _ (List.mem_append_left _ (List.mem_append_left _ (List.mem_append_left _ (List.mem_append_left _ (List.mem_append_right _ h)))))))))))))
theorem inlX9 : ∀ w ∈ wsX90, w ∈ wsL_law := fun _ h => List.mem_append_left _ (List.mem_append_left _ (List.mem_append_left _ (List.mem_append_right _ h)))
theorem inlX10 : ∀ w ∈ wsX100, w ∈ wsL_law := fun _ h => List.mem_append_left _ (List.mem_append_left _ (List.mem_append_right _ h))
theorem inlX11 : ∀ w ∈ wsX110, w ∈ wsL_law := fun _ h => List.mem_append_left _ (List.mem_append_left _ (List.mem_append_left _ (List.mem_append_left _ (List.mem_append_left _ (List.mem_append_left _ (List.mem_append_left _ (List.mem_append_left _ (List.mem_append_left _ (List.mem_append_left _ (List.mem_append_left _ (List.mem_append_left _ (List.mem_append_left _ (List.mem_append_left _ (List.mem_append_left _ (List.mem_append_right _ h)))))))))))))))
theorem inlX12 : ∀ w ∈ wsX120, w ∈ wsL_law := fun _ h => List.mem_append_left _ (List.mem_append_left _ (List.mem_append_left _ (List.mem_append_left _ (List.mem_append_left _ (List.mem_append_left _ (List.mem_append_left _ (List.mem_append_left _ (List.mem_append_left _ (List.mem_append_left _ (List.mem_append_left _ (List.mem_append_left _ (List.mem_append_left _ (List.mem_append_left _ (List.mem_append_right _ h))))))))))))))
theorem inlJ6 : ∀ w ∈ wsJ60, w ∈ wsL_law := fun _ h => List.mem_append_left _ (List.mem_append_right _ h)
theorem inlJx4a65c : ∀ w ∈ wsJx4a65c0, w ∈ wsL_law := fun _ h => List.mem_append_left _ (List.mem_append_left _ (List.mem_append_left _ (List.mem_append_left _ (List.mem_append_left _ (List.mem_append_left _ (List.mem_append_left _ (List.mem_append_left _ (List.mem_append_left _ (List.mem_append_right _ h)))))))))
abbrev vwCl : List vw_C := [(RJ6, TJ6, 1), (RJx4a65c, TJx4a65c, 3), (RX0, TX0, 5), (RX1, TX1, 4), (RX2, TX2, 4), (RX3, TX3, 4), (RX4, TX4, 4), (RX5, TX5, 11), (RX6, TX6, 4), (RX7, TX7, 4), (RX8, TX8, 14), (RX9, TX9, 4), (RX10, TX10, 4), (RX11, TX11, 7), (RX12, TX12, 23)]
end
section
section
variable {p : Program} {l : Launch} {e : Env} {R : Room} {s : State} {m : MethodId} {args : Array Value} {below : List Frame} {meth : Method} {c : Code} {H : Heap} {locs : List Loc} {cells slots : Nat} {Q : State → Prop} {pc : Nat} {ls : Array Slot} {rest : List Value}
theorem qi_as {x y : Int32} (h : x = y) (k : W p l e R s m args below meth c H locs cells slots Q (F0 m pc ls (.int y :: rest))) : W p l e R s m args below meth c H locs cells slots Q (F0 m pc ls (.int x :: rest)) := h ▸ k
theorem ql_as {x y : Int64} (h : x = y) (k : W p l e R s m args below meth c H locs cells slots Q (F0 m pc ls (.long y :: rest))) : W p l e R s m args below meth c H locs cells slots Q (F0 m pc ls (.long x :: rest)) := h ▸ k
theorem qq_as {x : Option Nat} {v : Value} (h : va_rf x = v) (k : W p l e R s m args below meth c H locs cells slots Q (F0 m pc ls (v :: rest))) : W p l e R s m args below meth c H locs cells slots Q (F0 m pc ls (va_rf x :: rest)) := h ▸ k
end
theorem met_ofQ {l : Launch} {y : MethodName} {ws ws' : List Cond} {rm : Room} {Pc : Array Value → State → Prop} {Qc : Array Value → State → Outcome → State → Prop} {mc ms : Nat} {free : Addr → Prop} {cc : ByteArray} {maxL : Nat} {ret : Option FieldType} (hy : plainName y.cls = true) (hw : ws = Cond.code y cc maxL ret :: ws') (body : ∀ p e s m args below meth c s₁ Q, BodyLoose p l y (headSpec ws rm) cc maxL ret e s m args below meth c s₁ → c.maxLocals = maxL → Pc args s → Q = MQ below Qc args s mc ms free → W p l e rm s m args below meth c s.heap [] 0 0 Q (entryFrame m args maxL)) : Met l y ws rm Pc Qc mc ms free :=
  Met.ofW hy hw (fun p e s m args below meth c s₁ B h1 h2 => body p e s m args below meth c s₁ _ B h1 h2 rfl)
theorem sw_out (lo hi : Int) (x : Int32) (h : ∀ k : Nat, k < (hi - lo + 1).toNat → ¬ x = Int32.ofInt (lo + k)) : x.toInt < lo ∨ hi < x.toInt := by
  by_cases h1 : x.toInt < lo
  · exact Or.inl h1
  · by_cases h2 : hi < x.toInt
    · exact Or.inr h2
    · exfalso
      refine h (x.toInt - lo).toNat (by omega) ?_
      rw [show lo + ((x.toInt - lo).toNat : Int) = x.toInt by omega]
      exact (Int32.ofInt_toInt x).symm
/-- the static rows of numbers, by their addresses, and the links between nest mates: what a call takes along -/
def nestW : List Cond := [.methodLinkNest RX8 102 yX11_rowOf "MistHeaps", .methodLinkNest RX8 106 yX11_columnOf "MistHeaps", .methodLinkNest RX2 44 yX11_apart "MistHeaps", .methodLinkNest RX10 19 yX11_rowOf "MistHeaps", .methodLinkNest RX10 33 yX11_columnOf "MistHeaps", .methodLinkNest RX8 113 yX11_apart "MistHeaps", .methodLinkNest RX0 44 yX11_isIn "MistHeaps", .methodLinkNest RX0 56 yX11_besideOrSame "MistHeaps"]
def fDown : Nat → Int32 := fun k => [-1, -1, 0, 1, 1, 1, 0, -1].getD k 0
def fRight : Nat → Int32 := fun k => [0, 1, 1, 1, 0, -1, -1, -1].getD k 0
def Gl (gd : Nat → Nat) (A : Nat → Prop) (U : State) : Prop := (∀ w ∈ nestW, va_Nw w U) ∧ va_Z "MistHeaps" "DOWN" "[I" (.ref (gd 0)) A U U.heap ∧ va_T .int (gd 0) 8 (fun k => .int (fDown k)) A U U.heap ∧ va_Z "MistHeaps" "RIGHT" "[I" (.ref (gd 1)) A U U.heap ∧ va_T .int (gd 1) 8 (fun k => .int (fRight k)) A U U.heap
theorem nestW_tab : ∀ w ∈ nestW, w.onTables = true := by decide +kernel
theorem nestW_warm {s U : State} (hW : s.WarmedH U.vm) (h : ∀ w ∈ nestW, va_Nw w s) : ∀ w ∈ nestW, va_Nw w U := by
  have k : ∀ w ∈ nestW, ∃ (a : String) (i : Nat) (x : MethodName) (b : String), w = .methodLinkNest a i x b := by
    intro w hw
    simp only [nestW, List.mem_cons, List.not_mem_nil, or_false] at hw
    rcases hw with rfl | rfl | rfl | rfl | rfl | rfl | rfl | rfl <;> exact ⟨_, _, _, _, rfl⟩
  intro w hw
  obtain ⟨a, i, x, b, rfl⟩ := k w hw
  exact va_Nw.warmM hW (h _ hw)
theorem Gl.same {gd : Nat → Nat} {A : Nat → Prop} {u U : State} (h : Gl gd A u) (hvm : u.vm = U.vm) (hh : U.heap = u.heap) : Gl gd A U := by
  obtain ⟨h1, h2, h3, h4, h5⟩ := h
  have hv : u.vm.Alike U.vm := by rw [hvm]; exact Vm.Alike.refl _
  refine ⟨fun w hw => va_Nw.same (nestW_tab w hw) hvm (h1 w hw), ?_, ?_, ?_, ?_⟩
  · rw [hh]; exact h2.moved hv
  · rw [hh]; exact h3.moved hv
  · rw [hh]; exact h4.moved hv
  · rw [hh]; exact h5.moved hv
theorem Gl.call {gd : Nat → Nat} {A B : Nat → Prop} {s U : State} {H : Heap} {locs : List Loc} (h : Gl gd A s) (hS : va_S A s.heap H locs) (hU : U.heap = H) (hW : s.WarmedH U.vm) (hB : ∀ q, B q → A q) : Gl gd B U := by
  obtain ⟨h1, h2, h3, h4, h5⟩ := h
  refine ⟨nestW_warm hW h1, ?_, ?_, ?_, ?_⟩
  · rw [hU]; exact ((h2.kept (H1 := H) hS.2.1).moved hW.alike).narrow hB
  · rw [hU]; exact ((h3.kept (H1 := H) hS.2.1).moved hW.alike).narrow hB
  · rw [hU]; exact ((h4.kept (H1 := H) hS.2.1).moved hW.alike).narrow hB
  · rw [hU]; exact ((h5.kept (H1 := H) hS.2.1).moved hW.alike).narrow hB
theorem Gl.callF {gd : Nat → Nat} {A : Nat → Prop} {s U : State} {H : Heap} {locs : List Loc} (h : Gl gd A s) (hS : va_S A s.heap H locs) (hU : U.heap = H) (hW : s.WarmedH U.vm) : Gl gd (fun _ => False) U := h.call hS hU hW (fun _ q => q.elim)
end
section
theorem dX12_in_0 : decode cX12_in 0 = .ok (.iload_n 0, 1) := by decide +kernel
theorem dX12_in_1 : decode cX12_in 1 = .ok (.iload_n 1, 1) := by decide +kernel
theorem dX12_in_2 : decode cX12_in 2 = .ok (.if_icmp .lt 12, 3) := by decide +kernel
theorem dX12_in_14 : decode cX12_in 14 = .ok (.iconst 0, 1) := by decide +kernel
theorem dX12_in_15 : decode cX12_in 15 = .ok (.ireturn, 1) := by decide +kernel
theorem dX12_in_5 : decode cX12_in 5 = .ok (.iload_n 0, 1) := by decide +kernel
theorem dX12_in_6 : decode cX12_in 6 = .ok (.iload_n 2, 1) := by decide +kernel
theorem dX12_in_7 : decode cX12_in 7 = .ok (.if_icmp .gt 7, 3) := by decide +kernel
theorem dX12_in_10 : decode cX12_in 10 = .ok (.iconst 1, 1) := by decide +kernel
theorem dX12_in_11 : decode cX12_in 11 = .ok (.goto 4, 3) := by decide +kernel
theorem dX12_size_0 : decode cX12_size 0 = .ok (.iload_n 0, 1) := by decide +kernel
theorem dX12_size_1 : decode cX12_size 1 = .ok (.ifCond .ge 8, 3) := by decide +kernel
theorem dX12_size_9 : decode cX12_size 9 = .ok (.iload_n 0, 1) := by decide +kernel
theorem dX12_size_10 : decode cX12_size 10 = .ok (.ireturn, 1) := by decide +kernel
theorem dX12_size_4 : decode cX12_size 4 = .ok (.iload_n 0, 1) := by decide +kernel
theorem dX12_size_5 : decode cX12_size 5 = .ok (.ineg, 1) := by decide +kernel
theorem dX12_size_6 : decode cX12_size 6 = .ok (.goto 4, 3) := by decide +kernel
theorem dX12_isCell_0 : decode cX12_isCell 0 = .ok (.iload_n 0, 1) := by decide +kernel
theorem dX12_isCell_1 : decode cX12_isCell 1 = .ok (.iconst 0, 1) := by decide +kernel
theorem dX12_isCell_2 : decode cX12_isCell 2 = .ok (.bipush 35, 2) := by decide +kernel
set_option maxRecDepth 20000 in
theorem ggX12_isCell_X12_in : GoodIn wsX12_isCell wsX12_in := goodIn_r _ [4] (by decide +kernel) (by decide +kernel)
set_option maxRecDepth 20000 in
theorem gX12_isCell_X12_in : GoodIn wsX12_isCell (va_wsS RX12 45 yX12_in wsX12_in) := goodIn_app (goodIn_of _ (by decide +kernel)) ggX12_isCell_X12_in
theorem dX12_isCell_4 : decode cX12_isCell 4 = .ok (.invokestatic 45, 3) := by decide +kernel
theorem dX12_isCell_7 : decode cX12_isCell 7 = .ok (.ireturn, 1) := by decide +kernel
theorem dX12_isHeap_0 : decode cX12_isHeap 0 = .ok (.iload_n 1, 1) := by decide +kernel
theorem dX12_isHeap_1 : decode cX12_isHeap 1 = .ok (.iconst 0, 1) := by decide +kernel
theorem dX12_isHeap_2 : decode cX12_isHeap 2 = .ok (.aload_n 0, 1) := by decide +kernel
theorem dX12_isHeap_3 : decode cX12_isHeap 3 = .ok (.getfield 9, 3) := by decide +kernel
theorem dX12_isHeap_6 : decode cX12_isHeap 6 = .ok (.iconst 0, 1) := by decide +kernel
theorem dX12_isHeap_7 : decode cX12_isHeap 7 = .ok (.iaload, 1) := by decide +kernel
theorem dX12_isHeap_8 : decode cX12_isHeap 8 = .ok (.iconst 1, 1) := by decide +kernel
theorem dX12_isHeap_9 : decode cX12_isHeap 9 = .ok (.isub, 1) := by decide +kernel
set_option maxRecDepth 20000 in
theorem ggX12_isHeap_X12_in : GoodIn wsX12_isHeap wsX12_in := goodIn_r _ [5] (by decide +kernel) (by decide +kernel)
set_option maxRecDepth 20000 in
theorem gX12_isHeap_X12_in : GoodIn wsX12_isHeap (va_wsS RX12 45 yX12_in wsX12_in) := goodIn_app (goodIn_of _ (by decide +kernel)) ggX12_isHeap_X12_in
theorem dX12_isHeap_10 : decode cX12_isHeap 10 = .ok (.invokestatic 45, 3) := by decide +kernel
theorem dX12_isHeap_13 : decode cX12_isHeap 13 = .ok (.ireturn, 1) := by decide +kernel
theorem dX12_feed_0 : decode cX12_feed 0 = .ok (.iload_n 1, 1) := by decide +kernel
theorem dX12_feed_1 : decode cX12_feed 1 = .ok (.iconst 0, 1) := by decide +kernel
theorem dX12_feed_2 : decode cX12_feed 2 = .ok (.bipush 127, 2) := by decide +kernel
set_option maxRecDepth 20000 in
theorem ggX12_feed_X12_in : GoodIn wsX12_feed wsX12_in := goodIn_r _ [5] (by decide +kernel) (by decide +kernel)
set_option maxRecDepth 20000 in
theorem gX12_feed_X12_in : GoodIn wsX12_feed (va_wsS RX12 45 yX12_in wsX12_in) := goodIn_app (goodIn_of _ (by decide +kernel)) ggX12_feed_X12_in
theorem dX12_feed_4 : decode cX12_feed 4 = .ok (.invokestatic 45, 3) := by decide +kernel
theorem dX12_feed_7 : decode cX12_feed 7 = .ok (.ifCond .ne 6, 3) := by decide +kernel
theorem dX12_feed_13 : decode cX12_feed 13 = .ok (.aload_n 0, 1) := by decide +kernel
theorem dX12_feed_14 : decode cX12_feed 14 = .ok (.getfield 9, 3) := by decide +kernel
theorem dX12_feed_17 : decode cX12_feed 17 = .ok (.iconst 4, 1) := by decide +kernel
theorem dX12_feed_18 : decode cX12_feed 18 = .ok (.iaload, 1) := by decide +kernel
theorem dX12_feed_19 : decode cX12_feed 19 = .ok (.bipush 100, 2) := by decide +kernel
theorem dX12_feed_21 : decode cX12_feed 21 = .ok (.if_icmp .ne 6, 3) := by decide +kernel
theorem dX12_feed_27 : decode cX12_feed 27 = .ok (.aload_n 0, 1) := by decide +kernel
theorem dX12_feed_28 : decode cX12_feed 28 = .ok (.getfield 9, 3) := by decide +kernel
theorem dX12_feed_31 : decode cX12_feed 31 = .ok (.bipush 91, 2) := by decide +kernel
theorem dX12_feed_33 : decode cX12_feed 33 = .ok (.aload_n 0, 1) := by decide +kernel
theorem dX12_feed_34 : decode cX12_feed 34 = .ok (.getfield 9, 3) := by decide +kernel
theorem dX12_feed_37 : decode cX12_feed 37 = .ok (.iconst 4, 1) := by decide +kernel
theorem dX12_feed_38 : decode cX12_feed 38 = .ok (.iaload, 1) := by decide +kernel
theorem dX12_feed_39 : decode cX12_feed 39 = .ok (.iadd, 1) := by decide +kernel
theorem dX12_feed_40 : decode cX12_feed 40 = .ok (.iload_n 1, 1) := by decide +kernel
theorem dX12_feed_41 : decode cX12_feed 41 = .ok (.iastore, 1) := by decide +kernel
theorem dX12_feed_42 : decode cX12_feed 42 = .ok (.aload_n 0, 1) := by decide +kernel
theorem dX12_feed_43 : decode cX12_feed 43 = .ok (.getfield 9, 3) := by decide +kernel
theorem dX12_feed_46 : decode cX12_feed 46 = .ok (.iconst 4, 1) := by decide +kernel
theorem dX12_feed_47 : decode cX12_feed 47 = .ok (.dup2, 1) := by decide +kernel
theorem dX12_feed_48 : decode cX12_feed 48 = .ok (.iaload, 1) := by decide +kernel
theorem dX12_feed_49 : decode cX12_feed 49 = .ok (.iconst 1, 1) := by decide +kernel
theorem dX12_feed_50 : decode cX12_feed 50 = .ok (.iadd, 1) := by decide +kernel
theorem dX12_feed_51 : decode cX12_feed 51 = .ok (.iastore, 1) := by decide +kernel
theorem dX12_feed_52 : decode cX12_feed 52 = .ok (.aload_n 0, 1) := by decide +kernel
theorem dX12_feed_53 : decode cX12_feed 53 = .ok (.getfield 9, 3) := by decide +kernel
theorem dX12_feed_56 : decode cX12_feed 56 = .ok (.iconst 4, 1) := by decide +kernel
theorem dX12_feed_57 : decode cX12_feed 57 = .ok (.iaload, 1) := by decide +kernel
theorem dX12_feed_58 : decode cX12_feed 58 = .ok (.ireturn, 1) := by decide +kernel
theorem dX12_feed_10 : decode cX12_feed 10 = .ok (.bipush (-2), 2) := by decide +kernel
theorem dX12_feed_12 : decode cX12_feed 12 = .ok (.ireturn, 1) := by decide +kernel
def s0 : Nat → Int32 := upd (fun _ => 0) 5 (-1)
theorem i_lt (a b : Int32) : a < b ↔ a.toInt < b.toInt := Int32.lt_iff_toInt_lt
theorem i_le (a b : Int32) : a ≤ b ↔ a.toInt ≤ b.toInt := Int32.le_iff_toInt_le
theorem no_in {h : Int32} (h1 : ¬ h < 0) (h2 : ¬ (-1) < h) : False := by
  rw [i_lt] at h1 h2
  have e1 : (0 : Int32).toInt = 0 := rfl
  have e2 : (-1 : Int32).toInt = -1 := rfl
  omega
theorem cell_of {c : Int32} (h1 : ¬ c < 0) (h2 : ¬ 35 < c) : ∃ j : Nat, j < 36 ∧ c = nI j := by
  obtain ⟨j, hj, e⟩ := nI_of2 (M := 35) (n := 35) rfl h1 (Int32.not_lt.mp h2)
  exact ⟨j, by omega, e⟩
def f_feed (x : Int32) : Int32 := if x < 0 then -2 else if 127 < x then -2 else 1

set_option maxHeartbeats 4000000 in
set_option maxRecDepth 100000 in
theorem c_in (l : Launch) (dC : Nat → ClassId) (dI : Nat → Nat → Nat) (v lo hi : Int32) : Met l yX12_in wsX12_in ({ frames := 0, cells := 0, slots := 0, locals := 0 } : Room) (va_Pc [.int v, .int lo, .int hi] (fun U => True)) (vp_Si (fun r => (r = 1 ∧ ¬ v < lo ∧ ¬ hi < v) ∨ (r = 0 ∧ (v < lo ∨ hi < v)))) 0 0 (fun _ => False) := by
  refine met_ofQ (cc := cX12_in) (maxL := 3) (ret := (some .boolean)) (by decide) rfl ?_
  intro p e s m args below meth c s₁ Q B hml hv hQ
  obtain ⟨rfl, -⟩ := hv
  have hx := B.exec
  have hb := B.bytes
  have hr := B.returns
  have hts := atoms_spec (ws := wsX12_in) B.pre
  have hown : s.vm.findClass RX12 = some m.cls := findClass_of_methodNamed B.named
  have hlocks := B.notSynchronized
  obtain ⟨A, hAe⟩ : ∃ A : Nat → Prop, A = fun _ => False := ⟨_, rfl⟩
  rw [← hAe] at hQ
  have hS : va_S A s.heap s.heap [] := va_S.rf
  have hl := lv_entry [.int v, .int lo, .int hi] (n := 3) (Nat.le_of_ble_eq_true rfl)
  rw [lg_entry_eq]
  generalize (lg_sl [.int v, .int lo, .int hi] ++ List.replicate (3 - (lg_sl [.int v, .int lo, .int hi]).length) Slot.unset).toArray = ls at hl ⊢
  generalize hag : ([.int v, .int lo, .int hi] : List Value).toArray = args at hts hQ ⊢
  have hl : lv_has ls 3 [(0, .int v), (1, .int lo), (2, .int hi)] := hl
  refine lv_iload_n hx hb dX12_in_0 rfl (lv_at hl 0 rfl) ?_
  refine lv_iload_n hx hb dX12_in_1 rfl (lv_at hl 1 rfl) ?_
  refine lv_icmp_lt (tgt := 14) hx hb dX12_in_2 (by decide) (fun c_1 => ?_) (fun c_1 => ?_)
  · skip
    refine lv_iconst (v := 0) hx hb dX12_in_14 (by decide) ?_
    rw [hQ]
    exact W.zret (v := 0) hx hb hr rfl (fun t ht hW => ⟨0, rfl, by simp_all, by rw [ht]⟩) (fun q hq => absurd hq List.not_mem_nil) dX12_in_15
  · skip
    refine lv_iload_n hx hb dX12_in_5 rfl (lv_at hl 0 rfl) ?_
    refine lv_iload_n hx hb dX12_in_6 rfl (lv_at hl 2 rfl) ?_
    refine lv_icmp_gt (tgt := 14) hx hb dX12_in_7 (by decide) (fun c_2 => ?_) (fun c_2 => ?_)
    · skip
      refine lv_iconst (v := 0) hx hb dX12_in_14 (by decide) ?_
      rw [hQ]
      exact W.zret (v := 0) hx hb hr rfl (fun t ht hW => ⟨0, rfl, by simp_all, by rw [ht]⟩) (fun q hq => absurd hq List.not_mem_nil) dX12_in_15
    · skip
      refine lv_iconst (v := 1) hx hb dX12_in_10 (by decide) ?_
      refine lv_goto (tgt := 15) hx hb dX12_in_11 (by decide) ?_
      rw [hQ]
      exact W.zret (v := 1) hx hb hr rfl (fun t ht hW => ⟨1, rfl, by simp_all, by rw [ht]⟩) (fun q hq => absurd hq List.not_mem_nil) dX12_in_15

set_option maxHeartbeats 4000000 in
set_option maxRecDepth 100000 in
theorem c_size (l : Launch) (dC : Nat → ClassId) (dI : Nat → Nat → Nat) (v : Int32) : Met l yX12_size wsX12_size ({ frames := 0, cells := 0, slots := 0, locals := 0 } : Room) (va_Pc [.int v] (fun U => True)) (vp_Si (fun r => r = if v < 0 then -v else v)) 0 0 (fun _ => False) := by
  refine met_ofQ (cc := cX12_size) (maxL := 1) (ret := (some .int)) (by decide) rfl ?_
  intro p e s m args below meth c s₁ Q B hml hv hQ
  obtain ⟨rfl, -⟩ := hv
  have hx := B.exec
  have hb := B.bytes
  have hr := B.returns
  have hts := atoms_spec (ws := wsX12_size) B.pre
  have hown : s.vm.findClass RX12 = some m.cls := findClass_of_methodNamed B.named
  have hlocks := B.notSynchronized
  obtain ⟨A, hAe⟩ : ∃ A : Nat → Prop, A = fun _ => False := ⟨_, rfl⟩
  rw [← hAe] at hQ
  have hS : va_S A s.heap s.heap [] := va_S.rf
  have hl := lv_entry [.int v] (n := 1) (Nat.le_of_ble_eq_true rfl)
  rw [lg_entry_eq]
  generalize (lg_sl [.int v] ++ List.replicate (1 - (lg_sl [.int v]).length) Slot.unset).toArray = ls at hl ⊢
  generalize hag : ([.int v] : List Value).toArray = args at hts hQ ⊢
  have hl : lv_has ls 1 [(0, .int v)] := hl
  refine lv_iload_n hx hb dX12_size_0 rfl (lv_at hl 0 rfl) ?_
  refine lv_if_ge (tgt := 9) hx hb dX12_size_1 (by decide) (fun c_1 => ?_) (fun c_1 => ?_)
  · skip
    refine lv_iload_n hx hb dX12_size_9 rfl (lv_at hl 0 rfl) ?_
    rw [hQ]
    exact W.iret (v := v) hx hb hr (fun t ht hW => ⟨v, rfl, by first | rw [if_neg (Int32.not_lt.mpr (by assumption))] | rw [if_pos (Int32.not_le.mp (by assumption))], by rw [ht]⟩) (fun q hq => absurd hq List.not_mem_nil) dX12_size_10
  · skip
    refine lv_iload_n hx hb dX12_size_4 rfl (lv_at hl 0 rfl) ?_
    refine lv_ineg hx hb dX12_size_5 ?_
    refine lv_goto (tgt := 10) hx hb dX12_size_6 (by decide) ?_
    rw [hQ]
    exact W.iret (v := -v) hx hb hr (fun t ht hW => ⟨-v, rfl, by first | rw [if_neg (Int32.not_lt.mpr (by assumption))] | rw [if_pos (Int32.not_le.mp (by assumption))], by rw [ht]⟩) (fun q hq => absurd hq List.not_mem_nil) dX12_size_10

set_option maxHeartbeats 4000000 in
set_option maxRecDepth 100000 in
theorem c_mCell (l : Launch) (dC : Nat → ClassId) (dI : Nat → Nat → Nat) (c0 : Int32) : Met l yX12_isCell wsX12_isCell ({ frames := 1, cells := 0, slots := 0, locals := 22 } : Room) (va_Pc [.int c0] (fun U => True)) (vp_Si (fun r => (r = 1 ∧ ¬ c0 < 0 ∧ ¬ 35 < c0) ∨ (r = 0 ∧ (c0 < 0 ∨ 35 < c0)))) 0 0 (fun _ => False) := by
  refine met_ofQ (cc := cX12_isCell) (maxL := 1) (ret := (some .boolean)) (by decide) rfl ?_
  intro p e s m args below meth c s₁ Q B hml hv hQ
  obtain ⟨rfl, -⟩ := hv
  have hx := B.exec
  have hb := B.bytes
  have hr := B.returns
  have hts := atoms_spec (ws := wsX12_isCell) B.pre
  have hown : s.vm.findClass RX12 = some m.cls := findClass_of_methodNamed B.named
  have hlocks := B.notSynchronized
  obtain ⟨A, hAe⟩ : ∃ A : Nat → Prop, A = fun _ => False := ⟨_, rfl⟩
  rw [← hAe] at hQ
  have hS : va_S A s.heap s.heap [] := va_S.rf
  have hl := lv_entry [.int c0] (n := 1) (Nat.le_of_ble_eq_true rfl)
  rw [lg_entry_eq]
  generalize (lg_sl [.int c0] ++ List.replicate (1 - (lg_sl [.int c0]).length) Slot.unset).toArray = ls at hl ⊢
  generalize hag : ([.int c0] : List Value).toArray = args at hts hQ ⊢
  have hl : lv_has ls 1 [(0, .int c0)] := hl
  refine lv_iload_n hx hb dX12_isCell_0 rfl (lv_at hl 0 rfl) ?_
  refine lv_iconst (v := 0) hx hb dX12_isCell_1 (by decide) ?_
  refine lv_bipush (v := 35) hx hb dX12_isCell_2 (by decide) ?_
  refine vp_callSi (va_runS (As := [.int c0, .int 0, .int 35]) (rest := []) ⟨hx, hb, hml, hown, hts⟩ (c_in l dC dI c0 0 35) (va_cwS 3 hts gX12_isCell_X12_in rfl rfl rfl (by decide +kernel) ⟨Nat.le_of_ble_eq_true rfl, Nat.le_of_ble_eq_true rfl⟩) ⟨fun a U g mk q => ⟨q.1, trivial⟩, fun U hU hW => ⟨rfl, trivial⟩⟩ rfl rfl hl.1 rfl (lv_room (Nat.le_of_ble_eq_true rfl)) dX12_isCell_4 ⟨Nat.le_of_ble_eq_true rfl, Nat.le_of_ble_eq_true rfl⟩).run (fun r_1 hw_2 => ?_)
  rw [hQ]
  exact W.zret (v := r_1) hx hb hr (by rcases hw_2 with ⟨rfl, _⟩ | ⟨rfl, _⟩ <;> rfl) (fun t ht hW => ⟨r_1, rfl, by assumption, by rw [ht]⟩) (fun q hq => absurd hq List.not_mem_nil) dX12_isCell_7

theorem kc_mHeap0_0 : ∀ w ∈ wsX120, w ∈ wsX12_isHeap := by decide +kernel
theorem kc_mHeap0_1 : (.fieldLink RX12 9 "MistHeapsModel" "s" "[I" : Cond) ∈ wsX12_isHeap := by decide +kernel
set_option maxHeartbeats 4000000 in
set_option maxRecDepth 100000 in
theorem c_mHeap0 (l : Launch) (dC : Nat → ClassId) (dI : Nat → Nat → Nat) (m0 aS aI aB aT aG aO aN aD aY : Nat) (cS : ClassId) (h : Int32) : Met l yX12_isHeap wsX12_isHeap ({ frames := 1, cells := 0, slots := 0, locals := 22 } : Room) (va_Pc [.ref m0, .int h] (fun U => va_P (dC, dI) vwCl [(m0, .inr (14, [.int 0, .ref aS, .ref aI, .int 0, .int 0, .int 0, .int 0, .int 0, .int 0, .ref aB, .ref aT, .int 0, .int 0, .ref aG, .ref aO, .ref aN, .ref aD, .long 0, .ref aY, .int 0, .int 0, .int 0, .int 0])), (aS, .inl (cS, 901, .inl s0))] U.heap ∧ va_K (dC, dI) vwCl [(cS, .int)] U)) (vp_Si (fun r => r = 0)) 0 0 (fun _ => False) := by
  refine met_ofQ (cc := cX12_isHeap) (maxL := 2) (ret := (some .boolean)) (by decide) rfl ?_
  intro p e s m args below meth c s₁ Q B hml hv hQ
  obtain ⟨rfl, hP, hK⟩ := hv
  have hx := B.exec
  have hb := B.bytes
  have hr := B.returns
  have hts := atoms_spec (ws := wsX12_isHeap) B.pre
  have hown : s.vm.findClass RX12 = some m.cls := findClass_of_methodNamed B.named
  have hlocks := B.notSynchronized
  obtain ⟨A, hAe⟩ : ∃ A : Nat → Prop, A = fun _ => False := ⟨_, rfl⟩
  rw [← hAe] at hQ
  have hS : va_S A s.heap s.heap [] := va_S.rf
  have hl := lv_entry [.ref m0, .int h] (n := 2) (Nat.le_of_ble_eq_true rfl)
  rw [lg_entry_eq]
  generalize (lg_sl [.ref m0, .int h] ++ List.replicate (2 - (lg_sl [.ref m0, .int h]).length) Slot.unset).toArray = ls at hl ⊢
  generalize hag : ([.ref m0, .int h] : List Value).toArray = args at hts hQ ⊢
  have hl : lv_has ls 2 [(0, .ref m0), (1, .int h)] := hl
  refine lv_iload_n hx hb dX12_isHeap_0 rfl (lv_at hl 1 rfl) ?_
  refine lv_iconst (v := 0) hx hb dX12_isHeap_1 (by decide) ?_
  refine lv_aload_n hx hb dX12_isHeap_2 rfl (lv_at hl 0 rfl) ?_
  refine va_get (D := (dC, dI)) (ci := 14) (v := .ref aS) (C := RX12) (T := TX12) (N := 23) hx hb hts kc_mHeap0_0 hown hK hP 0 rfl rfl 1 (by decide) (hts (.fieldLink RX12 9 "MistHeapsModel" "s" "[I") kc_mHeap0_1) (fun _ h9 => h9) rfl dX12_isHeap_3 ?_
  refine lv_iconst (v := 0) hx hb dX12_isHeap_6 (by decide) ?_
  refine va_iald hx hb hK hP 1 0 rfl rfl (vp_in_nI (n := 0) (N := 901) (by omega) (by omega)) dX12_isHeap_7 ?_
  refine qi_as (y := 0) (rfl) ?_
  refine lv_iconst (v := 1) hx hb dX12_isHeap_8 (by decide) ?_
  refine lv_isub hx hb dX12_isHeap_9 ?_
  refine qi_as (y := (-1)) (by decide) ?_
  refine vp_callSi (va_runS (As := [.int h, .int 0, .int (-1)]) (rest := []) ⟨hx, hb, hml, hown, hts⟩ (c_in l dC dI h 0 (-1)) (va_cwS 3 hts gX12_isHeap_X12_in rfl rfl rfl (by decide +kernel) ⟨Nat.le_of_ble_eq_true rfl, Nat.le_of_ble_eq_true rfl⟩) ⟨fun a U g mk q => ⟨q.1, trivial⟩, fun U hU hW => ⟨rfl, trivial⟩⟩ rfl rfl hl.1 rfl (lv_room (Nat.le_of_ble_eq_true rfl)) dX12_isHeap_10 ⟨Nat.le_of_ble_eq_true rfl, Nat.le_of_ble_eq_true rfl⟩).run (fun r_1 hw_2 => ?_)
  have hw_2 : r_1 = 0 := by rcases hw_2 with ⟨_, h1, h2⟩ | ⟨h, _⟩ <;> first | exact (no_in h1 h2).elim | exact h
  subst hw_2
  rw [hQ]
  exact W.zret (v := 0) hx hb hr rfl (fun t ht hW => ⟨0, rfl, rfl, by rw [ht]⟩) (fun q hq => absurd hq List.not_mem_nil) dX12_isHeap_13

theorem kc_mFeed_0 : ∀ w ∈ wsX120, w ∈ wsX12_feed := by decide +kernel
theorem kc_mFeed_1 : (.fieldLink RX12 9 "MistHeapsModel" "s" "[I" : Cond) ∈ wsX12_feed := by decide +kernel
set_option maxHeartbeats 4000000 in
set_option maxRecDepth 100000 in
theorem c_mFeed (l : Launch) (dC : Nat → ClassId) (dI : Nat → Nat → Nat) (m0 aS aI aB aT aG aO aN aD aY : Nat) (cS : ClassId) (x : Int32) (sz : Nat) : Met l yX12_feed wsX12_feed ({ frames := 1, cells := 0, slots := 0, locals := 22 } : Room) (va_Pc [.ref m0, .int x] (fun U => U.heap.size = sz ∧ va_P (dC, dI) vwCl [(m0, .inr (14, [.int 0, .ref aS, .ref aI, .int 0, .int 0, .int 0, .int 0, .int 0, .int 0, .ref aB, .ref aT, .int 0, .int 0, .ref aG, .ref aO, .ref aN, .ref aD, .long 0, .ref aY, .int 0, .int 0, .int 0, .int 0])), (aS, .inl (cS, 901, .inl s0))] U.heap ∧ va_K (dC, dI) vwCl [(cS, .int)] U ∧ va_D (fun _ => True) [(m0, .inr (14, [.int 0, .ref aS, .ref aI, .int 0, .int 0, .int 0, .int 0, .int 0, .int 0, .ref aB, .ref aT, .int 0, .int 0, .ref aG, .ref aO, .ref aN, .ref aD, .long 0, .ref aY, .int 0, .int 0, .int 0, .int 0])), (aS, .inl (cS, 901, .inl s0))])) (va_Qi (fun (r : Int32) (u : Unit) => match u with | () => r = f_feed x) (fun (u : Unit) (t : State) => match u with | () => True) (va_A [(m0, .inr (14, [.int 0, .ref aS, .ref aI, .int 0, .int 0, .int 0, .int 0, .int 0, .int 0, .ref aB, .ref aT, .int 0, .int 0, .ref aG, .ref aO, .ref aN, .ref aD, .long 0, .ref aY, .int 0, .int 0, .int 0, .int 0])), (aS, .inl (cS, 901, .inl s0))] sz)) 0 0 (va_A [(m0, .inr (14, [.int 0, .ref aS, .ref aI, .int 0, .int 0, .int 0, .int 0, .int 0, .int 0, .ref aB, .ref aT, .int 0, .int 0, .ref aG, .ref aO, .ref aN, .ref aD, .long 0, .ref aY, .int 0, .int 0, .int 0, .int 0])), (aS, .inl (cS, 901, .inl s0))] sz) := by
  refine met_ofQ (cc := cX12_feed) (maxL := 2) (ret := (some .int)) (by decide) rfl ?_
  intro p e s m args below meth c s₁ Q B hml hv hQ
  obtain ⟨rfl, hsz, hP, hK, hD0⟩ := hv
  have hx := B.exec
  have hb := B.bytes
  have hr := B.returns
  have hts := atoms_spec (ws := wsX12_feed) B.pre
  have hown : s.vm.findClass RX12 = some m.cls := findClass_of_methodNamed B.named
  have hlocks := B.notSynchronized
  subst hsz
  have hD := hD0.self (sz := s.heap.size)
  generalize hAe : va_A [(m0, .inr (14, [.int 0, .ref aS, .ref aI, .int 0, .int 0, .int 0, .int 0, .int 0, .int 0, .ref aB, .ref aT, .int 0, .int 0, .ref aG, .ref aO, .ref aN, .ref aD, .long 0, .ref aY, .int 0, .int 0, .int 0, .int 0])), (aS, .inl (cS, 901, .inl s0))] s.heap.size = A at hD hQ ⊢
  have hA : ∀ q : Nat, s.heap.size ≤ q → A q := fun q h => by rw [← hAe]; exact Or.inr h
  have hS : va_S A s.heap s.heap [] := va_S.rf
  have hl := lv_entry [.ref m0, .int x] (n := 2) (Nat.le_of_ble_eq_true rfl)
  rw [lg_entry_eq]
  generalize (lg_sl [.ref m0, .int x] ++ List.replicate (2 - (lg_sl [.ref m0, .int x]).length) Slot.unset).toArray = ls at hl ⊢
  generalize hag : ([.ref m0, .int x] : List Value).toArray = args at hts hQ ⊢
  have hl : lv_has ls 2 [(0, .ref m0), (1, .int x)] := hl
  obtain ⟨H, hH⟩ : ∃ H : Heap, H = s.heap := ⟨_, rfl⟩
  rw [← hH] at hP
  rw [← hH]
  have hS : va_S A s.heap H [] := by rw [hH]; exact hS
  obtain ⟨locs, hlo⟩ : ∃ L : List Loc, L = [] := ⟨_, rfl⟩
  rw [← hlo] at hS
  rw [← hlo]
  clear hH hlo
  refine lv_iload_n hx hb dX12_feed_0 rfl (lv_at hl 1 rfl) ?_
  refine lv_iconst (v := 0) hx hb dX12_feed_1 (by decide) ?_
  refine lv_bipush (v := 127) hx hb dX12_feed_2 (by decide) ?_
  refine vp_callSi (va_runS (As := [.int x, .int 0, .int 127]) (rest := []) ⟨hx, hb, hml, hown, hts⟩ (c_in l dC dI x 0 127) (va_cwS 3 hts gX12_feed_X12_in rfl rfl rfl (by decide +kernel) ⟨Nat.le_of_ble_eq_true rfl, Nat.le_of_ble_eq_true rfl⟩) ⟨fun a U g mk q => ⟨q.1, trivial⟩, fun U hU hW => ⟨rfl, trivial⟩⟩ rfl rfl hl.1 rfl (lv_room (Nat.le_of_ble_eq_true rfl)) dX12_feed_4 ⟨Nat.le_of_ble_eq_true rfl, Nat.le_of_ble_eq_true rfl⟩).run (fun r_1 hw_2 => ?_)
  rcases hw_2 with ⟨rfl, h_3, h_4⟩ | ⟨rfl, h_5⟩
  · skip
    refine lv_if_ne (tgt := 13) hx hb dX12_feed_7 (by decide) (fun _ => ?_) (fun c_6 => absurd c_6 (by decide))
    refine lv_aload_n hx hb dX12_feed_13 rfl (lv_at hl 0 rfl) ?_
    refine va_get (D := (dC, dI)) (ci := 14) (v := .ref aS) (C := RX12) (T := TX12) (N := 23) hx hb hts kc_mFeed_0 hown hK hP 0 rfl rfl 1 (by decide) (hts (.fieldLink RX12 9 "MistHeapsModel" "s" "[I") kc_mFeed_1) (fun _ h9 => h9) rfl dX12_feed_14 ?_
    refine lv_iconst (v := 4) hx hb dX12_feed_17 (by decide) ?_
    refine va_iald hx hb hK hP 1 0 rfl rfl (vp_in_nI (n := 4) (N := 901) (by omega) (by omega)) dX12_feed_18 ?_
    refine qi_as (y := 0) (rfl) ?_
    refine lv_bipush (v := 100) hx hb dX12_feed_19 (by decide) ?_
    refine lv_icmp_ne (tgt := 27) hx hb dX12_feed_21 (by decide) (fun _ => ?_) (fun c_7 => absurd c_7 (by decide))
    refine lv_aload_n hx hb dX12_feed_27 rfl (lv_at hl 0 rfl) ?_
    refine va_get (D := (dC, dI)) (ci := 14) (v := .ref aS) (C := RX12) (T := TX12) (N := 23) hx hb hts kc_mFeed_0 hown hK hP 0 rfl rfl 1 (by decide) (hts (.fieldLink RX12 9 "MistHeapsModel" "s" "[I") kc_mFeed_1) (fun _ h9 => h9) rfl dX12_feed_28 ?_
    refine lv_bipush (v := 91) hx hb dX12_feed_31 (by decide) ?_
    refine lv_aload_n hx hb dX12_feed_33 rfl (lv_at hl 0 rfl) ?_
    refine va_get (D := (dC, dI)) (ci := 14) (v := .ref aS) (C := RX12) (T := TX12) (N := 23) hx hb hts kc_mFeed_0 hown hK hP 0 rfl rfl 1 (by decide) (hts (.fieldLink RX12 9 "MistHeapsModel" "s" "[I") kc_mFeed_1) (fun _ h9 => h9) rfl dX12_feed_34 ?_
    refine lv_iconst (v := 4) hx hb dX12_feed_37 (by decide) ?_
    refine va_iald hx hb hK hP 1 0 rfl rfl (vp_in_nI (n := 4) (N := 901) (by omega) (by omega)) dX12_feed_38 ?_
    refine qi_as (y := 0) (rfl) ?_
    refine lv_iadd hx hb dX12_feed_39 ?_
    refine qi_as (y := 91) (by decide) ?_
    refine lv_iload_n hx hb dX12_feed_40 rfl (lv_at hl 1 rfl) ?_
    refine va_iast hx hb hK hP hD hS 1 0 rfl rfl (vp_in_nI (n := 91) (N := 901) (by omega) (by omega)) dX12_feed_41 (fun H locs hP hD hS => ?_)
    have hP : va_P (dC, dI) vwCl [(m0, .inr (14, [.int 0, .ref aS, .ref aI, .int 0, .int 0, .int 0, .int 0, .int 0, .int 0, .ref aB, .ref aT, .int 0, .int 0, .ref aG, .ref aO, .ref aN, .ref aD, .long 0, .ref aY, .int 0, .int 0, .int 0, .int 0])), (aS, .inl (cS, 901, .inl (upd s0 91 x)))] H := hP
    have hD : va_D A [(m0, .inr (14, [.int 0, .ref aS, .ref aI, .int 0, .int 0, .int 0, .int 0, .int 0, .int 0, .ref aB, .ref aT, .int 0, .int 0, .ref aG, .ref aO, .ref aN, .ref aD, .long 0, .ref aY, .int 0, .int 0, .int 0, .int 0])), (aS, .inl (cS, 901, .inl (upd s0 91 x)))] := hD
    refine lv_aload_n hx hb dX12_feed_42 rfl (lv_at hl 0 rfl) ?_
    refine va_get (D := (dC, dI)) (ci := 14) (v := .ref aS) (C := RX12) (T := TX12) (N := 23) hx hb hts kc_mFeed_0 hown hK hP 0 rfl rfl 1 (by decide) (hts (.fieldLink RX12 9 "MistHeapsModel" "s" "[I") kc_mFeed_1) (fun _ h9 => h9) rfl dX12_feed_43 ?_
    refine lv_iconst (v := 4) hx hb dX12_feed_46 (by decide) ?_
    refine lv_dup2_11 hx hb dX12_feed_47 rfl rfl ?_
    refine va_iald hx hb hK hP 1 0 rfl rfl (vp_in_nI (n := 4) (N := 901) (by omega) (by omega)) dX12_feed_48 ?_
    refine qi_as (y := 0) (rfl) ?_
    refine lv_iconst (v := 1) hx hb dX12_feed_49 (by decide) ?_
    refine lv_iadd hx hb dX12_feed_50 ?_
    refine qi_as (y := 1) (by decide) ?_
    refine va_iast hx hb hK hP hD hS 1 0 rfl rfl (vp_in_nI (n := 4) (N := 901) (by omega) (by omega)) dX12_feed_51 (fun H locs hP hD hS => ?_)
    have hP : va_P (dC, dI) vwCl [(m0, .inr (14, [.int 0, .ref aS, .ref aI, .int 0, .int 0, .int 0, .int 0, .int 0, .int 0, .ref aB, .ref aT, .int 0, .int 0, .ref aG, .ref aO, .ref aN, .ref aD, .long 0, .ref aY, .int 0, .int 0, .int 0, .int 0])), (aS, .inl (cS, 901, .inl (upd (upd s0 91 x) 4 1)))] H := hP
    have hD : va_D A [(m0, .inr (14, [.int 0, .ref aS, .ref aI, .int 0, .int 0, .int 0, .int 0, .int 0, .int 0, .ref aB, .ref aT, .int 0, .int 0, .ref aG, .ref aO, .ref aN, .ref aD, .long 0, .ref aY, .int 0, .int 0, .int 0, .int 0])), (aS, .inl (cS, 901, .inl (upd (upd s0 91 x) 4 1)))] := hD
    refine lv_aload_n hx hb dX12_feed_52 rfl (lv_at hl 0 rfl) ?_
    refine va_get (D := (dC, dI)) (ci := 14) (v := .ref aS) (C := RX12) (T := TX12) (N := 23) hx hb hts kc_mFeed_0 hown hK hP 0 rfl rfl 1 (by decide) (hts (.fieldLink RX12 9 "MistHeapsModel" "s" "[I") kc_mFeed_1) (fun _ h9 => h9) rfl dX12_feed_53 ?_
    refine lv_iconst (v := 4) hx hb dX12_feed_56 (by decide) ?_
    refine va_iald hx hb hK hP 1 0 rfl rfl (vp_in_nI (n := 4) (N := 901) (by omega) (by omega)) dX12_feed_57 ?_
    refine qi_as (y := 1) (rfl) ?_
    rw [hQ]
    exact W.iret (v := 1) hx hb hr (fun t ht hW => ⟨⟨1, (), rfl, by simp only [f_feed]; (repeat' split) <;> simp_all, trivial⟩, hS.F ht⟩) hS.2.2 dX12_feed_58
  · skip
    refine lv_if_ne (tgt := 13) hx hb dX12_feed_7 (by decide) (fun c_8 => absurd c_8 (by decide)) (fun _ => ?_)
    refine lv_bipush (v := (-2)) hx hb dX12_feed_10 (by decide) ?_
    rw [hQ]
    exact W.iret (v := (-2)) hx hb hr (fun t ht hW => ⟨⟨(-2), (), rfl, by simp only [f_feed]; (repeat' split) <;> simp_all, trivial⟩, hS.F ht⟩) hS.2.2 dX12_feed_12
end
section
theorem dX12_set_0 : decode cX12_set 0 = .ok (.iload_n 1, 1) := by decide +kernel
theorem dX12_set_1 : decode cX12_set 1 = .ok (.iconst 0, 1) := by decide +kernel
theorem dX12_set_2 : decode cX12_set 2 = .ok (.iconst 1, 1) := by decide +kernel
set_option maxRecDepth 20000 in
theorem ggX12_set_X12_in : GoodIn wsX12_set wsX12_in := goodIn_r _ [5] (by decide +kernel) (by decide +kernel)
set_option maxRecDepth 20000 in
theorem gX12_set_X12_in : GoodIn wsX12_set (va_wsS RX12 45 yX12_in wsX12_in) := goodIn_app (goodIn_of _ (by decide +kernel)) ggX12_set_X12_in
theorem dX12_set_3 : decode cX12_set 3 = .ok (.invokestatic 45, 3) := by decide +kernel
theorem dX12_set_6 : decode cX12_set 6 = .ok (.ifCond .ne 5, 3) := by decide +kernel
theorem dX12_set_11 : decode cX12_set 11 = .ok (.iload_n 2, 1) := by decide +kernel
theorem dX12_set_12 : decode cX12_set 12 = .ok (.iconst 0, 1) := by decide +kernel
theorem dX12_set_13 : decode cX12_set 13 = .ok (.bipush 9, 2) := by decide +kernel
theorem dX12_set_15 : decode cX12_set 15 = .ok (.invokestatic 45, 3) := by decide +kernel
theorem dX12_set_18 : decode cX12_set 18 = .ok (.ifCond .ne 6, 3) := by decide +kernel
theorem dX12_set_24 : decode cX12_set 24 = .ok (.aload_n 0, 1) := by decide +kernel
theorem dX12_set_25 : decode cX12_set 25 = .ok (.getfield 9, 3) := by decide +kernel
theorem dX12_set_28 : decode cX12_set 28 = .ok (.bipush 6, 2) := by decide +kernel
theorem dX12_set_30 : decode cX12_set 30 = .ok (.iload_n 1, 1) := by decide +kernel
theorem dX12_set_31 : decode cX12_set 31 = .ok (.iadd, 1) := by decide +kernel
theorem dX12_set_32 : decode cX12_set 32 = .ok (.iaload, 1) := by decide +kernel
theorem dX12_set_33 : decode cX12_set 33 = .ok (.istore_n 3, 1) := by decide +kernel
theorem dX12_set_34 : decode cX12_set 34 = .ok (.aload_n 0, 1) := by decide +kernel
theorem dX12_set_35 : decode cX12_set 35 = .ok (.getfield 9, 3) := by decide +kernel
theorem dX12_set_38 : decode cX12_set 38 = .ok (.bipush 6, 2) := by decide +kernel
theorem dX12_set_40 : decode cX12_set 40 = .ok (.iload_n 1, 1) := by decide +kernel
theorem dX12_set_41 : decode cX12_set 41 = .ok (.iadd, 1) := by decide +kernel
theorem dX12_set_42 : decode cX12_set 42 = .ok (.iload_n 2, 1) := by decide +kernel
theorem dX12_set_43 : decode cX12_set 43 = .ok (.iastore, 1) := by decide +kernel
theorem dX12_set_44 : decode cX12_set 44 = .ok (.iload_n 3, 1) := by decide +kernel
theorem dX12_set_45 : decode cX12_set 45 = .ok (.ireturn, 1) := by decide +kernel
theorem dX12_set_21 : decode cX12_set 21 = .ok (.bipush (-2), 2) := by decide +kernel
theorem dX12_set_23 : decode cX12_set 23 = .ok (.ireturn, 1) := by decide +kernel
theorem dX12_set_9 : decode cX12_set 9 = .ok (.iconst (-1), 1) := by decide +kernel
theorem dX12_set_10 : decode cX12_set 10 = .ok (.ireturn, 1) := by decide +kernel
theorem dX12_sight_0 : decode cX12_sight 0 = .ok (.aload_n 0, 1) := by decide +kernel
theorem dX12_sight_1 : decode cX12_sight 1 = .ok (.getfield 9, 3) := by decide +kernel
theorem dX12_sight_4 : decode cX12_sight 4 = .ok (.iconst 5, 1) := by decide +kernel
theorem dX12_sight_5 : decode cX12_sight 5 = .ok (.iaload, 1) := by decide +kernel
theorem dX12_sight_6 : decode cX12_sight 6 = .ok (.iconst (-1), 1) := by decide +kernel
theorem dX12_sight_7 : decode cX12_sight 7 = .ok (.if_icmp .ne 7, 3) := by decide +kernel
theorem dX12_sight_10 : decode cX12_sight 10 = .ok (.iconst 3, 1) := by decide +kernel
theorem dX12_sight_11 : decode cX12_sight 11 = .ok (.goto 18, 3) := by decide +kernel
theorem dX12_sight_29 : decode cX12_sight 29 = .ok (.ireturn, 1) := by decide +kernel
theorem dX12_edgesMany_0 : decode cX12_edgesMany 0 = .ok (.iconst 0, 1) := by decide +kernel
theorem dX12_edgesMany_1 : decode cX12_edgesMany 1 = .ok (.istore_n 1, 1) := by decide +kernel
theorem dX12_edgesMany_2 : decode cX12_edgesMany 2 = .ok (.iconst 0, 1) := by decide +kernel
theorem dX12_edgesMany_3 : decode cX12_edgesMany 3 = .ok (.istore_n 2, 1) := by decide +kernel
theorem dX12_edgesMany_4 : decode cX12_edgesMany 4 = .ok (.iload_n 2, 1) := by decide +kernel
theorem dX12_edgesMany_5 : decode cX12_edgesMany 5 = .ok (.bipush 36, 2) := by decide +kernel
theorem dX12_edgesMany_7 : decode cX12_edgesMany 7 = .ok (.if_icmp .ge 21, 3) := by decide +kernel
theorem dX12_edgesMany_28 : decode cX12_edgesMany 28 = .ok (.iload_n 1, 1) := by decide +kernel
theorem dX12_edgesMany_29 : decode cX12_edgesMany 29 = .ok (.ireturn, 1) := by decide +kernel
theorem dX12_edgesMany_10 : decode cX12_edgesMany 10 = .ok (.iload_n 1, 1) := by decide +kernel
theorem dX12_edgesMany_11 : decode cX12_edgesMany 11 = .ok (.aload_n 0, 1) := by decide +kernel
theorem dX12_edgesMany_12 : decode cX12_edgesMany 12 = .ok (.getfield 9, 3) := by decide +kernel
theorem dX12_edgesMany_15 : decode cX12_edgesMany 15 = .ok (.bipush 37, 2) := by decide +kernel
theorem dX12_edgesMany_17 : decode cX12_edgesMany 17 = .ok (.iload_n 2, 1) := by decide +kernel
theorem dX12_edgesMany_18 : decode cX12_edgesMany 18 = .ok (.iadd, 1) := by decide +kernel
theorem dX12_edgesMany_19 : decode cX12_edgesMany 19 = .ok (.iaload, 1) := by decide +kernel
theorem dX12_edgesMany_20 : decode cX12_edgesMany 20 = .ok (.iadd, 1) := by decide +kernel
theorem dX12_edgesMany_21 : decode cX12_edgesMany 21 = .ok (.istore_n 1, 1) := by decide +kernel
theorem dX12_edgesMany_22 : decode cX12_edgesMany 22 = .ok (.iinc 2 1, 3) := by decide +kernel
theorem dX12_edgesMany_25 : decode cX12_edgesMany 25 = .ok (.goto (-21), 3) := by decide +kernel
theorem dX12_told_0 : decode cX12_told 0 = .ok (.iload_n 1, 1) := by decide +kernel
theorem dX12_told_1 : decode cX12_told 1 = .ok (.tableswitch 57 0 3 #[31, 39, 47, 52], 31) := by decide +kernel
theorem dX12_told_32 : decode cX12_told 32 = .ok (.aload_n 0, 1) := by decide +kernel
theorem dX12_told_33 : decode cX12_told 33 = .ok (.getfield 9, 3) := by decide +kernel
theorem dX12_told_36 : decode cX12_told 36 = .ok (.bipush 6, 2) := by decide +kernel
theorem dX12_told_38 : decode cX12_told 38 = .ok (.iaload, 1) := by decide +kernel
theorem dX12_told_39 : decode cX12_told 39 = .ok (.ireturn, 1) := by decide +kernel
theorem dX12_told_40 : decode cX12_told 40 = .ok (.aload_n 0, 1) := by decide +kernel
theorem dX12_told_41 : decode cX12_told 41 = .ok (.getfield 9, 3) := by decide +kernel
theorem dX12_told_44 : decode cX12_told 44 = .ok (.bipush 7, 2) := by decide +kernel
theorem dX12_told_46 : decode cX12_told 46 = .ok (.iaload, 1) := by decide +kernel
theorem dX12_told_47 : decode cX12_told 47 = .ok (.ireturn, 1) := by decide +kernel
theorem dX12_told_48 : decode cX12_told 48 = .ok (.aload_n 0, 1) := by decide +kernel
set_option maxRecDepth 20000 in
theorem ggX12_told_X12_sight : GoodIn wsX12_told wsX12_sight := goodIn_r _ [6, 1, 11, 12, 13, 14, 15, 16, 17, 18, 19, 20, 21, 22, 23, 24, 25, 26, 27, 28, 29, 30, 31, 32, 33] (by decide +kernel) (by decide +kernel)
set_option maxRecDepth 20000 in
theorem gX12_told_X12_sight : GoodIn wsX12_told (wsV RX12 140 RX12 yX12_sight wsX12_sight) := goodIn_app (goodIn_of _ (by decide +kernel)) ggX12_told_X12_sight
theorem dX12_told_49 : decode cX12_told 49 = .ok (.invokevirtual 140, 3) := by decide +kernel
theorem dX12_told_52 : decode cX12_told 52 = .ok (.ireturn, 1) := by decide +kernel
theorem dX12_told_53 : decode cX12_told 53 = .ok (.aload_n 0, 1) := by decide +kernel
set_option maxRecDepth 20000 in
theorem ggX12_told_X12_edgesMany : GoodIn wsX12_told wsX12_edgesMany := goodIn_r _ [10, 1, 11, 12, 13, 14, 15, 16, 17, 18, 19, 20, 21, 22, 23, 24, 25, 26, 27, 28, 29, 30, 31, 32, 33] (by decide +kernel) (by decide +kernel)
set_option maxRecDepth 20000 in
theorem gX12_told_X12_edgesMany : GoodIn wsX12_told (wsV RX12 137 RX12 yX12_edgesMany wsX12_edgesMany) := goodIn_app (goodIn_of _ (by decide +kernel)) ggX12_told_X12_edgesMany
theorem dX12_told_54 : decode cX12_told 54 = .ok (.invokevirtual 137, 3) := by decide +kernel
theorem dX12_told_57 : decode cX12_told 57 = .ok (.ireturn, 1) := by decide +kernel
theorem dX12_told_58 : decode cX12_told 58 = .ok (.iconst (-1), 1) := by decide +kernel
theorem dX12_told_59 : decode cX12_told 59 = .ok (.ireturn, 1) := by decide +kernel
theorem dX12_edges_0 : decode cX12_edges 0 = .ok (.lload_n 1, 1) := by decide +kernel
theorem dX12_edges_1 : decode cX12_edges 1 = .ok (.lconst 0, 1) := by decide +kernel
theorem dX12_edges_2 : decode cX12_edges 2 = .ok (.lcmp, 1) := by decide +kernel
theorem dX12_edges_3 : decode cX12_edges 3 = .ok (.ifCond .lt 12, 3) := by decide +kernel
theorem dX12_edges_15 : decode cX12_edges 15 = .ok (.bipush (-2), 2) := by decide +kernel
theorem dX12_edges_17 : decode cX12_edges 17 = .ok (.ireturn, 1) := by decide +kernel
theorem dX12_edges_6 : decode cX12_edges 6 = .ok (.lload_n 1, 1) := by decide +kernel
theorem dX12_edges_7 : decode cX12_edges 7 = .ok (.bipush 36, 2) := by decide +kernel
theorem dX12_edges_9 : decode cX12_edges 9 = .ok (.lshr, 1) := by decide +kernel
theorem dX12_edges_10 : decode cX12_edges 10 = .ok (.lconst 0, 1) := by decide +kernel
theorem dX12_edges_11 : decode cX12_edges 11 = .ok (.lcmp, 1) := by decide +kernel
theorem dX12_edges_12 : decode cX12_edges 12 = .ok (.ifCond .eq 6, 3) := by decide +kernel
theorem dX12_edges_18 : decode cX12_edges 18 = .ok (.aload_n 0, 1) := by decide +kernel
set_option maxRecDepth 20000 in
theorem ggX12_edges_X12_edgesMany : GoodIn wsX12_edges wsX12_edgesMany := goodIn_r _ [6, 1, 7, 8, 9, 10, 11, 12, 13, 14, 15, 16, 17, 18, 19, 20, 21, 22, 23, 24, 25, 26, 27, 28, 29] (by decide +kernel) (by decide +kernel)
set_option maxRecDepth 20000 in
theorem gX12_edges_X12_edgesMany : GoodIn wsX12_edges (wsV RX12 137 RX12 yX12_edgesMany wsX12_edgesMany) := goodIn_app (goodIn_of _ (by decide +kernel)) ggX12_edges_X12_edgesMany
theorem dX12_edges_19 : decode cX12_edges 19 = .ok (.invokevirtual 137, 3) := by decide +kernel
theorem dX12_edges_22 : decode cX12_edges 22 = .ok (.istore_n 3, 1) := by decide +kernel
theorem dX12_edges_23 : decode cX12_edges 23 = .ok (.iconst 0, 1) := by decide +kernel
theorem dX12_edges_24 : decode cX12_edges 24 = .ok (.istore 4, 2) := by decide +kernel
theorem dX12_edges_26 : decode cX12_edges 26 = .ok (.iload 4, 2) := by decide +kernel
theorem dX12_edges_28 : decode cX12_edges 28 = .ok (.bipush 36, 2) := by decide +kernel
theorem dX12_edges_30 : decode cX12_edges 30 = .ok (.if_icmp .ge 26, 3) := by decide +kernel
theorem dX12_edges_56 : decode cX12_edges 56 = .ok (.iload_n 3, 1) := by decide +kernel
theorem dX12_edges_57 : decode cX12_edges 57 = .ok (.ireturn, 1) := by decide +kernel
theorem dX12_edges_33 : decode cX12_edges 33 = .ok (.aload_n 0, 1) := by decide +kernel
theorem dX12_edges_34 : decode cX12_edges 34 = .ok (.getfield 9, 3) := by decide +kernel
theorem dX12_edges_37 : decode cX12_edges 37 = .ok (.bipush 37, 2) := by decide +kernel
theorem dX12_edges_39 : decode cX12_edges 39 = .ok (.iload 4, 2) := by decide +kernel
theorem dX12_edges_41 : decode cX12_edges 41 = .ok (.iadd, 1) := by decide +kernel
theorem dX12_edges_42 : decode cX12_edges 42 = .ok (.lload_n 1, 1) := by decide +kernel
theorem dX12_edges_43 : decode cX12_edges 43 = .ok (.iload 4, 2) := by decide +kernel
theorem dX12_edges_45 : decode cX12_edges 45 = .ok (.lshr, 1) := by decide +kernel
theorem dX12_edges_46 : decode cX12_edges 46 = .ok (.lconst 1, 1) := by decide +kernel
theorem dX12_edges_47 : decode cX12_edges 47 = .ok (.land, 1) := by decide +kernel
theorem dX12_edges_48 : decode cX12_edges 48 = .ok (.l2i, 1) := by decide +kernel
theorem dX12_edges_49 : decode cX12_edges 49 = .ok (.iastore, 1) := by decide +kernel
theorem dX12_edges_50 : decode cX12_edges 50 = .ok (.iinc 4 1, 3) := by decide +kernel
theorem dX12_edges_53 : decode cX12_edges 53 = .ok (.goto (-27), 3) := by decide +kernel
theorem dX12_heapOn_0 : decode cX12_heapOn 0 = .ok (.iconst (-1), 1) := by decide +kernel
theorem dX12_heapOn_1 : decode cX12_heapOn 1 = .ok (.istore_n 2, 1) := by decide +kernel
theorem dX12_heapOn_2 : decode cX12_heapOn 2 = .ok (.iconst 0, 1) := by decide +kernel
theorem dX12_heapOn_3 : decode cX12_heapOn 3 = .ok (.istore_n 3, 1) := by decide +kernel
theorem dX12_heapOn_4 : decode cX12_heapOn 4 = .ok (.iload_n 3, 1) := by decide +kernel
theorem dX12_heapOn_5 : decode cX12_heapOn 5 = .ok (.aload_n 0, 1) := by decide +kernel
theorem dX12_heapOn_6 : decode cX12_heapOn 6 = .ok (.getfield 9, 3) := by decide +kernel
theorem dX12_heapOn_9 : decode cX12_heapOn 9 = .ok (.iconst 0, 1) := by decide +kernel
theorem dX12_heapOn_10 : decode cX12_heapOn 10 = .ok (.iaload, 1) := by decide +kernel
theorem dX12_heapOn_11 : decode cX12_heapOn 11 = .ok (.if_icmp .ge 28, 3) := by decide +kernel
theorem dX12_heapOn_39 : decode cX12_heapOn 39 = .ok (.iload_n 2, 1) := by decide +kernel
theorem dX12_heapOn_40 : decode cX12_heapOn 40 = .ok (.ireturn, 1) := by decide +kernel
theorem dX12_puts_0 : decode cX12_puts 0 = .ok (.aload_n 0, 1) := by decide +kernel
theorem dX12_puts_1 : decode cX12_puts 1 = .ok (.getfield 9, 3) := by decide +kernel
theorem dX12_puts_4 : decode cX12_puts 4 = .ok (.iconst 0, 1) := by decide +kernel
theorem dX12_puts_5 : decode cX12_puts 5 = .ok (.iaload, 1) := by decide +kernel
theorem dX12_puts_6 : decode cX12_puts 6 = .ok (.istore 4, 2) := by decide +kernel
theorem dX12_puts_8 : decode cX12_puts 8 = .ok (.aload_n 0, 1) := by decide +kernel
theorem dX12_puts_9 : decode cX12_puts 9 = .ok (.getfield 9, 3) := by decide +kernel
theorem dX12_puts_12 : decode cX12_puts 12 = .ok (.bipush 10, 2) := by decide +kernel
theorem dX12_puts_14 : decode cX12_puts 14 = .ok (.iload 4, 2) := by decide +kernel
theorem dX12_puts_16 : decode cX12_puts 16 = .ok (.iadd, 1) := by decide +kernel
theorem dX12_puts_17 : decode cX12_puts 17 = .ok (.iload_n 1, 1) := by decide +kernel
theorem dX12_puts_18 : decode cX12_puts 18 = .ok (.iastore, 1) := by decide +kernel
theorem dX12_puts_19 : decode cX12_puts 19 = .ok (.aload_n 0, 1) := by decide +kernel
theorem dX12_puts_20 : decode cX12_puts 20 = .ok (.getfield 9, 3) := by decide +kernel
theorem dX12_puts_23 : decode cX12_puts 23 = .ok (.bipush 19, 2) := by decide +kernel
theorem dX12_puts_25 : decode cX12_puts 25 = .ok (.iload 4, 2) := by decide +kernel
theorem dX12_puts_27 : decode cX12_puts 27 = .ok (.iadd, 1) := by decide +kernel
theorem dX12_puts_28 : decode cX12_puts 28 = .ok (.iload_n 2, 1) := by decide +kernel
theorem dX12_puts_29 : decode cX12_puts 29 = .ok (.iastore, 1) := by decide +kernel
theorem dX12_puts_30 : decode cX12_puts 30 = .ok (.aload_n 0, 1) := by decide +kernel
theorem dX12_puts_31 : decode cX12_puts 31 = .ok (.getfield 9, 3) := by decide +kernel
theorem dX12_puts_34 : decode cX12_puts 34 = .ok (.bipush 28, 2) := by decide +kernel
theorem dX12_puts_36 : decode cX12_puts 36 = .ok (.iload 4, 2) := by decide +kernel
theorem dX12_puts_38 : decode cX12_puts 38 = .ok (.iadd, 1) := by decide +kernel
theorem dX12_puts_39 : decode cX12_puts 39 = .ok (.iload_n 3, 1) := by decide +kernel
theorem dX12_puts_40 : decode cX12_puts 40 = .ok (.iastore, 1) := by decide +kernel
theorem dX12_puts_41 : decode cX12_puts 41 = .ok (.aload_n 0, 1) := by decide +kernel
theorem dX12_puts_42 : decode cX12_puts 42 = .ok (.getfield 9, 3) := by decide +kernel
theorem dX12_puts_45 : decode cX12_puts 45 = .ok (.iconst 0, 1) := by decide +kernel
theorem dX12_puts_46 : decode cX12_puts 46 = .ok (.dup2, 1) := by decide +kernel
theorem dX12_puts_47 : decode cX12_puts 47 = .ok (.iaload, 1) := by decide +kernel
theorem dX12_puts_48 : decode cX12_puts 48 = .ok (.iconst 1, 1) := by decide +kernel
theorem dX12_puts_49 : decode cX12_puts 49 = .ok (.iadd, 1) := by decide +kernel
theorem dX12_puts_50 : decode cX12_puts 50 = .ok (.iastore, 1) := by decide +kernel
theorem dX12_puts_51 : decode cX12_puts 51 = .ok (.iload 4, 2) := by decide +kernel
theorem dX12_puts_53 : decode cX12_puts 53 = .ok (.ireturn, 1) := by decide +kernel
theorem dX12_heap_0 : decode cX12_heap 0 = .ok (.iload_n 1, 1) := by decide +kernel
theorem dX12_heap_1 : decode cX12_heap 1 = .ok (.iconst 0, 1) := by decide +kernel
theorem dX12_heap_2 : decode cX12_heap 2 = .ok (.bipush 6, 2) := by decide +kernel
set_option maxRecDepth 20000 in
theorem ggX12_heap_X12_in : GoodIn wsX12_heap wsX12_in := goodIn_r _ [5] (by decide +kernel) (by decide +kernel)
set_option maxRecDepth 20000 in
theorem gX12_heap_X12_in : GoodIn wsX12_heap (va_wsS RX12 45 yX12_in wsX12_in) := goodIn_app (goodIn_of _ (by decide +kernel)) ggX12_heap_X12_in
theorem dX12_heap_4 : decode cX12_heap 4 = .ok (.invokestatic 45, 3) := by decide +kernel
theorem dX12_heap_7 : decode cX12_heap 7 = .ok (.ifCond .eq 10, 3) := by decide +kernel
theorem dX12_heap_10 : decode cX12_heap 10 = .ok (.iload_n 3, 1) := by decide +kernel
set_option maxRecDepth 20000 in
theorem ggX12_heap_X12_isCell : GoodIn wsX12_heap wsX12_isCell := goodIn_r _ [8, 2, 3, 4, 5] (by decide +kernel) (by decide +kernel)
set_option maxRecDepth 20000 in
theorem gX12_heap_X12_isCell : GoodIn wsX12_heap (va_wsS RX12 149 yX12_isCell wsX12_isCell) := goodIn_app (goodIn_of _ (by decide +kernel)) ggX12_heap_X12_isCell
theorem dX12_heap_11 : decode cX12_heap 11 = .ok (.invokestatic 149, 3) := by decide +kernel
theorem dX12_heap_14 : decode cX12_heap 14 = .ok (.ifCond .ne 5, 3) := by decide +kernel
theorem dX12_heap_19 : decode cX12_heap 19 = .ok (.iload_n 2, 1) := by decide +kernel
theorem dX12_heap_20 : decode cX12_heap 20 = .ok (.iconst 0, 1) := by decide +kernel
theorem dX12_heap_21 : decode cX12_heap 21 = .ok (.bipush 9, 2) := by decide +kernel
theorem dX12_heap_23 : decode cX12_heap 23 = .ok (.invokestatic 45, 3) := by decide +kernel
theorem dX12_heap_26 : decode cX12_heap 26 = .ok (.ifCond .ne 6, 3) := by decide +kernel
theorem dX12_heap_32 : decode cX12_heap 32 = .ok (.aload_n 0, 1) := by decide +kernel
theorem dX12_heap_33 : decode cX12_heap 33 = .ok (.iload_n 3, 1) := by decide +kernel
set_option maxRecDepth 20000 in
theorem ggX12_heap_X12_heapOn : GoodIn wsX12_heap wsX12_heapOn := goodIn_r _ [12, 1, 17, 18, 19, 20, 21, 22, 23, 24, 25, 26, 27, 28, 29, 30, 31, 32, 33, 34, 35, 36, 37, 38, 39] (by decide +kernel) (by decide +kernel)
set_option maxRecDepth 20000 in
theorem gX12_heap_X12_heapOn : GoodIn wsX12_heap (wsV RX12 153 RX12 yX12_heapOn wsX12_heapOn) := goodIn_app (goodIn_of _ (by decide +kernel)) ggX12_heap_X12_heapOn
theorem dX12_heap_34 : decode cX12_heap 34 = .ok (.invokevirtual 153, 3) := by decide +kernel
theorem dX12_heap_37 : decode cX12_heap 37 = .ok (.iconst (-1), 1) := by decide +kernel
theorem dX12_heap_38 : decode cX12_heap 38 = .ok (.if_icmp .eq 6, 3) := by decide +kernel
theorem dX12_heap_44 : decode cX12_heap 44 = .ok (.aload_n 0, 1) := by decide +kernel
theorem dX12_heap_45 : decode cX12_heap 45 = .ok (.getfield 9, 3) := by decide +kernel
theorem dX12_heap_48 : decode cX12_heap 48 = .ok (.iconst 0, 1) := by decide +kernel
theorem dX12_heap_49 : decode cX12_heap 49 = .ok (.iaload, 1) := by decide +kernel
theorem dX12_heap_50 : decode cX12_heap 50 = .ok (.bipush 8, 2) := by decide +kernel
theorem dX12_heap_52 : decode cX12_heap 52 = .ok (.if_icmp .ne 6, 3) := by decide +kernel
theorem dX12_heap_58 : decode cX12_heap 58 = .ok (.aload_n 0, 1) := by decide +kernel
theorem dX12_heap_59 : decode cX12_heap 59 = .ok (.iload_n 1, 1) := by decide +kernel
theorem dX12_heap_60 : decode cX12_heap 60 = .ok (.iload_n 2, 1) := by decide +kernel
theorem dX12_heap_61 : decode cX12_heap 61 = .ok (.iload_n 3, 1) := by decide +kernel
set_option maxRecDepth 20000 in
theorem ggX12_heap_X12_puts : GoodIn wsX12_heap wsX12_puts := goodIn_r _ [16, 1, 17, 18, 19, 20, 21, 22, 23, 24, 25, 26, 27, 28, 29, 30, 31, 32, 33, 34, 35, 36, 37, 38, 39] (by decide +kernel) (by decide +kernel)
set_option maxRecDepth 20000 in
theorem gX12_heap_X12_puts : GoodIn wsX12_heap (wsV RX12 156 RX12 yX12_puts wsX12_puts) := goodIn_app (goodIn_of _ (by decide +kernel)) ggX12_heap_X12_puts
theorem dX12_heap_62 : decode cX12_heap 62 = .ok (.invokevirtual 156, 3) := by decide +kernel
theorem dX12_heap_65 : decode cX12_heap 65 = .ok (.ireturn, 1) := by decide +kernel
theorem dX12_heap_29 : decode cX12_heap 29 = .ok (.bipush (-2), 2) := by decide +kernel
theorem dX12_heap_31 : decode cX12_heap 31 = .ok (.ireturn, 1) := by decide +kernel
theorem dX12_heap_17 : decode cX12_heap 17 = .ok (.iconst (-1), 1) := by decide +kernel
theorem dX12_heap_18 : decode cX12_heap 18 = .ok (.ireturn, 1) := by decide +kernel
theorem dX12_of_0 : decode cX12_of 0 = .ok (.aload_n 0, 1) := by decide +kernel
theorem dX12_of_1 : decode cX12_of 1 = .ok (.iload_n 1, 1) := by decide +kernel
set_option maxRecDepth 20000 in
theorem ggX12_of_X12_isHeap : GoodIn wsX12_of wsX12_isHeap := goodIn_r _ [6, 1, 7, 8, 5, 9, 26, 27, 28, 29, 30, 31, 32, 33, 34, 35, 36, 37, 38, 39, 40, 41, 42, 43, 44, 45, 46, 47, 48] (by decide +kernel) (by decide +kernel)
set_option maxRecDepth 20000 in
theorem gX12_of_X12_isHeap : GoodIn wsX12_of (wsV RX12 164 RX12 yX12_isHeap wsX12_isHeap) := goodIn_app (goodIn_of _ (by decide +kernel)) ggX12_of_X12_isHeap
theorem dX12_of_2 : decode cX12_of 2 = .ok (.invokevirtual 164, 3) := by decide +kernel
theorem dX12_of_5 : decode cX12_of 5 = .ok (.ifCond .eq 12, 3) := by decide +kernel
theorem dX12_of_17 : decode cX12_of 17 = .ok (.iconst (-1), 1) := by decide +kernel
theorem dX12_of_18 : decode cX12_of 18 = .ok (.ireturn, 1) := by decide +kernel
theorem dX12_steps_0 : decode cX12_steps 0 = .ok (.aload_n 0, 1) := by decide +kernel
theorem dX12_steps_1 : decode cX12_steps 1 = .ok (.iload_n 1, 1) := by decide +kernel
set_option maxRecDepth 20000 in
theorem ggX12_steps_X12_isHeap : GoodIn wsX12_steps wsX12_isHeap := goodIn_r _ [5, 6, 7, 8, 4, 9, 66, 67, 68, 69, 70, 71, 72, 73, 74, 75, 76, 77, 78, 79, 80, 81, 82, 83, 84, 85, 86, 87, 88] (by decide +kernel) (by decide +kernel)
set_option maxRecDepth 20000 in
theorem gX12_steps_X12_isHeap : GoodIn wsX12_steps (wsV RX12 164 RX12 yX12_isHeap wsX12_isHeap) := goodIn_app (goodIn_of _ (by decide +kernel)) ggX12_steps_X12_isHeap
theorem dX12_steps_2 : decode cX12_steps 2 = .ok (.invokevirtual 164, 3) := by decide +kernel
theorem dX12_steps_5 : decode cX12_steps 5 = .ok (.ifCond .eq 20, 3) := by decide +kernel
theorem dX12_steps_25 : decode cX12_steps 25 = .ok (.iconst (-1), 1) := by decide +kernel
theorem dX12_steps_26 : decode cX12_steps 26 = .ok (.ireturn, 1) := by decide +kernel
theorem dX12_via_0 : decode cX12_via 0 = .ok (.aload_n 0, 1) := by decide +kernel
theorem dX12_via_1 : decode cX12_via 1 = .ok (.iload_n 1, 1) := by decide +kernel
set_option maxRecDepth 20000 in
theorem ggX12_via_X12_isHeap : GoodIn wsX12_via wsX12_isHeap := goodIn_r _ [7, 1, 8, 9, 6, 10, 66, 67, 68, 69, 70, 71, 72, 73, 74, 75, 76, 77, 78, 79, 80, 81, 82, 83, 84, 85, 86, 87, 88] (by decide +kernel) (by decide +kernel)
set_option maxRecDepth 20000 in
theorem gX12_via_X12_isHeap : GoodIn wsX12_via (wsV RX12 164 RX12 yX12_isHeap wsX12_isHeap) := goodIn_app (goodIn_of _ (by decide +kernel)) ggX12_via_X12_isHeap
theorem dX12_via_2 : decode cX12_via 2 = .ok (.invokevirtual 164, 3) := by decide +kernel
theorem dX12_via_5 : decode cX12_via 5 = .ok (.ifCond .eq 11, 3) := by decide +kernel
theorem dX12_via_16 : decode cX12_via 16 = .ok (.iconst (-1), 1) := by decide +kernel
theorem dX12_via_17 : decode cX12_via 17 = .ok (.ireturn, 1) := by decide +kernel
theorem dX12_cuts_0 : decode cX12_cuts 0 = .ok (.aload_n 0, 1) := by decide +kernel
theorem dX12_cuts_1 : decode cX12_cuts 1 = .ok (.iload_n 1, 1) := by decide +kernel
set_option maxRecDepth 20000 in
theorem ggX12_cuts_X12_isHeap : GoodIn wsX12_cuts wsX12_isHeap := goodIn_r _ [6, 1, 7, 8, 5, 9, 66, 67, 68, 69, 70, 71, 72, 73, 74, 75, 76, 77, 78, 79, 80, 81, 82, 83, 84, 85, 86, 87, 88] (by decide +kernel) (by decide +kernel)
set_option maxRecDepth 20000 in
theorem gX12_cuts_X12_isHeap : GoodIn wsX12_cuts (wsV RX12 164 RX12 yX12_isHeap wsX12_isHeap) := goodIn_app (goodIn_of _ (by decide +kernel)) ggX12_cuts_X12_isHeap
theorem dX12_cuts_2 : decode cX12_cuts 2 = .ok (.invokevirtual 164, 3) := by decide +kernel
theorem dX12_cuts_5 : decode cX12_cuts 5 = .ok (.ifCond .eq 11, 3) := by decide +kernel
theorem dX12_cuts_16 : decode cX12_cuts 16 = .ok (.iconst (-1), 1) := by decide +kernel
theorem dX12_cuts_17 : decode cX12_cuts 17 = .ok (.ireturn, 1) := by decide +kernel
theorem dX12_bears_0 : decode cX12_bears 0 = .ok (.aload_n 0, 1) := by decide +kernel
theorem dX12_bears_1 : decode cX12_bears 1 = .ok (.iload_n 1, 1) := by decide +kernel
set_option maxRecDepth 20000 in
theorem ggX12_bears_X12_isHeap : GoodIn wsX12_bears wsX12_isHeap := goodIn_r _ [6, 1, 7, 8, 5, 9, 66, 67, 68, 69, 70, 71, 72, 73, 74, 75, 76, 77, 78, 79, 80, 81, 82, 83, 84, 85, 86, 87, 88] (by decide +kernel) (by decide +kernel)
set_option maxRecDepth 20000 in
theorem gX12_bears_X12_isHeap : GoodIn wsX12_bears (wsV RX12 164 RX12 yX12_isHeap wsX12_isHeap) := goodIn_app (goodIn_of _ (by decide +kernel)) ggX12_bears_X12_isHeap
theorem dX12_bears_2 : decode cX12_bears 2 = .ok (.invokevirtual 164, 3) := by decide +kernel
theorem dX12_bears_5 : decode cX12_bears 5 = .ok (.ifCond .eq 11, 3) := by decide +kernel
theorem dX12_bears_16 : decode cX12_bears 16 = .ok (.iconst (-1), 1) := by decide +kernel
theorem dX12_bears_17 : decode cX12_bears 17 = .ok (.ireturn, 1) := by decide +kernel
theorem dX12_build_0 : decode cX12_build 0 = .ok (.aload_n 0, 1) := by decide +kernel
theorem dX12_build_1 : decode cX12_build 1 = .ok (.iload_n 1, 1) := by decide +kernel
set_option maxRecDepth 20000 in
theorem ggX12_build_X12_isHeap : GoodIn wsX12_build wsX12_isHeap := goodIn_r _ [6, 1, 7, 8, 5, 9, 74, 75, 76, 77, 78, 79, 80, 81, 82, 83, 84, 85, 86, 87, 88, 89, 90, 91, 92, 93, 94, 95, 96] (by decide +kernel) (by decide +kernel)
set_option maxRecDepth 20000 in
theorem gX12_build_X12_isHeap : GoodIn wsX12_build (wsV RX12 164 RX12 yX12_isHeap wsX12_isHeap) := goodIn_app (goodIn_of _ (by decide +kernel)) ggX12_build_X12_isHeap
theorem dX12_build_2 : decode cX12_build 2 = .ok (.invokevirtual 164, 3) := by decide +kernel
theorem dX12_build_5 : decode cX12_build 5 = .ok (.ifCond .eq 20, 3) := by decide +kernel
theorem dX12_build_25 : decode cX12_build 25 = .ok (.iconst (-1), 1) := by decide +kernel
theorem dX12_build_26 : decode cX12_build 26 = .ok (.ireturn, 1) := by decide +kernel
theorem dX12_line_0 : decode cX12_line 0 = .ok (.aload_n 0, 1) := by decide +kernel
theorem dX12_line_1 : decode cX12_line 1 = .ok (.iload_n 1, 1) := by decide +kernel
set_option maxRecDepth 20000 in
theorem ggX12_line_X12_isHeap : GoodIn wsX12_line wsX12_isHeap := goodIn_r _ [6, 1, 7, 8, 5, 9, 20, 21, 22, 23, 24, 25, 26, 27, 28, 29, 30, 31, 32, 33, 34, 35, 36, 37, 38, 39, 40, 41, 42] (by decide +kernel) (by decide +kernel)
set_option maxRecDepth 20000 in
theorem gX12_line_X12_isHeap : GoodIn wsX12_line (wsV RX12 164 RX12 yX12_isHeap wsX12_isHeap) := goodIn_app (goodIn_of _ (by decide +kernel)) ggX12_line_X12_isHeap
theorem dX12_line_2 : decode cX12_line 2 = .ok (.invokevirtual 164, 3) := by decide +kernel
theorem dX12_line_5 : decode cX12_line 5 = .ok (.ifCond .ne 5, 3) := by decide +kernel
theorem dX12_line_8 : decode cX12_line 8 = .ok (.iconst (-1), 1) := by decide +kernel
theorem dX12_line_9 : decode cX12_line 9 = .ok (.ireturn, 1) := by decide +kernel
theorem dX12_next_0 : decode cX12_next 0 = .ok (.aload_n 0, 1) := by decide +kernel
theorem dX12_next_1 : decode cX12_next 1 = .ok (.iload_n 1, 1) := by decide +kernel
set_option maxRecDepth 20000 in
theorem ggX12_next_X12_isHeap : GoodIn wsX12_next wsX12_isHeap := goodIn_r _ [6, 1, 7, 8, 5, 9, 10, 11, 12, 13, 14, 15, 16, 17, 18, 19, 20, 21, 22, 23, 24, 25, 26, 27, 28, 29, 30, 31, 32] (by decide +kernel) (by decide +kernel)
set_option maxRecDepth 20000 in
theorem gX12_next_X12_isHeap : GoodIn wsX12_next (wsV RX12 164 RX12 yX12_isHeap wsX12_isHeap) := goodIn_app (goodIn_of _ (by decide +kernel)) ggX12_next_X12_isHeap
theorem dX12_next_2 : decode cX12_next 2 = .ok (.invokevirtual 164, 3) := by decide +kernel
theorem dX12_next_5 : decode cX12_next 5 = .ok (.ifCond .eq 19, 3) := by decide +kernel
theorem dX12_next_24 : decode cX12_next 24 = .ok (.iconst (-1), 1) := by decide +kernel
theorem dX12_next_25 : decode cX12_next 25 = .ok (.ireturn, 1) := by decide +kernel
theorem dX12_as_0 : decode cX12_as 0 = .ok (.aload_n 0, 1) := by decide +kernel
theorem dX12_as_1 : decode cX12_as 1 = .ok (.iload_n 1, 1) := by decide +kernel
set_option maxRecDepth 20000 in
theorem ggX12_as_X12_isHeap : GoodIn wsX12_as wsX12_isHeap := goodIn_r _ [6, 1, 7, 8, 5, 9, 13, 14, 15, 16, 17, 18, 19, 20, 21, 22, 23, 24, 25, 26, 27, 28, 29, 30, 31, 32, 33, 34, 35] (by decide +kernel) (by decide +kernel)
set_option maxRecDepth 20000 in
theorem gX12_as_X12_isHeap : GoodIn wsX12_as (wsV RX12 164 RX12 yX12_isHeap wsX12_isHeap) := goodIn_app (goodIn_of _ (by decide +kernel)) ggX12_as_X12_isHeap
theorem dX12_as_2 : decode cX12_as 2 = .ok (.invokevirtual 164, 3) := by decide +kernel
theorem dX12_as_5 : decode cX12_as 5 = .ok (.ifCond .eq 13, 3) := by decide +kernel
theorem dX12_as_18 : decode cX12_as 18 = .ok (.iconst (-1), 1) := by decide +kernel
theorem dX12_as_19 : decode cX12_as 19 = .ok (.ireturn, 1) := by decide +kernel
theorem dX12_looked_0 : decode cX12_looked 0 = .ok (.iconst 1, 1) := by decide +kernel
theorem dX12_looked_1 : decode cX12_looked 1 = .ok (.istore_n 1, 1) := by decide +kernel
theorem dX12_looked_2 : decode cX12_looked 2 = .ok (.iload_n 1, 1) := by decide +kernel
theorem dX12_looked_3 : decode cX12_looked 3 = .ok (.aload_n 0, 1) := by decide +kernel
theorem dX12_looked_4 : decode cX12_looked 4 = .ok (.getfield 9, 3) := by decide +kernel
theorem dX12_looked_7 : decode cX12_looked 7 = .ok (.iconst 3, 1) := by decide +kernel
theorem dX12_looked_8 : decode cX12_looked 8 = .ok (.iaload, 1) := by decide +kernel
theorem dX12_looked_9 : decode cX12_looked 9 = .ok (.if_icmp .ge 38, 3) := by decide +kernel
theorem dX12_looked_47 : decode cX12_looked 47 = .ok (.bipush (-5), 2) := by decide +kernel
theorem dX12_looked_49 : decode cX12_looked 49 = .ok (.ireturn, 1) := by decide +kernel
theorem dX12_undo_0 : decode cX12_undo 0 = .ok (.aload_n 0, 1) := by decide +kernel
theorem dX12_undo_1 : decode cX12_undo 1 = .ok (.getfield 282, 3) := by decide +kernel
theorem dX12_undo_4 : decode cX12_undo 4 = .ok (.ifCond .ne 6, 3) := by decide +kernel
theorem dX12_undo_7 : decode cX12_undo 7 = .ok (.bipush (-3), 2) := by decide +kernel
theorem dX12_undo_9 : decode cX12_undo 9 = .ok (.ireturn, 1) := by decide +kernel
theorem dX12_count_0 : decode cX12_count 0 = .ok (.iload_n 1, 1) := by decide +kernel
theorem dX12_count_1 : decode cX12_count 1 = .ok (.tableswitch 79 0 5 #[39, 46, 53, 60, 67, 74], 39) := by decide +kernel
theorem dX12_count_40 : decode cX12_count 40 = .ok (.aload_n 0, 1) := by decide +kernel
theorem dX12_count_41 : decode cX12_count 41 = .ok (.getfield 9, 3) := by decide +kernel
theorem dX12_count_44 : decode cX12_count 44 = .ok (.iconst 0, 1) := by decide +kernel
theorem dX12_count_45 : decode cX12_count 45 = .ok (.iaload, 1) := by decide +kernel
theorem dX12_count_46 : decode cX12_count 46 = .ok (.ireturn, 1) := by decide +kernel
theorem dX12_count_47 : decode cX12_count 47 = .ok (.aload_n 0, 1) := by decide +kernel
theorem dX12_count_48 : decode cX12_count 48 = .ok (.getfield 9, 3) := by decide +kernel
theorem dX12_count_51 : decode cX12_count 51 = .ok (.iconst 1, 1) := by decide +kernel
theorem dX12_count_52 : decode cX12_count 52 = .ok (.iaload, 1) := by decide +kernel
theorem dX12_count_53 : decode cX12_count 53 = .ok (.ireturn, 1) := by decide +kernel
theorem dX12_count_54 : decode cX12_count 54 = .ok (.aload_n 0, 1) := by decide +kernel
theorem dX12_count_55 : decode cX12_count 55 = .ok (.getfield 9, 3) := by decide +kernel
theorem dX12_count_58 : decode cX12_count 58 = .ok (.iconst 2, 1) := by decide +kernel
theorem dX12_count_59 : decode cX12_count 59 = .ok (.iaload, 1) := by decide +kernel
theorem dX12_count_60 : decode cX12_count 60 = .ok (.ireturn, 1) := by decide +kernel
theorem dX12_count_61 : decode cX12_count 61 = .ok (.aload_n 0, 1) := by decide +kernel
theorem dX12_count_62 : decode cX12_count 62 = .ok (.getfield 9, 3) := by decide +kernel
theorem dX12_count_65 : decode cX12_count 65 = .ok (.iconst 3, 1) := by decide +kernel
theorem dX12_count_66 : decode cX12_count 66 = .ok (.iaload, 1) := by decide +kernel
theorem dX12_count_67 : decode cX12_count 67 = .ok (.ireturn, 1) := by decide +kernel
theorem dX12_count_68 : decode cX12_count 68 = .ok (.aload_n 0, 1) := by decide +kernel
theorem dX12_count_69 : decode cX12_count 69 = .ok (.getfield 9, 3) := by decide +kernel
theorem dX12_count_72 : decode cX12_count 72 = .ok (.iconst 4, 1) := by decide +kernel
theorem dX12_count_73 : decode cX12_count 73 = .ok (.iaload, 1) := by decide +kernel
theorem dX12_count_74 : decode cX12_count 74 = .ok (.ireturn, 1) := by decide +kernel
theorem dX12_count_75 : decode cX12_count 75 = .ok (.aload_n 0, 1) := by decide +kernel
theorem dX12_count_76 : decode cX12_count 76 = .ok (.getfield 246, 3) := by decide +kernel
theorem dX12_count_79 : decode cX12_count 79 = .ok (.ireturn, 1) := by decide +kernel
theorem dX12_count_80 : decode cX12_count 80 = .ok (.iconst (-1), 1) := by decide +kernel
theorem dX12_count_81 : decode cX12_count 81 = .ok (.ireturn, 1) := by decide +kernel
theorem dX12_trace_0 : decode cX12_trace 0 = .ok (.iload_n 1, 1) := by decide +kernel
theorem dX12_trace_1 : decode cX12_trace 1 = .ok (.iconst 0, 1) := by decide +kernel
theorem dX12_trace_2 : decode cX12_trace 2 = .ok (.aload_n 0, 1) := by decide +kernel
theorem dX12_trace_3 : decode cX12_trace 3 = .ok (.getfield 246, 3) := by decide +kernel
theorem dX12_trace_6 : decode cX12_trace 6 = .ok (.bipush 20, 2) := by decide +kernel
theorem dX12_trace_8 : decode cX12_trace 8 = .ok (.if_icmp .ge 10, 3) := by decide +kernel
theorem dX12_trace_11 : decode cX12_trace 11 = .ok (.aload_n 0, 1) := by decide +kernel
theorem dX12_trace_12 : decode cX12_trace 12 = .ok (.getfield 246, 3) := by decide +kernel
theorem dX12_trace_15 : decode cX12_trace 15 = .ok (.goto 5, 3) := by decide +kernel
theorem dX12_trace_20 : decode cX12_trace 20 = .ok (.iconst 1, 1) := by decide +kernel
theorem dX12_trace_21 : decode cX12_trace 21 = .ok (.isub, 1) := by decide +kernel
set_option maxRecDepth 20000 in
theorem ggX12_trace_X12_in : GoodIn wsX12_trace wsX12_in := goodIn_r _ [6] (by decide +kernel) (by decide +kernel)
set_option maxRecDepth 20000 in
theorem gX12_trace_X12_in : GoodIn wsX12_trace (va_wsS RX12 45 yX12_in wsX12_in) := goodIn_app (goodIn_of _ (by decide +kernel)) ggX12_trace_X12_in
theorem dX12_trace_22 : decode cX12_trace 22 = .ok (.invokestatic 45, 3) := by decide +kernel
theorem dX12_trace_25 : decode cX12_trace 25 = .ok (.ifCond .eq 12, 3) := by decide +kernel
theorem dX12_trace_37 : decode cX12_trace 37 = .ok (.iconst (-1), 1) := by decide +kernel
theorem dX12_trace_38 : decode cX12_trace 38 = .ok (.ireturn, 1) := by decide +kernel
theorem dX12_seesOf_0 : decode cX12_seesOf 0 = .ok (.iconst 0, 1) := by decide +kernel
theorem dX12_seesOf_1 : decode cX12_seesOf 1 = .ok (.istore_n 2, 1) := by decide +kernel
theorem dX12_seesOf_2 : decode cX12_seesOf 2 = .ok (.iconst 0, 1) := by decide +kernel
theorem dX12_seesOf_3 : decode cX12_seesOf 3 = .ok (.istore_n 3, 1) := by decide +kernel
theorem dX12_seesOf_4 : decode cX12_seesOf 4 = .ok (.iload_n 3, 1) := by decide +kernel
theorem dX12_seesOf_5 : decode cX12_seesOf 5 = .ok (.aload_n 0, 1) := by decide +kernel
theorem dX12_seesOf_6 : decode cX12_seesOf 6 = .ok (.getfield 9, 3) := by decide +kernel
theorem dX12_seesOf_9 : decode cX12_seesOf 9 = .ok (.iconst 0, 1) := by decide +kernel
theorem dX12_seesOf_10 : decode cX12_seesOf 10 = .ok (.iaload, 1) := by decide +kernel
theorem dX12_seesOf_11 : decode cX12_seesOf 11 = .ok (.if_icmp .ge 28, 3) := by decide +kernel
theorem dX12_seesOf_39 : decode cX12_seesOf 39 = .ok (.iload_n 2, 1) := by decide +kernel
theorem dX12_seesOf_40 : decode cX12_seesOf 40 = .ok (.ireturn, 1) := by decide +kernel
theorem dX12_sees_0 : decode cX12_sees 0 = .ok (.iload_n 1, 1) := by decide +kernel
set_option maxRecDepth 20000 in
theorem ggX12_sees_X12_isCell : GoodIn wsX12_sees wsX12_isCell := goodIn_r _ [4, 5, 6, 3, 7] (by decide +kernel) (by decide +kernel)
set_option maxRecDepth 20000 in
theorem gX12_sees_X12_isCell : GoodIn wsX12_sees (va_wsS RX12 149 yX12_isCell wsX12_isCell) := goodIn_app (goodIn_of _ (by decide +kernel)) ggX12_sees_X12_isCell
theorem dX12_sees_1 : decode cX12_sees 1 = .ok (.invokestatic 149, 3) := by decide +kernel
theorem dX12_sees_4 : decode cX12_sees 4 = .ok (.ifCond .eq 11, 3) := by decide +kernel
theorem dX12_sees_7 : decode cX12_sees 7 = .ok (.aload_n 0, 1) := by decide +kernel
theorem dX12_sees_8 : decode cX12_sees 8 = .ok (.iload_n 1, 1) := by decide +kernel
set_option maxRecDepth 20000 in
theorem ggX12_sees_X12_seesOf : GoodIn wsX12_sees wsX12_seesOf := goodIn_r _ [11, 12, 13, 14, 15, 3, 16, 17, 18, 19, 20, 21, 22, 23, 24, 25, 26, 27, 28, 29, 30, 31, 32, 33, 34, 35, 36, 37, 38, 39, 40, 41, 42, 43, 44, 45, 46, 47, 48, 49, 50, 51, 52, 53, 54, 55, 56, 57, 58, 59, 60, 61] (by decide +kernel) (by decide +kernel)
set_option maxRecDepth 20000 in
theorem gX12_sees_X12_seesOf : GoodIn wsX12_sees (wsV RX12 178 RX12 yX12_seesOf wsX12_seesOf) := goodIn_app (goodIn_of _ (by decide +kernel)) ggX12_sees_X12_seesOf
theorem dX12_sees_9 : decode cX12_sees 9 = .ok (.invokevirtual 178, 3) := by decide +kernel
theorem dX12_sees_12 : decode cX12_sees 12 = .ok (.goto 4, 3) := by decide +kernel
theorem dX12_sees_16 : decode cX12_sees 16 = .ok (.ireturn, 1) := by decide +kernel
theorem dX12_sees_15 : decode cX12_sees 15 = .ok (.iconst (-1), 1) := by decide +kernel
theorem dX12_where_0 : decode cX12_where 0 = .ok (.iload_n 1, 1) := by decide +kernel
theorem dX12_where_1 : decode cX12_where 1 = .ok (.ifCond .lt 14, 3) := by decide +kernel
theorem dX12_where_15 : decode cX12_where 15 = .ok (.ldc2_w 181, 3) := by decide +kernel
theorem dX12_where_18 : decode cX12_where 18 = .ok (.lreturn, 1) := by decide +kernel
theorem dX12_where_4 : decode cX12_where 4 = .ok (.iload_n 1, 1) := by decide +kernel
theorem dX12_where_5 : decode cX12_where 5 = .ok (.aload_n 0, 1) := by decide +kernel
theorem dX12_where_6 : decode cX12_where 6 = .ok (.getfield 9, 3) := by decide +kernel
theorem dX12_where_9 : decode cX12_where 9 = .ok (.iconst 0, 1) := by decide +kernel
theorem dX12_where_10 : decode cX12_where 10 = .ok (.iaload, 1) := by decide +kernel
theorem dX12_where_11 : decode cX12_where 11 = .ok (.ishr, 1) := by decide +kernel
theorem dX12_where_12 : decode cX12_where 12 = .ok (.ifCond .eq 7, 3) := by decide +kernel
theorem dX12_where_19 : decode cX12_where 19 = .ok (.lconst 0, 1) := by decide +kernel
theorem dX12_where_20 : decode cX12_where 20 = .ok (.lstore_n 2, 1) := by decide +kernel
theorem dX12_where_21 : decode cX12_where 21 = .ok (.iconst 0, 1) := by decide +kernel
theorem dX12_where_22 : decode cX12_where 22 = .ok (.istore 4, 2) := by decide +kernel
theorem dX12_where_24 : decode cX12_where 24 = .ok (.iload 4, 2) := by decide +kernel
theorem dX12_where_26 : decode cX12_where 26 = .ok (.bipush 36, 2) := by decide +kernel
theorem dX12_where_28 : decode cX12_where 28 = .ok (.if_icmp .ge 30, 3) := by decide +kernel
theorem dX12_where_58 : decode cX12_where 58 = .ok (.lload_n 2, 1) := by decide +kernel
theorem dX12_where_59 : decode cX12_where 59 = .ok (.lreturn, 1) := by decide +kernel
theorem dX12_where_31 : decode cX12_where 31 = .ok (.lload_n 2, 1) := by decide +kernel
theorem dX12_where_32 : decode cX12_where 32 = .ok (.aload_n 0, 1) := by decide +kernel
theorem dX12_where_33 : decode cX12_where 33 = .ok (.iload 4, 2) := by decide +kernel
set_option maxRecDepth 20000 in
theorem ggX12_where_X12_seesOf : GoodIn wsX12_where wsX12_seesOf := goodIn_r _ [7, 1, 8, 9, 10, 6, 11, 12, 13, 14, 15, 16, 17, 18, 19, 20, 21, 22, 23, 24, 25, 26, 27, 28, 29, 30, 31, 32, 33, 34, 35, 36, 37, 38, 39, 40, 41, 42, 43, 44, 45, 46, 47, 48, 49, 50, 51, 52, 53, 54, 55, 56] (by decide +kernel) (by decide +kernel)
set_option maxRecDepth 20000 in
theorem gX12_where_X12_seesOf : GoodIn wsX12_where (wsV RX12 178 RX12 yX12_seesOf wsX12_seesOf) := goodIn_app (goodIn_of _ (by decide +kernel)) ggX12_where_X12_seesOf
theorem dX12_where_35 : decode cX12_where 35 = .ok (.invokevirtual 178, 3) := by decide +kernel
theorem dX12_where_38 : decode cX12_where 38 = .ok (.iload_n 1, 1) := by decide +kernel
theorem dX12_where_39 : decode cX12_where 39 = .ok (.if_icmp .ne 10, 3) := by decide +kernel
theorem dX12_where_42 : decode cX12_where 42 = .ok (.lconst 1, 1) := by decide +kernel
theorem dX12_where_43 : decode cX12_where 43 = .ok (.iload 4, 2) := by decide +kernel
theorem dX12_where_45 : decode cX12_where 45 = .ok (.lshl, 1) := by decide +kernel
theorem dX12_where_46 : decode cX12_where 46 = .ok (.goto 4, 3) := by decide +kernel
theorem dX12_where_50 : decode cX12_where 50 = .ok (.lor, 1) := by decide +kernel
theorem dX12_where_51 : decode cX12_where 51 = .ok (.lstore_n 2, 1) := by decide +kernel
theorem dX12_where_52 : decode cX12_where 52 = .ok (.iinc 4 1, 3) := by decide +kernel
theorem dX12_where_55 : decode cX12_where 55 = .ok (.goto (-31), 3) := by decide +kernel
theorem dX12_walk_0 : decode cX12_walk 0 = .ok (.iload_n 1, 1) := by decide +kernel
theorem dX12_walk_1 : decode cX12_walk 1 = .ok (.iconst (-1), 1) := by decide +kernel
theorem dX12_walk_2 : decode cX12_walk 2 = .ok (.if_icmp .ne 12, 3) := by decide +kernel
theorem dX12_walk_14 : decode cX12_walk 14 = .ok (.iload_n 1, 1) := by decide +kernel
theorem dX12_walk_15 : decode cX12_walk 15 = .ok (.iconst 0, 1) := by decide +kernel
theorem dX12_walk_16 : decode cX12_walk 16 = .ok (.bipush 7, 2) := by decide +kernel
set_option maxRecDepth 20000 in
theorem ggX12_walk_X12_in : GoodIn wsX12_walk wsX12_in := goodIn_r _ [5] (by decide +kernel) (by decide +kernel)
set_option maxRecDepth 20000 in
theorem gX12_walk_X12_in : GoodIn wsX12_walk (va_wsS RX12 45 yX12_in wsX12_in) := goodIn_app (goodIn_of _ (by decide +kernel)) ggX12_walk_X12_in
theorem dX12_walk_18 : decode cX12_walk 18 = .ok (.invokestatic 45, 3) := by decide +kernel
theorem dX12_walk_21 : decode cX12_walk 21 = .ok (.ifCond .ne 5, 3) := by decide +kernel
theorem dX12_walk_26 : decode cX12_walk 26 = .ok (.aload_n 0, 1) := by decide +kernel
theorem dX12_walk_27 : decode cX12_walk 27 = .ok (.getfield 9, 3) := by decide +kernel
theorem dX12_walk_30 : decode cX12_walk 30 = .ok (.iconst 2, 1) := by decide +kernel
theorem dX12_walk_31 : decode cX12_walk 31 = .ok (.iaload, 1) := by decide +kernel
theorem dX12_walk_32 : decode cX12_walk 32 = .ok (.bipush 6, 2) := by decide +kernel
theorem dX12_walk_34 : decode cX12_walk 34 = .ok (.if_icmp .ne 6, 3) := by decide +kernel
theorem dX12_walk_40 : decode cX12_walk 40 = .ok (.aload_n 0, 1) := by decide +kernel
theorem dX12_walk_41 : decode cX12_walk 41 = .ok (.getfield 9, 3) := by decide +kernel
theorem dX12_walk_44 : decode cX12_walk 44 = .ok (.bipush 73, 2) := by decide +kernel
theorem dX12_walk_46 : decode cX12_walk 46 = .ok (.aload_n 0, 1) := by decide +kernel
theorem dX12_walk_47 : decode cX12_walk 47 = .ok (.getfield 9, 3) := by decide +kernel
theorem dX12_walk_50 : decode cX12_walk 50 = .ok (.iconst 2, 1) := by decide +kernel
theorem dX12_walk_51 : decode cX12_walk 51 = .ok (.iaload, 1) := by decide +kernel
theorem dX12_walk_52 : decode cX12_walk 52 = .ok (.iadd, 1) := by decide +kernel
theorem dX12_walk_53 : decode cX12_walk 53 = .ok (.iload_n 1, 1) := by decide +kernel
theorem dX12_walk_54 : decode cX12_walk 54 = .ok (.iastore, 1) := by decide +kernel
theorem dX12_walk_55 : decode cX12_walk 55 = .ok (.aload_n 0, 1) := by decide +kernel
theorem dX12_walk_56 : decode cX12_walk 56 = .ok (.getfield 9, 3) := by decide +kernel
theorem dX12_walk_59 : decode cX12_walk 59 = .ok (.iconst 2, 1) := by decide +kernel
theorem dX12_walk_60 : decode cX12_walk 60 = .ok (.dup2, 1) := by decide +kernel
theorem dX12_walk_61 : decode cX12_walk 61 = .ok (.iaload, 1) := by decide +kernel
theorem dX12_walk_62 : decode cX12_walk 62 = .ok (.iconst 1, 1) := by decide +kernel
theorem dX12_walk_63 : decode cX12_walk 63 = .ok (.iadd, 1) := by decide +kernel
theorem dX12_walk_64 : decode cX12_walk 64 = .ok (.iastore, 1) := by decide +kernel
theorem dX12_walk_65 : decode cX12_walk 65 = .ok (.aload_n 0, 1) := by decide +kernel
theorem dX12_walk_66 : decode cX12_walk 66 = .ok (.getfield 9, 3) := by decide +kernel
theorem dX12_walk_69 : decode cX12_walk 69 = .ok (.iconst 2, 1) := by decide +kernel
theorem dX12_walk_70 : decode cX12_walk 70 = .ok (.iaload, 1) := by decide +kernel
theorem dX12_walk_71 : decode cX12_walk 71 = .ok (.ireturn, 1) := by decide +kernel
theorem dX12_walk_24 : decode cX12_walk 24 = .ok (.iconst (-1), 1) := by decide +kernel
theorem dX12_walk_25 : decode cX12_walk 25 = .ok (.ireturn, 1) := by decide +kernel
theorem dX12_walk_5 : decode cX12_walk 5 = .ok (.aload_n 0, 1) := by decide +kernel
theorem dX12_walk_6 : decode cX12_walk 6 = .ok (.getfield 9, 3) := by decide +kernel
theorem dX12_walk_9 : decode cX12_walk 9 = .ok (.iconst 2, 1) := by decide +kernel
theorem dX12_walk_10 : decode cX12_walk 10 = .ok (.iconst 0, 1) := by decide +kernel
theorem dX12_walk_11 : decode cX12_walk 11 = .ok (.iastore, 1) := by decide +kernel
theorem dX12_walk_12 : decode cX12_walk 12 = .ok (.iconst 0, 1) := by decide +kernel
theorem dX12_walk_13 : decode cX12_walk 13 = .ok (.ireturn, 1) := by decide +kernel
theorem dX12_book_0 : decode cX12_book 0 = .ok (.iload_n 1, 1) := by decide +kernel
theorem dX12_book_1 : decode cX12_book 1 = .ok (.iconst (-1), 1) := by decide +kernel
theorem dX12_book_2 : decode cX12_book 2 = .ok (.if_icmp .ne 12, 3) := by decide +kernel
theorem dX12_book_14 : decode cX12_book 14 = .ok (.aload_n 0, 1) := by decide +kernel
theorem dX12_book_15 : decode cX12_book 15 = .ok (.iload_n 1, 1) := by decide +kernel
set_option maxRecDepth 20000 in
theorem ggX12_book_X12_isHeap : GoodIn wsX12_book wsX12_isHeap := goodIn_r _ [6, 1, 7, 8, 5, 9, 10, 11, 12, 13, 14, 15, 16, 17, 18, 19, 20, 21, 22, 23, 24, 25, 26, 27, 28, 29, 30, 31, 32] (by decide +kernel) (by decide +kernel)
set_option maxRecDepth 20000 in
theorem gX12_book_X12_isHeap : GoodIn wsX12_book (wsV RX12 164 RX12 yX12_isHeap wsX12_isHeap) := goodIn_app (goodIn_of _ (by decide +kernel)) ggX12_book_X12_isHeap
theorem dX12_book_16 : decode cX12_book 16 = .ok (.invokevirtual 164, 3) := by decide +kernel
theorem dX12_book_19 : decode cX12_book 19 = .ok (.ifCond .ne 5, 3) := by decide +kernel
theorem dX12_book_22 : decode cX12_book 22 = .ok (.iconst (-1), 1) := by decide +kernel
theorem dX12_book_23 : decode cX12_book 23 = .ok (.ireturn, 1) := by decide +kernel
theorem dX12_book_5 : decode cX12_book 5 = .ok (.aload_n 0, 1) := by decide +kernel
theorem dX12_book_6 : decode cX12_book 6 = .ok (.getfield 9, 3) := by decide +kernel
theorem dX12_book_9 : decode cX12_book 9 = .ok (.iconst 3, 1) := by decide +kernel
theorem dX12_book_10 : decode cX12_book 10 = .ok (.iconst 0, 1) := by decide +kernel
theorem dX12_book_11 : decode cX12_book 11 = .ok (.iastore, 1) := by decide +kernel
theorem dX12_book_12 : decode cX12_book 12 = .ok (.iconst 0, 1) := by decide +kernel
theorem dX12_book_13 : decode cX12_book 13 = .ok (.ireturn, 1) := by decide +kernel
theorem dX12_act_0 : decode cX12_act 0 = .ok (.aload_n 0, 1) := by decide +kernel
theorem dX12_act_1 : decode cX12_act 1 = .ok (.iconst 0, 1) := by decide +kernel
theorem dX12_act_2 : decode cX12_act 2 = .ok (.putfield 246, 3) := by decide +kernel
theorem dX12_act_5 : decode cX12_act 5 = .ok (.aload_n 0, 1) := by decide +kernel
theorem dX12_act_6 : decode cX12_act 6 = .ok (.iload_n 1, 1) := by decide +kernel
set_option maxRecDepth 20000 in
theorem ggX12_act_X12_isHeap : GoodIn wsX12_act wsX12_isHeap := goodIn_r _ [10, 2, 11, 12, 9, 13, 46, 47, 48, 49, 50, 51, 52, 53, 54, 55, 56, 57, 58, 59, 60, 61, 62, 63, 64, 65, 66, 67, 68] (by decide +kernel) (by decide +kernel)
set_option maxRecDepth 20000 in
theorem gX12_act_X12_isHeap : GoodIn wsX12_act (wsV RX12 164 RX12 yX12_isHeap wsX12_isHeap) := goodIn_app (goodIn_of _ (by decide +kernel)) ggX12_act_X12_isHeap
theorem dX12_act_7 : decode cX12_act 7 = .ok (.invokevirtual 164, 3) := by decide +kernel
theorem dX12_act_10 : decode cX12_act 10 = .ok (.ifCond .eq 12, 3) := by decide +kernel
theorem dX12_act_22 : decode cX12_act 22 = .ok (.iconst 0, 1) := by decide +kernel
theorem dX12_act_23 : decode cX12_act 23 = .ok (.ireturn, 1) := by decide +kernel
theorem dX12_image_0 : decode cX12_image 0 = .ok (.iconst 0, 1) := by decide +kernel
theorem dX12_image_1 : decode cX12_image 1 = .ok (.istore_n 1, 1) := by decide +kernel
theorem dX12_image_2 : decode cX12_image 2 = .ok (.iload_n 1, 1) := by decide +kernel
theorem dX12_image_3 : decode cX12_image 3 = .ok (.sipush 901, 3) := by decide +kernel
theorem dX12_image_6 : decode cX12_image 6 = .ok (.if_icmp .ge 21, 3) := by decide +kernel
theorem dX12_image_27 : decode cX12_image 27 = .ok (.aload_n 0, 1) := by decide +kernel
theorem dX12_image_28 : decode cX12_image 28 = .ok (.iconst 1, 1) := by decide +kernel
theorem dX12_image_29 : decode cX12_image 29 = .ok (.putfield 282, 3) := by decide +kernel
theorem dX12_image_32 : decode cX12_image 32 = .ok (.aload_n 0, 1) := by decide +kernel
theorem dX12_image_33 : decode cX12_image 33 = .ok (.getfield 9, 3) := by decide +kernel
theorem dX12_image_36 : decode cX12_image 36 = .ok (.iconst 0, 1) := by decide +kernel
theorem dX12_image_37 : decode cX12_image 37 = .ok (.iaload, 1) := by decide +kernel
theorem dX12_image_38 : decode cX12_image 38 = .ok (.ireturn, 1) := by decide +kernel
theorem dX12_image_9 : decode cX12_image 9 = .ok (.aload_n 0, 1) := by decide +kernel
theorem dX12_image_10 : decode cX12_image 10 = .ok (.getfield 15, 3) := by decide +kernel
theorem dX12_image_13 : decode cX12_image 13 = .ok (.iload_n 1, 1) := by decide +kernel
theorem dX12_image_14 : decode cX12_image 14 = .ok (.aload_n 0, 1) := by decide +kernel
theorem dX12_image_15 : decode cX12_image 15 = .ok (.getfield 9, 3) := by decide +kernel
theorem dX12_image_18 : decode cX12_image 18 = .ok (.iload_n 1, 1) := by decide +kernel
theorem dX12_image_19 : decode cX12_image 19 = .ok (.iaload, 1) := by decide +kernel
theorem dX12_image_20 : decode cX12_image 20 = .ok (.iastore, 1) := by decide +kernel
theorem dX12_image_21 : decode cX12_image 21 = .ok (.iinc 1 1, 3) := by decide +kernel
theorem dX12_image_24 : decode cX12_image 24 = .ok (.goto (-22), 3) := by decide +kernel
theorem dX12_here_0 : decode cX12_here 0 = .ok (.aload_n 0, 1) := by decide +kernel
theorem dX12_here_1 : decode cX12_here 1 = .ok (.getfield 59, 3) := by decide +kernel
theorem dX12_here_4 : decode cX12_here 4 = .ok (.aload_n 0, 1) := by decide +kernel
theorem dX12_here_5 : decode cX12_here 5 = .ok (.getfield 62, 3) := by decide +kernel
theorem dX12_here_8 : decode cX12_here 8 = .ok (.if_icmp .ge 18, 3) := by decide +kernel
theorem dX12_here_26 : decode cX12_here 26 = .ok (.iconst (-1), 1) := by decide +kernel
theorem dX12_here_27 : decode cX12_here 27 = .ok (.ireturn, 1) := by decide +kernel
theorem s0_ne {k : Nat} (h : k ≠ 5) : s0 k = 0 := by simp [s0, upd, h]
theorem in_of {n : Nat} {c M : Int32} (hM : M.toInt = (n : Int)) (h1 : ¬ c < 0) (h2 : ¬ M < c) : ∃ j : Nat, j ≤ n ∧ c = nI j := nI_of2 hM h1 (Int32.not_lt.mp h2)
def f_set (a n : Int32) : Int32 := if a < 0 then -1 else if 1 < a then -1 else if n < 0 then -2 else if 9 < n then -2 else 0
def f_told (a : Int32) : Int32 := if a = 0 then 0 else if a = 1 then 0 else if a = 2 then 3 else if a = 3 then 0 else -1
def f_heap (k v c : Int32) : Int32 := if k < 0 then -1 else if 6 < k then -1 else if c < 0 then -1 else if 35 < c then -1 else if v < 0 then -2 else if 9 < v then -2 else 0
def f_cell (c : Int32) : Int32 := if c < 0 then -1 else if 35 < c then -1 else 0
def f_where (a : Int32) : Int64 := if a < 0 then -9223372036854775808 else if a = 0 then 68719476735 else -9223372036854775808
def f_edges (x : Int64) : Int32 := if x < 0 then -2 else if x >>> ((36 : Int32).toInt64 &&& 63) = 0 then 0 else -2
def f_walk (x : Int32) : Int32 := if x = -1 then 0 else if x < 0 then -1 else if 7 < x then -1 else 1
def f_book (x : Int32) : Int32 := if x = -1 then 0 else -1
def f_count (a : Int32) : Int32 := if a = 0 then 0 else if a = 1 then 0 else if a = 2 then 0 else if a = 3 then 0 else if a = 4 then 0 else if a = 5 then 0 else -1
theorem wh_step : ∀ i : Nat, i < 36 → lN (2 ^ i - 1) ||| ((1 : Int64) <<< ((nI i).toInt64 &&& 63)) = lN (2 ^ (i + 1) - 1) := by decide +kernel

theorem kc_mSet_0 : ∀ w ∈ wsX120, w ∈ wsX12_set := by decide +kernel
theorem kc_mSet_1 : (.fieldLink RX12 9 "MistHeapsModel" "s" "[I" : Cond) ∈ wsX12_set := by decide +kernel
set_option maxHeartbeats 4000000 in
set_option maxRecDepth 100000 in
theorem c_mSet (l : Launch) (dC : Nat → ClassId) (dI : Nat → Nat → Nat) (m0 aS aI aB aT aG aO aN aD aY : Nat) (cS : ClassId) (a n : Int32) (sz : Nat) : Met l yX12_set wsX12_set ({ frames := 1, cells := 0, slots := 0, locals := 22 } : Room) (va_Pc [.ref m0, .int a, .int n] (fun U => U.heap.size = sz ∧ va_P (dC, dI) vwCl [(m0, .inr (14, [.int 0, .ref aS, .ref aI, .int 0, .int 0, .int 0, .int 0, .int 0, .int 0, .ref aB, .ref aT, .int 0, .int 0, .ref aG, .ref aO, .ref aN, .ref aD, .long 0, .ref aY, .int 0, .int 0, .int 0, .int 0])), (aS, .inl (cS, 901, .inl s0))] U.heap ∧ va_K (dC, dI) vwCl [(cS, .int)] U ∧ va_D (fun _ => True) [(m0, .inr (14, [.int 0, .ref aS, .ref aI, .int 0, .int 0, .int 0, .int 0, .int 0, .int 0, .ref aB, .ref aT, .int 0, .int 0, .ref aG, .ref aO, .ref aN, .ref aD, .long 0, .ref aY, .int 0, .int 0, .int 0, .int 0])), (aS, .inl (cS, 901, .inl s0))])) (va_Qi (fun (r : Int32) (u : Unit) => match u with | () => r = f_set a n) (fun (u : Unit) (t : State) => match u with | () => True) (va_A [(m0, .inr (14, [.int 0, .ref aS, .ref aI, .int 0, .int 0, .int 0, .int 0, .int 0, .int 0, .ref aB, .ref aT, .int 0, .int 0, .ref aG, .ref aO, .ref aN, .ref aD, .long 0, .ref aY, .int 0, .int 0, .int 0, .int 0])), (aS, .inl (cS, 901, .inl s0))] sz)) 0 0 (va_A [(m0, .inr (14, [.int 0, .ref aS, .ref aI, .int 0, .int 0, .int 0, .int 0, .int 0, .int 0, .ref aB, .ref aT, .int 0, .int 0, .ref aG, .ref aO, .ref aN, .ref aD, .long 0, .ref aY, .int 0, .int 0, .int 0, .int 0])), (aS, .inl (cS, 901, .inl s0))] sz) := by
  refine met_ofQ (cc := cX12_set) (maxL := 4) (ret := (some .int)) (by decide) rfl ?_
  intro p e s m args below meth c s₁ Q B hml hv hQ
  obtain ⟨rfl, hsz, hP, hK, hD0⟩ := hv
  have hx := B.exec
  have hb := B.bytes
  have hr := B.returns
  have hts := atoms_spec (ws := wsX12_set) B.pre
  have hown : s.vm.findClass RX12 = some m.cls := findClass_of_methodNamed B.named
  have hlocks := B.notSynchronized
  subst hsz
  have hD := hD0.self (sz := s.heap.size)
  generalize hAe : va_A [(m0, .inr (14, [.int 0, .ref aS, .ref aI, .int 0, .int 0, .int 0, .int 0, .int 0, .int 0, .ref aB, .ref aT, .int 0, .int 0, .ref aG, .ref aO, .ref aN, .ref aD, .long 0, .ref aY, .int 0, .int 0, .int 0, .int 0])), (aS, .inl (cS, 901, .inl s0))] s.heap.size = A at hD hQ ⊢
  have hA : ∀ q : Nat, s.heap.size ≤ q → A q := fun q h => by rw [← hAe]; exact Or.inr h
  have hS : va_S A s.heap s.heap [] := va_S.rf
  have hl := lv_entry [.ref m0, .int a, .int n] (n := 4) (Nat.le_of_ble_eq_true rfl)
  rw [lg_entry_eq]
  generalize (lg_sl [.ref m0, .int a, .int n] ++ List.replicate (4 - (lg_sl [.ref m0, .int a, .int n]).length) Slot.unset).toArray = ls at hl ⊢
  generalize hag : ([.ref m0, .int a, .int n] : List Value).toArray = args at hts hQ ⊢
  have hl : lv_has ls 4 [(0, .ref m0), (1, .int a), (2, .int n)] := hl
  obtain ⟨H, hH⟩ : ∃ H : Heap, H = s.heap := ⟨_, rfl⟩
  rw [← hH] at hP
  rw [← hH]
  have hS : va_S A s.heap H [] := by rw [hH]; exact hS
  obtain ⟨locs, hlo⟩ : ∃ L : List Loc, L = [] := ⟨_, rfl⟩
  rw [← hlo] at hS
  rw [← hlo]
  clear hH hlo
  refine lv_iload_n hx hb dX12_set_0 rfl (lv_at hl 1 rfl) ?_
  refine lv_iconst (v := 0) hx hb dX12_set_1 (by decide) ?_
  refine lv_iconst (v := 1) hx hb dX12_set_2 (by decide) ?_
  refine vp_callSi (va_runS (As := [.int a, .int 0, .int 1]) (rest := []) ⟨hx, hb, hml, hown, hts⟩ (c_in l dC dI a 0 1) (va_cwS 3 hts gX12_set_X12_in rfl rfl rfl (by decide +kernel) ⟨Nat.le_of_ble_eq_true rfl, Nat.le_of_ble_eq_true rfl⟩) ⟨fun a U g mk q => ⟨q.1, trivial⟩, fun U hU hW => ⟨rfl, trivial⟩⟩ rfl rfl hl.1 rfl (lv_room (Nat.le_of_ble_eq_true rfl)) dX12_set_3 ⟨Nat.le_of_ble_eq_true rfl, Nat.le_of_ble_eq_true rfl⟩).run (fun r_1 hw_2 => ?_)
  rcases hw_2 with ⟨rfl, h_3, h_4⟩ | ⟨rfl, h_5⟩
  · skip
    obtain ⟨j_6, hj_7, rfl⟩ := in_of (n := 1) (M := 1) rfl h_3 h_4
    refine lv_if_ne (tgt := 11) hx hb dX12_set_6 (by decide) (fun _ => ?_) (fun c_8 => absurd c_8 (by decide))
    refine lv_iload_n hx hb dX12_set_11 rfl (lv_at hl 2 rfl) ?_
    refine lv_iconst (v := 0) hx hb dX12_set_12 (by decide) ?_
    refine lv_bipush (v := 9) hx hb dX12_set_13 (by decide) ?_
    refine vp_callSi (va_runS (As := [.int n, .int 0, .int 9]) (rest := []) ⟨hx, hb, hml, hown, hts⟩ (c_in l dC dI n 0 9) (va_cwS 3 hts gX12_set_X12_in rfl rfl rfl (by decide +kernel) ⟨Nat.le_of_ble_eq_true rfl, Nat.le_of_ble_eq_true rfl⟩) ⟨fun a U g mk q => ⟨q.1, trivial⟩, fun U hU hW => ⟨rfl, trivial⟩⟩ rfl rfl hl.1 rfl (lv_room (Nat.le_of_ble_eq_true rfl)) dX12_set_15 ⟨Nat.le_of_ble_eq_true rfl, Nat.le_of_ble_eq_true rfl⟩).run (fun r_9 hw_10 => ?_)
    rcases hw_10 with ⟨rfl, h_11, h_12⟩ | ⟨rfl, h_13⟩
    · skip
      refine lv_if_ne (tgt := 24) hx hb dX12_set_18 (by decide) (fun _ => ?_) (fun c_14 => absurd c_14 (by decide))
      refine lv_aload_n hx hb dX12_set_24 rfl (lv_at hl 0 rfl) ?_
      refine va_get (D := (dC, dI)) (ci := 14) (v := .ref aS) (C := RX12) (T := TX12) (N := 23) hx hb hts kc_mSet_0 hown hK hP 0 rfl rfl 1 (by decide) (hts (.fieldLink RX12 9 "MistHeapsModel" "s" "[I") kc_mSet_1) (fun _ h9 => h9) rfl dX12_set_25 ?_
      refine lv_bipush (v := 6) hx hb dX12_set_28 (by decide) ?_
      refine lv_iload_n hx hb dX12_set_30 rfl (lv_at hl 1 rfl) ?_
      refine lv_iadd hx hb dX12_set_31 ?_
      refine qi_as (y := nI (6 + j_6)) (nI_add 6 j_6) ?_
      refine va_iald hx hb hK hP 1 0 rfl rfl (vp_in_nI (n := 6 + j_6) (N := 901) (by omega) (by omega)) dX12_set_32 ?_
      refine qi_as (y := 0) ((show s0 (nI (6 + j_6)).toNatClampNeg = s0 (6 + j_6) from by rw [nI_clamp (by omega)]).trans (s0_ne (by omega))) ?_
      refine lv_istore_n (lv' := [(3, .int 0), (0, .ref m0), (1, .int (nI j_6)), (2, .int n)]) hx hb dX12_set_33 rfl hl (by decide) rfl (fun ls hl => ?_)
      refine lv_aload_n hx hb dX12_set_34 rfl (lv_at hl 1 rfl) ?_
      refine va_get (D := (dC, dI)) (ci := 14) (v := .ref aS) (C := RX12) (T := TX12) (N := 23) hx hb hts kc_mSet_0 hown hK hP 0 rfl rfl 1 (by decide) (hts (.fieldLink RX12 9 "MistHeapsModel" "s" "[I") kc_mSet_1) (fun _ h9 => h9) rfl dX12_set_35 ?_
      refine lv_bipush (v := 6) hx hb dX12_set_38 (by decide) ?_
      refine lv_iload_n hx hb dX12_set_40 rfl (lv_at hl 2 rfl) ?_
      refine lv_iadd hx hb dX12_set_41 ?_
      refine qi_as (y := nI (6 + j_6)) (nI_add 6 j_6) ?_
      refine lv_iload_n hx hb dX12_set_42 rfl (lv_at hl 3 rfl) ?_
      refine va_iast hx hb hK hP hD hS 1 0 rfl rfl (vp_in_nI (n := 6 + j_6) (N := 901) (by omega) (by omega)) dX12_set_43 (fun H locs hP hD hS => ?_)
      rw [nI_clamp (n := 6 + j_6) (by omega)] at hP hD
      have hP : va_P (dC, dI) vwCl [(m0, .inr (14, [.int 0, .ref aS, .ref aI, .int 0, .int 0, .int 0, .int 0, .int 0, .int 0, .ref aB, .ref aT, .int 0, .int 0, .ref aG, .ref aO, .ref aN, .ref aD, .long 0, .ref aY, .int 0, .int 0, .int 0, .int 0])), (aS, .inl (cS, 901, .inl (upd s0 (6 + j_6) n)))] H := hP
      have hD : va_D A [(m0, .inr (14, [.int 0, .ref aS, .ref aI, .int 0, .int 0, .int 0, .int 0, .int 0, .int 0, .ref aB, .ref aT, .int 0, .int 0, .ref aG, .ref aO, .ref aN, .ref aD, .long 0, .ref aY, .int 0, .int 0, .int 0, .int 0])), (aS, .inl (cS, 901, .inl (upd s0 (6 + j_6) n)))] := hD
      refine lv_iload_n hx hb dX12_set_44 rfl (lv_at hl 0 rfl) ?_
      rw [hQ]
      exact W.iret (v := 0) hx hb hr (fun t ht hW => ⟨⟨0, (), rfl, by simp only [f_set]; (repeat' split) <;> simp_all, trivial⟩, hS.F ht⟩) hS.2.2 dX12_set_45
    · skip
      refine lv_if_ne (tgt := 24) hx hb dX12_set_18 (by decide) (fun c_15 => absurd c_15 (by decide)) (fun _ => ?_)
      refine lv_bipush (v := (-2)) hx hb dX12_set_21 (by decide) ?_
      rw [hQ]
      exact W.iret (v := (-2)) hx hb hr (fun t ht hW => ⟨⟨(-2), (), rfl, by simp only [f_set]; (repeat' split) <;> simp_all, trivial⟩, hS.F ht⟩) hS.2.2 dX12_set_23
  · skip
    refine lv_if_ne (tgt := 11) hx hb dX12_set_6 (by decide) (fun c_16 => absurd c_16 (by decide)) (fun _ => ?_)
    refine lv_iconst (v := (-1)) hx hb dX12_set_9 (by decide) ?_
    rw [hQ]
    exact W.iret (v := (-1)) hx hb hr (fun t ht hW => ⟨⟨(-1), (), rfl, by simp only [f_set]; (repeat' split) <;> simp_all, trivial⟩, hS.F ht⟩) hS.2.2 dX12_set_10

theorem kc_mSight0_0 : ∀ w ∈ wsX120, w ∈ wsX12_sight := by decide +kernel
theorem kc_mSight0_1 : (.fieldLink RX12 9 "MistHeapsModel" "s" "[I" : Cond) ∈ wsX12_sight := by decide +kernel
set_option maxHeartbeats 4000000 in
set_option maxRecDepth 100000 in
theorem c_mSight0 (l : Launch) (dC : Nat → ClassId) (dI : Nat → Nat → Nat) (m0 aS aI aB aT aG aO aN aD aY : Nat) (cS : ClassId) : Met l yX12_sight wsX12_sight ({ frames := 0, cells := 0, slots := 0, locals := 0 } : Room) (va_Pc [.ref m0] (fun U => va_P (dC, dI) vwCl [(m0, .inr (14, [.int 0, .ref aS, .ref aI, .int 0, .int 0, .int 0, .int 0, .int 0, .int 0, .ref aB, .ref aT, .int 0, .int 0, .ref aG, .ref aO, .ref aN, .ref aD, .long 0, .ref aY, .int 0, .int 0, .int 0, .int 0])), (aS, .inl (cS, 901, .inl s0))] U.heap ∧ va_K (dC, dI) vwCl [(cS, .int)] U)) (vp_Si (fun r => r = 3)) 0 0 (fun _ => False) := by
  refine met_ofQ (cc := cX12_sight) (maxL := 1) (ret := (some .int)) (by decide) rfl ?_
  intro p e s m args below meth c s₁ Q B hml hv hQ
  obtain ⟨rfl, hP, hK⟩ := hv
  have hx := B.exec
  have hb := B.bytes
  have hr := B.returns
  have hts := atoms_spec (ws := wsX12_sight) B.pre
  have hown : s.vm.findClass RX12 = some m.cls := findClass_of_methodNamed B.named
  have hlocks := B.notSynchronized
  obtain ⟨A, hAe⟩ : ∃ A : Nat → Prop, A = fun _ => False := ⟨_, rfl⟩
  rw [← hAe] at hQ
  have hS : va_S A s.heap s.heap [] := va_S.rf
  have hl := lv_entry [.ref m0] (n := 1) (Nat.le_of_ble_eq_true rfl)
  rw [lg_entry_eq]
  generalize (lg_sl [.ref m0] ++ List.replicate (1 - (lg_sl [.ref m0]).length) Slot.unset).toArray = ls at hl ⊢
  generalize hag : ([.ref m0] : List Value).toArray = args at hts hQ ⊢
  have hl : lv_has ls 1 [(0, .ref m0)] := hl
  refine lv_aload_n hx hb dX12_sight_0 rfl (lv_at hl 0 rfl) ?_
  refine va_get (D := (dC, dI)) (ci := 14) (v := .ref aS) (C := RX12) (T := TX12) (N := 23) hx hb hts kc_mSight0_0 hown hK hP 0 rfl rfl 1 (by decide) (hts (.fieldLink RX12 9 "MistHeapsModel" "s" "[I") kc_mSight0_1) (fun _ h9 => h9) rfl dX12_sight_1 ?_
  refine lv_iconst (v := 5) hx hb dX12_sight_4 (by decide) ?_
  refine va_iald hx hb hK hP 1 0 rfl rfl (vp_in_nI (n := 5) (N := 901) (by omega) (by omega)) dX12_sight_5 ?_
  refine qi_as (y := (-1)) (rfl) ?_
  refine lv_iconst (v := (-1)) hx hb dX12_sight_6 (by decide) ?_
  refine lv_icmp_ne (tgt := 14) hx hb dX12_sight_7 (by decide) (fun c_1 => absurd c_1 (by decide)) (fun _ => ?_)
  refine lv_iconst (v := 3) hx hb dX12_sight_10 (by decide) ?_
  refine lv_goto (tgt := 29) hx hb dX12_sight_11 (by decide) ?_
  rw [hQ]
  exact W.iret (v := 3) hx hb hr (fun t ht hW => ⟨3, rfl, rfl, by rw [ht]⟩) (fun q hq => absurd hq List.not_mem_nil) dX12_sight_29

theorem kc_mEdgesMany0_0 : ∀ w ∈ wsX120, w ∈ wsX12_edgesMany := by decide +kernel
theorem kc_mEdgesMany0_1 : (.fieldLink RX12 9 "MistHeapsModel" "s" "[I" : Cond) ∈ wsX12_edgesMany := by decide +kernel
set_option maxHeartbeats 4000000 in
set_option maxRecDepth 100000 in
theorem c_mEdgesMany0 (l : Launch) (dC : Nat → ClassId) (dI : Nat → Nat → Nat) (m0 aS aI aB aT aG aO aN aD aY : Nat) (cS : ClassId) : Met l yX12_edgesMany wsX12_edgesMany ({ frames := 0, cells := 0, slots := 0, locals := 0 } : Room) (va_Pc [.ref m0] (fun U => va_P (dC, dI) vwCl [(m0, .inr (14, [.int 0, .ref aS, .ref aI, .int 0, .int 0, .int 0, .int 0, .int 0, .int 0, .ref aB, .ref aT, .int 0, .int 0, .ref aG, .ref aO, .ref aN, .ref aD, .long 0, .ref aY, .int 0, .int 0, .int 0, .int 0])), (aS, .inl (cS, 901, .inl s0))] U.heap ∧ va_K (dC, dI) vwCl [(cS, .int)] U)) (vp_Si (fun r => r = 0)) 0 0 (fun _ => False) := by
  refine met_ofQ (cc := cX12_edgesMany) (maxL := 3) (ret := (some .int)) (by decide) rfl ?_
  intro p e s m args below meth c s₁ Q B hml hv hQ
  obtain ⟨rfl, hP, hK⟩ := hv
  have hx := B.exec
  have hb := B.bytes
  have hr := B.returns
  have hts := atoms_spec (ws := wsX12_edgesMany) B.pre
  have hown : s.vm.findClass RX12 = some m.cls := findClass_of_methodNamed B.named
  have hlocks := B.notSynchronized
  obtain ⟨A, hAe⟩ : ∃ A : Nat → Prop, A = fun _ => False := ⟨_, rfl⟩
  rw [← hAe] at hQ
  have hS : va_S A s.heap s.heap [] := va_S.rf
  have hl := lv_entry [.ref m0] (n := 3) (Nat.le_of_ble_eq_true rfl)
  rw [lg_entry_eq]
  generalize (lg_sl [.ref m0] ++ List.replicate (3 - (lg_sl [.ref m0]).length) Slot.unset).toArray = ls at hl ⊢
  generalize hag : ([.ref m0] : List Value).toArray = args at hts hQ ⊢
  have hl : lv_has ls 3 [(0, .ref m0)] := hl
  refine lv_iconst (v := 0) hx hb dX12_edgesMany_0 (by decide) ?_
  refine lv_istore_n (lv' := [(1, .int 0), (0, .ref m0)]) hx hb dX12_edgesMany_1 rfl hl (by decide) rfl (fun ls hl => ?_)
  refine lv_iconst (v := 0) hx hb dX12_edgesMany_2 (by decide) ?_
  refine lv_istore_n (lv' := [(2, .int 0), (1, .int 0), (0, .ref m0)]) hx hb dX12_edgesMany_3 rfl hl (by decide) rfl (fun ls hl => ?_)
  have L4 : ∀ (n : Nat) (i : Nat), 36 - i < n → i ≤ 36 → ∀ (ls : Array Slot), lv_has ls 3 [(0, .ref m0), (1, .int 0), (2, .int (nI i))] → W p l e ({ frames := 0, cells := 0, slots := 0, locals := 0 } : Room) s m args below meth c s.heap [] 0 0 Q (F0 m 4 ls []) := by
    intro n
    induction n with
    | zero => intro i hm; exact absurd hm (Nat.not_lt_zero _)
    | succ n ih4 =>
      intro i hm hi ls hl
      refine lv_iload_n hx hb dX12_edgesMany_4 rfl (lv_at hl 2 rfl) ?_
      refine lv_bipush (v := 36) hx hb dX12_edgesMany_5 (by decide) ?_
      refine lv_icmp_ge (tgt := 28) hx hb dX12_edgesMany_7 (by decide) (fun c_1 => ?_) (fun c_1 => ?_)
      · skip
        have c_1 : 36 ≤ i := (nI_leI (a := 36) (b := i) (by omega) (by omega)).mp c_1
        refine lv_iload_n hx hb dX12_edgesMany_28 rfl (lv_at hl 1 rfl) ?_
        rw [hQ]
        exact W.iret (v := 0) hx hb hr (fun t ht hW => ⟨0, rfl, rfl, by rw [ht]⟩) (fun q hq => absurd hq List.not_mem_nil) dX12_edgesMany_29
      · skip
        have c_1 : ¬ 36 ≤ i := fun q => c_1 ((nI_leI (a := 36) (b := i) (by omega) (by omega)).mpr q)
        refine lv_iload_n hx hb dX12_edgesMany_10 rfl (lv_at hl 1 rfl) ?_
        refine lv_aload_n hx hb dX12_edgesMany_11 rfl (lv_at hl 0 rfl) ?_
        refine va_get (D := (dC, dI)) (ci := 14) (v := .ref aS) (C := RX12) (T := TX12) (N := 23) hx hb hts kc_mEdgesMany0_0 hown hK hP 0 rfl rfl 1 (by decide) (hts (.fieldLink RX12 9 "MistHeapsModel" "s" "[I") kc_mEdgesMany0_1) (fun _ h9 => h9) rfl dX12_edgesMany_12 ?_
        refine lv_bipush (v := 37) hx hb dX12_edgesMany_15 (by decide) ?_
        refine lv_iload_n hx hb dX12_edgesMany_17 rfl (lv_at hl 2 rfl) ?_
        refine lv_iadd hx hb dX12_edgesMany_18 ?_
        refine qi_as (y := nI (37 + i)) (nI_add 37 i) ?_
        refine va_iald hx hb hK hP 1 0 rfl rfl (vp_in_nI (n := 37 + i) (N := 901) (by omega) (by omega)) dX12_edgesMany_19 ?_
        refine qi_as (y := 0) ((show s0 (nI (37 + i)).toNatClampNeg = s0 (37 + i) from by rw [nI_clamp (by omega)]).trans (s0_ne (by omega))) ?_
        refine lv_iadd hx hb dX12_edgesMany_20 ?_
        refine qi_as (y := 0) (by decide) ?_
        refine lv_istore_n (lv' := [(1, .int 0), (0, .ref m0), (2, .int (nI i))]) hx hb dX12_edgesMany_21 rfl hl (by decide) rfl (fun ls hl => ?_)
        refine lv_iinc (v := nI (i + 1)) (lv' := [(2, .int (nI (i + 1))), (1, .int 0), (0, .ref m0)]) hx hb dX12_edgesMany_22 hl (k := 2) rfl (nI_add i 1) (by decide) rfl (fun ls hl => ?_)
        refine lv_goto (tgt := 4) hx hb dX12_edgesMany_25 (by decide) ?_
        exact ih4 _ (by omega) (by omega) ls (lv_sub hl [2, 1, 0] rfl)
  exact L4 _ (0) (Nat.lt_succ_self _) (by omega) ls (lv_sub hl [2, 1, 0] rfl)

theorem kc_mTold_0 : ∀ w ∈ wsX120, w ∈ wsX12_told := by decide +kernel
theorem kc_mTold_1 : (.fieldLink RX12 9 "MistHeapsModel" "s" "[I" : Cond) ∈ wsX12_told := by decide +kernel
set_option maxHeartbeats 4000000 in
set_option maxRecDepth 100000 in
theorem c_mTold (l : Launch) (dC : Nat → ClassId) (dI : Nat → Nat → Nat) (m0 aS aI aB aT aG aO aN aD aY : Nat) (cS : ClassId) (a : Int32) : Met l yX12_told wsX12_told ({ frames := 1, cells := 0, slots := 0, locals := 22 } : Room) (va_Pc [.ref m0, .int a] (fun U => va_P (dC, dI) vwCl [(m0, .inr (14, [.int 0, .ref aS, .ref aI, .int 0, .int 0, .int 0, .int 0, .int 0, .int 0, .ref aB, .ref aT, .int 0, .int 0, .ref aG, .ref aO, .ref aN, .ref aD, .long 0, .ref aY, .int 0, .int 0, .int 0, .int 0])), (aS, .inl (cS, 901, .inl s0))] U.heap ∧ va_K (dC, dI) vwCl [(cS, .int)] U)) (vp_Si (fun r => r = f_told a)) 0 0 (fun _ => False) := by
  refine met_ofQ (cc := cX12_told) (maxL := 2) (ret := (some .int)) (by decide) rfl ?_
  intro p e s m args below meth c s₁ Q B hml hv hQ
  obtain ⟨rfl, hP, hK⟩ := hv
  have hx := B.exec
  have hb := B.bytes
  have hr := B.returns
  have hts := atoms_spec (ws := wsX12_told) B.pre
  have hown : s.vm.findClass RX12 = some m.cls := findClass_of_methodNamed B.named
  have hlocks := B.notSynchronized
  obtain ⟨A, hAe⟩ : ∃ A : Nat → Prop, A = fun _ => False := ⟨_, rfl⟩
  rw [← hAe] at hQ
  have hS : va_S A s.heap s.heap [] := va_S.rf
  have hl := lv_entry [.ref m0, .int a] (n := 2) (Nat.le_of_ble_eq_true rfl)
  rw [lg_entry_eq]
  generalize (lg_sl [.ref m0, .int a] ++ List.replicate (2 - (lg_sl [.ref m0, .int a]).length) Slot.unset).toArray = ls at hl ⊢
  generalize hag : ([.ref m0, .int a] : List Value).toArray = args at hts hQ ⊢
  have hl : lv_has ls 2 [(0, .ref m0), (1, .int a)] := hl
  refine lv_iload_n hx hb dX12_told_0 rfl (lv_at hl 1 rfl) ?_
  by_cases c_1_0 : a = 0
  · skip
    refine lv_tableIn (tgt := 32) hx hb dX12_told_1 (by rw [c_1_0]; decide) (by rw [c_1_0]; decide) (by rw [c_1_0]; rfl) (by decide) ?_
    refine lv_aload_n hx hb dX12_told_32 rfl (lv_at hl 0 rfl) ?_
    refine va_get (D := (dC, dI)) (ci := 14) (v := .ref aS) (C := RX12) (T := TX12) (N := 23) hx hb hts kc_mTold_0 hown hK hP 0 rfl rfl 1 (by decide) (hts (.fieldLink RX12 9 "MistHeapsModel" "s" "[I") kc_mTold_1) (fun _ h9 => h9) rfl dX12_told_33 ?_
    refine lv_bipush (v := 6) hx hb dX12_told_36 (by decide) ?_
    refine va_iald hx hb hK hP 1 0 rfl rfl (vp_in_nI (n := 6) (N := 901) (by omega) (by omega)) dX12_told_38 ?_
    refine qi_as (y := 0) (rfl) ?_
    rw [hQ]
    exact W.iret (v := 0) hx hb hr (fun t ht hW => ⟨0, rfl, by simp only [f_told]; (repeat' split) <;> simp_all, by rw [ht]⟩) (fun q hq => absurd hq List.not_mem_nil) dX12_told_39
  by_cases c_1_1 : a = 1
  · skip
    refine lv_tableIn (tgt := 40) hx hb dX12_told_1 (by rw [c_1_1]; decide) (by rw [c_1_1]; decide) (by rw [c_1_1]; rfl) (by decide) ?_
    refine lv_aload_n hx hb dX12_told_40 rfl (lv_at hl 0 rfl) ?_
    refine va_get (D := (dC, dI)) (ci := 14) (v := .ref aS) (C := RX12) (T := TX12) (N := 23) hx hb hts kc_mTold_0 hown hK hP 0 rfl rfl 1 (by decide) (hts (.fieldLink RX12 9 "MistHeapsModel" "s" "[I") kc_mTold_1) (fun _ h9 => h9) rfl dX12_told_41 ?_
    refine lv_bipush (v := 7) hx hb dX12_told_44 (by decide) ?_
    refine va_iald hx hb hK hP 1 0 rfl rfl (vp_in_nI (n := 7) (N := 901) (by omega) (by omega)) dX12_told_46 ?_
    refine qi_as (y := 0) (rfl) ?_
    rw [hQ]
    exact W.iret (v := 0) hx hb hr (fun t ht hW => ⟨0, rfl, by simp only [f_told]; (repeat' split) <;> simp_all, by rw [ht]⟩) (fun q hq => absurd hq List.not_mem_nil) dX12_told_47
  by_cases c_1_2 : a = 2
  · skip
    refine lv_tableIn (tgt := 48) hx hb dX12_told_1 (by rw [c_1_2]; decide) (by rw [c_1_2]; decide) (by rw [c_1_2]; rfl) (by decide) ?_
    refine lv_aload_n hx hb dX12_told_48 rfl (lv_at hl 0 rfl) ?_
    have hPc := hP.sub (ws' := [(m0, .inr (14, [.int 0, .ref aS, .ref aI, .int 0, .int 0, .int 0, .int 0, .int 0, .int 0, .ref aB, .ref aT, .int 0, .int 0, .ref aG, .ref aO, .ref aN, .ref aD, .long 0, .ref aY, .int 0, .int 0, .int 0, .int 0])), (aS, .inl (cS, 901, .inl s0))]) [0, 1] rfl
    have hKc := hK.sub (tys' := [(cS, .int)]) [0] rfl
    refine vp_callSi (va_runV (As := []) (rest := []) ⟨hx, hb, hml, hown, hts⟩ (c_mSight0 l dC dI m0 aS aI aB aT aG aO aN aD aY cS) (cwV 0 hts gX12_told_X12_sight rfl rfl rfl (by decide +kernel) ⟨Nat.le_of_ble_eq_true rfl, Nat.le_of_ble_eq_true rfl⟩) ⟨fun a U g mk q => by obtain ⟨q0, qP, qK⟩ := q; exact ⟨q0, qP, va_K.moved (u := U) (U := U.calling g mk a) (Vm.Alike.refl U.vm) qK⟩, va_recv hK hP (ci := 14) (q0 := 0) rfl rfl, fun U hU hW => ⟨rfl, by rw [hU]; exact hPc, va_K.moved hW.alike hKc⟩⟩ rfl rfl hl.1 rfl (lv_room (Nat.le_of_ble_eq_true rfl)) dX12_told_49 ⟨Nat.le_of_ble_eq_true rfl, Nat.le_of_ble_eq_true rfl⟩).run (fun r_2 hw_3 => ?_)
    refine qi_as (y := 3) (hw_3) ?_
    rw [hQ]
    exact W.iret (v := 3) hx hb hr (fun t ht hW => ⟨3, rfl, by simp only [f_told]; (repeat' split) <;> simp_all, by rw [ht]⟩) (fun q hq => absurd hq List.not_mem_nil) dX12_told_52
  by_cases c_1_3 : a = 3
  · skip
    refine lv_tableIn (tgt := 53) hx hb dX12_told_1 (by rw [c_1_3]; decide) (by rw [c_1_3]; decide) (by rw [c_1_3]; rfl) (by decide) ?_
    refine lv_aload_n hx hb dX12_told_53 rfl (lv_at hl 0 rfl) ?_
    have hPc := hP.sub (ws' := [(m0, .inr (14, [.int 0, .ref aS, .ref aI, .int 0, .int 0, .int 0, .int 0, .int 0, .int 0, .ref aB, .ref aT, .int 0, .int 0, .ref aG, .ref aO, .ref aN, .ref aD, .long 0, .ref aY, .int 0, .int 0, .int 0, .int 0])), (aS, .inl (cS, 901, .inl s0))]) [0, 1] rfl
    have hKc := hK.sub (tys' := [(cS, .int)]) [0] rfl
    refine vp_callSi (va_runV (As := []) (rest := []) ⟨hx, hb, hml, hown, hts⟩ (c_mEdgesMany0 l dC dI m0 aS aI aB aT aG aO aN aD aY cS) (cwV 0 hts gX12_told_X12_edgesMany rfl rfl rfl (by decide +kernel) ⟨Nat.le_of_ble_eq_true rfl, Nat.le_of_ble_eq_true rfl⟩) ⟨fun a U g mk q => by obtain ⟨q0, qP, qK⟩ := q; exact ⟨q0, qP, va_K.moved (u := U) (U := U.calling g mk a) (Vm.Alike.refl U.vm) qK⟩, va_recv hK hP (ci := 14) (q0 := 0) rfl rfl, fun U hU hW => ⟨rfl, by rw [hU]; exact hPc, va_K.moved hW.alike hKc⟩⟩ rfl rfl hl.1 rfl (lv_room (Nat.le_of_ble_eq_true rfl)) dX12_told_54 ⟨Nat.le_of_ble_eq_true rfl, Nat.le_of_ble_eq_true rfl⟩).run (fun r_4 hw_5 => ?_)
    refine qi_as (y := 0) (hw_5) ?_
    rw [hQ]
    exact W.iret (v := 0) hx hb hr (fun t ht hW => ⟨0, rfl, by simp only [f_told]; (repeat' split) <;> simp_all, by rw [ht]⟩) (fun q hq => absurd hq List.not_mem_nil) dX12_told_57
  refine lv_tableOut (tgt := 58) hx hb dX12_told_1 (sw_out 0 3 a (fun k hk => by
    match k, hk with
    | 0, _ => exact c_1_0
    | 1, _ => exact c_1_1
    | 2, _ => exact c_1_2
    | 3, _ => exact c_1_3
    | k + 4, hk => exact absurd hk (by omega))) (by decide) ?_
  refine lv_iconst (v := (-1)) hx hb dX12_told_58 (by decide) ?_
  rw [hQ]
  exact W.iret (v := (-1)) hx hb hr (fun t ht hW => ⟨(-1), rfl, by simp only [f_told]; (repeat' split) <;> simp_all, by rw [ht]⟩) (fun q hq => absurd hq List.not_mem_nil) dX12_told_59

theorem kc_mEdges_0 : ∀ w ∈ wsX120, w ∈ wsX12_edges := by decide +kernel
theorem kc_mEdges_1 : (.fieldLink RX12 9 "MistHeapsModel" "s" "[I" : Cond) ∈ wsX12_edges := by decide +kernel
set_option maxHeartbeats 4000000 in
set_option maxRecDepth 100000 in
theorem c_mEdges (l : Launch) (dC : Nat → ClassId) (dI : Nat → Nat → Nat) (m0 aS aI aB aT aG aO aN aD aY : Nat) (cS : ClassId) (x : Int64) (sz : Nat) : Met l yX12_edges wsX12_edges ({ frames := 1, cells := 0, slots := 0, locals := 22 } : Room) (va_Pc [.ref m0, .long x] (fun U => U.heap.size = sz ∧ va_P (dC, dI) vwCl [(m0, .inr (14, [.int 0, .ref aS, .ref aI, .int 0, .int 0, .int 0, .int 0, .int 0, .int 0, .ref aB, .ref aT, .int 0, .int 0, .ref aG, .ref aO, .ref aN, .ref aD, .long 0, .ref aY, .int 0, .int 0, .int 0, .int 0])), (aS, .inl (cS, 901, .inl s0))] U.heap ∧ va_K (dC, dI) vwCl [(cS, .int)] U ∧ va_D (fun _ => True) [(m0, .inr (14, [.int 0, .ref aS, .ref aI, .int 0, .int 0, .int 0, .int 0, .int 0, .int 0, .ref aB, .ref aT, .int 0, .int 0, .ref aG, .ref aO, .ref aN, .ref aD, .long 0, .ref aY, .int 0, .int 0, .int 0, .int 0])), (aS, .inl (cS, 901, .inl s0))])) (va_Qi (fun (r : Int32) (u : Unit) => match u with | () => r = f_edges x) (fun (u : Unit) (t : State) => match u with | () => True) (va_A [(m0, .inr (14, [.int 0, .ref aS, .ref aI, .int 0, .int 0, .int 0, .int 0, .int 0, .int 0, .ref aB, .ref aT, .int 0, .int 0, .ref aG, .ref aO, .ref aN, .ref aD, .long 0, .ref aY, .int 0, .int 0, .int 0, .int 0])), (aS, .inl (cS, 901, .inl s0))] sz)) 0 0 (va_A [(m0, .inr (14, [.int 0, .ref aS, .ref aI, .int 0, .int 0, .int 0, .int 0, .int 0, .int 0, .ref aB, .ref aT, .int 0, .int 0, .ref aG, .ref aO, .ref aN, .ref aD, .long 0, .ref aY, .int 0, .int 0, .int 0, .int 0])), (aS, .inl (cS, 901, .inl s0))] sz) := by
  refine met_ofQ (cc := cX12_edges) (maxL := 5) (ret := (some .int)) (by decide) rfl ?_
  intro p e s m args below meth c s₁ Q B hml hv hQ
  obtain ⟨rfl, hsz, hP, hK, hD0⟩ := hv
  have hx := B.exec
  have hb := B.bytes
  have hr := B.returns
  have hts := atoms_spec (ws := wsX12_edges) B.pre
  have hown : s.vm.findClass RX12 = some m.cls := findClass_of_methodNamed B.named
  have hlocks := B.notSynchronized
  subst hsz
  have hD := hD0.self (sz := s.heap.size)
  generalize hAe : va_A [(m0, .inr (14, [.int 0, .ref aS, .ref aI, .int 0, .int 0, .int 0, .int 0, .int 0, .int 0, .ref aB, .ref aT, .int 0, .int 0, .ref aG, .ref aO, .ref aN, .ref aD, .long 0, .ref aY, .int 0, .int 0, .int 0, .int 0])), (aS, .inl (cS, 901, .inl s0))] s.heap.size = A at hD hQ ⊢
  have hA : ∀ q : Nat, s.heap.size ≤ q → A q := fun q h => by rw [← hAe]; exact Or.inr h
  have hS : va_S A s.heap s.heap [] := va_S.rf
  have hl := lv_entry [.ref m0, .long x] (n := 5) (Nat.le_of_ble_eq_true rfl)
  rw [lg_entry_eq]
  generalize (lg_sl [.ref m0, .long x] ++ List.replicate (5 - (lg_sl [.ref m0, .long x]).length) Slot.unset).toArray = ls at hl ⊢
  generalize hag : ([.ref m0, .long x] : List Value).toArray = args at hts hQ ⊢
  have hl : lv_has ls 5 [(0, .ref m0), (1, .long x)] := hl
  obtain ⟨H, hH⟩ : ∃ H : Heap, H = s.heap := ⟨_, rfl⟩
  rw [← hH] at hP
  rw [← hH]
  have hS : va_S A s.heap H [] := by rw [hH]; exact hS
  obtain ⟨locs, hlo⟩ : ∃ L : List Loc, L = [] := ⟨_, rfl⟩
  rw [← hlo] at hS
  rw [← hlo]
  clear hH hlo
  refine lv_lload_n hx hb dX12_edges_0 rfl (lv_at hl 1 rfl) ?_
  refine lv_lconst (v := 0) hx hb dX12_edges_1 (by decide) ?_
  refine W.lcmp hx hb dX12_edges_2 ?_
  refine lv_if_lt (tgt := 15) hx hb dX12_edges_3 (by decide) (fun c_1 => ?_) (fun c_1 => ?_)
  · skip
    rw [lg_cmp_lt] at c_1
    refine lv_bipush (v := (-2)) hx hb dX12_edges_15 (by decide) ?_
    rw [hQ]
    exact W.iret (v := (-2)) hx hb hr (fun t ht hW => ⟨⟨(-2), (), rfl, by simp only [f_edges]; (repeat' split) <;> simp_all, trivial⟩, hS.F ht⟩) hS.2.2 dX12_edges_17
  · skip
    rw [lg_cmp_lt] at c_1
    refine lv_lload_n hx hb dX12_edges_6 rfl (lv_at hl 1 rfl) ?_
    refine lv_bipush (v := 36) hx hb dX12_edges_7 (by decide) ?_
    refine lv_lshr (v := x >>> (36.toInt64 &&& 63)) hx hb dX12_edges_9 (rfl) ?_
    refine lv_lconst (v := 0) hx hb dX12_edges_10 (by decide) ?_
    refine W.lcmp hx hb dX12_edges_11 ?_
    refine lv_if_eq (tgt := 18) hx hb dX12_edges_12 (by decide) (fun c_2 => ?_) (fun c_2 => ?_)
    · skip
      rw [lg_cmp_eq] at c_2
      refine lv_aload_n hx hb dX12_edges_18 rfl (lv_at hl 0 rfl) ?_
      have hPc := hP.sub (ws' := [(m0, .inr (14, [.int 0, .ref aS, .ref aI, .int 0, .int 0, .int 0, .int 0, .int 0, .int 0, .ref aB, .ref aT, .int 0, .int 0, .ref aG, .ref aO, .ref aN, .ref aD, .long 0, .ref aY, .int 0, .int 0, .int 0, .int 0])), (aS, .inl (cS, 901, .inl s0))]) [0, 1] rfl
      have hKc := hK.sub (tys' := [(cS, .int)]) [0] rfl
      refine vp_callSi (va_runV (As := []) (rest := []) ⟨hx, hb, hml, hown, hts⟩ (c_mEdgesMany0 l dC dI m0 aS aI aB aT aG aO aN aD aY cS) (cwV 0 hts gX12_edges_X12_edgesMany rfl rfl rfl (by decide +kernel) ⟨Nat.le_of_ble_eq_true rfl, Nat.le_of_ble_eq_true rfl⟩) ⟨fun a U g mk q => by obtain ⟨q0, qP, qK⟩ := q; exact ⟨q0, qP, va_K.moved (u := U) (U := U.calling g mk a) (Vm.Alike.refl U.vm) qK⟩, va_recv hK hP (ci := 14) (q0 := 0) rfl rfl, fun U hU hW => ⟨rfl, by rw [hU]; exact hPc, va_K.moved hW.alike hKc⟩⟩ rfl rfl hl.1 rfl (lv_room (Nat.le_of_ble_eq_true rfl)) dX12_edges_19 ⟨Nat.le_of_ble_eq_true rfl, Nat.le_of_ble_eq_true rfl⟩).run (fun r_3 hw_4 => ?_)
      refine qi_as (y := 0) (hw_4) ?_
      refine lv_istore_n (lv' := [(3, .int 0), (0, .ref m0), (1, .long x)]) hx hb dX12_edges_22 rfl hl (by decide) rfl (fun ls hl => ?_)
      refine lv_iconst (v := 0) hx hb dX12_edges_23 (by decide) ?_
      refine lv_istore (lv' := [(4, .int 0), (3, .int 0), (0, .ref m0), (1, .long x)]) hx hb dX12_edges_24 hl (by decide) rfl (fun ls hl => ?_)
      have L26 : ∀ (n : Nat) (i : Nat) (f : Nat → Int32), 36 - i < n → i ≤ 36 → ∀ (H : Heap) (locs : List Loc), va_K (dC, dI) vwCl [(cS, .int)] s → va_P (dC, dI) vwCl [(m0, .inr (14, [.int 0, .ref aS, .ref aI, .int 0, .int 0, .int 0, .int 0, .int 0, .int 0, .ref aB, .ref aT, .int 0, .int 0, .ref aG, .ref aO, .ref aN, .ref aD, .long 0, .ref aY, .int 0, .int 0, .int 0, .int 0])), (aS, .inl (cS, 901, .inl f))] H → va_D A [(m0, .inr (14, [.int 0, .ref aS, .ref aI, .int 0, .int 0, .int 0, .int 0, .int 0, .int 0, .ref aB, .ref aT, .int 0, .int 0, .ref aG, .ref aO, .ref aN, .ref aD, .long 0, .ref aY, .int 0, .int 0, .int 0, .int 0])), (aS, .inl (cS, 901, .inl f))] → va_S A s.heap H locs → ∀ (ls : Array Slot), lv_has ls 5 [(0, .ref m0), (1, .long x), (3, .int 0), (4, .int (nI i))] → W p l e ({ frames := 1, cells := 0, slots := 0, locals := 22 } : Room) s m args below meth c H locs 0 0 Q (F0 m 26 ls []) := by
        intro n
        induction n with
        | zero => intro i f hm; exact absurd hm (Nat.not_lt_zero _)
        | succ n ih26 =>
          intro i f hm hi H locs hK hP hD hS ls hl
          refine lv_iload hx hb dX12_edges_26 (lv_at hl 3 rfl) ?_
          refine lv_bipush (v := 36) hx hb dX12_edges_28 (by decide) ?_
          refine lv_icmp_ge (tgt := 56) hx hb dX12_edges_30 (by decide) (fun c_5 => ?_) (fun c_5 => ?_)
          · skip
            have c_5 : 36 ≤ i := (nI_leI (a := 36) (b := i) (by omega) (by omega)).mp c_5
            refine lv_iload_n hx hb dX12_edges_56 rfl (lv_at hl 2 rfl) ?_
            rw [hQ]
            exact W.iret (v := 0) hx hb hr (fun t ht hW => ⟨⟨0, (), rfl, by simp only [f_edges]; (repeat' split) <;> simp_all, trivial⟩, hS.F ht⟩) hS.2.2 dX12_edges_57
          · skip
            have c_5 : ¬ 36 ≤ i := fun q => c_5 ((nI_leI (a := 36) (b := i) (by omega) (by omega)).mpr q)
            refine lv_aload_n hx hb dX12_edges_33 rfl (lv_at hl 0 rfl) ?_
            refine va_get (D := (dC, dI)) (ci := 14) (v := .ref aS) (C := RX12) (T := TX12) (N := 23) hx hb hts kc_mEdges_0 hown hK hP 0 rfl rfl 1 (by decide) (hts (.fieldLink RX12 9 "MistHeapsModel" "s" "[I") kc_mEdges_1) (fun _ h9 => h9) rfl dX12_edges_34 ?_
            refine lv_bipush (v := 37) hx hb dX12_edges_37 (by decide) ?_
            refine lv_iload hx hb dX12_edges_39 (lv_at hl 3 rfl) ?_
            refine lv_iadd hx hb dX12_edges_41 ?_
            refine qi_as (y := nI (37 + i)) (nI_add 37 i) ?_
            refine lv_lload_n hx hb dX12_edges_42 rfl (lv_at hl 1 rfl) ?_
            refine lv_iload hx hb dX12_edges_43 (lv_at hl 3 rfl) ?_
            refine lv_lshr (v := x >>> ((nI i).toInt64 &&& 63)) hx hb dX12_edges_45 (rfl) ?_
            refine lv_lconst (v := 1) hx hb dX12_edges_46 (by decide) ?_
            refine lv_land hx hb dX12_edges_47 ?_
            refine lv_l2i (v := ((x >>> ((nI i).toInt64 &&& 63)) &&& 1).toInt32) hx hb dX12_edges_48 (rfl) ?_
            refine va_iast hx hb hK hP hD hS 1 0 rfl rfl (vp_in_nI (n := 37 + i) (N := 901) (by omega) (by omega)) dX12_edges_49 (fun H locs hP hD hS => ?_)
            rw [nI_clamp (n := 37 + i) (by omega)] at hP hD
            have hP : va_P (dC, dI) vwCl [(m0, .inr (14, [.int 0, .ref aS, .ref aI, .int 0, .int 0, .int 0, .int 0, .int 0, .int 0, .ref aB, .ref aT, .int 0, .int 0, .ref aG, .ref aO, .ref aN, .ref aD, .long 0, .ref aY, .int 0, .int 0, .int 0, .int 0])), (aS, .inl (cS, 901, .inl (upd f (37 + i) (((x >>> ((nI i).toInt64 &&& 63)) &&& 1).toInt32))))] H := hP
            have hD : va_D A [(m0, .inr (14, [.int 0, .ref aS, .ref aI, .int 0, .int 0, .int 0, .int 0, .int 0, .int 0, .ref aB, .ref aT, .int 0, .int 0, .ref aG, .ref aO, .ref aN, .ref aD, .long 0, .ref aY, .int 0, .int 0, .int 0, .int 0])), (aS, .inl (cS, 901, .inl (upd f (37 + i) (((x >>> ((nI i).toInt64 &&& 63)) &&& 1).toInt32))))] := hD
            refine lv_iinc (v := nI (i + 1)) (lv' := [(4, .int (nI (i + 1))), (0, .ref m0), (1, .long x), (3, .int 0)]) hx hb dX12_edges_50 hl (k := 3) rfl (nI_add i 1) (by decide) rfl (fun ls hl => ?_)
            refine lv_goto (tgt := 26) hx hb dX12_edges_53 (by decide) ?_
            exact ih26 _ _ (by omega) (by omega) _ _ (hK.sub [0] rfl) (hP.sub [0, 1] rfl) (hD.sub [0, 1] (by decide) rfl) hS ls (lv_sub hl [1, 2, 3, 0] rfl)
      exact L26 _ (0) _ (Nat.lt_succ_self _) (by omega) _ _ (hK.sub [0] rfl) (hP.sub [0, 1] rfl) (hD.sub [0, 1] (by decide) rfl) hS ls (lv_sub hl [2, 3, 1, 0] rfl)
    · skip
      rw [lg_cmp_eq] at c_2
      refine lv_bipush (v := (-2)) hx hb dX12_edges_15 (by decide) ?_
      rw [hQ]
      exact W.iret (v := (-2)) hx hb hr (fun t ht hW => ⟨⟨(-2), (), rfl, by simp only [f_edges]; (repeat' split) <;> simp_all, trivial⟩, hS.F ht⟩) hS.2.2 dX12_edges_17

theorem kc_mHeapOn0_0 : ∀ w ∈ wsX120, w ∈ wsX12_heapOn := by decide +kernel
theorem kc_mHeapOn0_1 : (.fieldLink RX12 9 "MistHeapsModel" "s" "[I" : Cond) ∈ wsX12_heapOn := by decide +kernel
set_option maxHeartbeats 4000000 in
set_option maxRecDepth 100000 in
theorem c_mHeapOn0 (l : Launch) (dC : Nat → ClassId) (dI : Nat → Nat → Nat) (m0 aS aI aB aT aG aO aN aD aY : Nat) (cS : ClassId) (x : Int32) : Met l yX12_heapOn wsX12_heapOn ({ frames := 0, cells := 0, slots := 0, locals := 0 } : Room) (va_Pc [.ref m0, .int x] (fun U => va_P (dC, dI) vwCl [(m0, .inr (14, [.int 0, .ref aS, .ref aI, .int 0, .int 0, .int 0, .int 0, .int 0, .int 0, .ref aB, .ref aT, .int 0, .int 0, .ref aG, .ref aO, .ref aN, .ref aD, .long 0, .ref aY, .int 0, .int 0, .int 0, .int 0])), (aS, .inl (cS, 901, .inl s0))] U.heap ∧ va_K (dC, dI) vwCl [(cS, .int)] U)) (vp_Si (fun r => r = -1)) 0 0 (fun _ => False) := by
  refine met_ofQ (cc := cX12_heapOn) (maxL := 4) (ret := (some .int)) (by decide) rfl ?_
  intro p e s m args below meth c s₁ Q B hml hv hQ
  obtain ⟨rfl, hP, hK⟩ := hv
  have hx := B.exec
  have hb := B.bytes
  have hr := B.returns
  have hts := atoms_spec (ws := wsX12_heapOn) B.pre
  have hown : s.vm.findClass RX12 = some m.cls := findClass_of_methodNamed B.named
  have hlocks := B.notSynchronized
  obtain ⟨A, hAe⟩ : ∃ A : Nat → Prop, A = fun _ => False := ⟨_, rfl⟩
  rw [← hAe] at hQ
  have hS : va_S A s.heap s.heap [] := va_S.rf
  have hl := lv_entry [.ref m0, .int x] (n := 4) (Nat.le_of_ble_eq_true rfl)
  rw [lg_entry_eq]
  generalize (lg_sl [.ref m0, .int x] ++ List.replicate (4 - (lg_sl [.ref m0, .int x]).length) Slot.unset).toArray = ls at hl ⊢
  generalize hag : ([.ref m0, .int x] : List Value).toArray = args at hts hQ ⊢
  have hl : lv_has ls 4 [(0, .ref m0), (1, .int x)] := hl
  refine lv_iconst (v := (-1)) hx hb dX12_heapOn_0 (by decide) ?_
  refine lv_istore_n (lv' := [(2, .int (-1)), (0, .ref m0), (1, .int x)]) hx hb dX12_heapOn_1 rfl hl (by decide) rfl (fun ls hl => ?_)
  refine lv_iconst (v := 0) hx hb dX12_heapOn_2 (by decide) ?_
  refine lv_istore_n (lv' := [(3, .int 0), (2, .int (-1)), (0, .ref m0), (1, .int x)]) hx hb dX12_heapOn_3 rfl hl (by decide) rfl (fun ls hl => ?_)
  refine lv_iload_n hx hb dX12_heapOn_4 rfl (lv_at hl 0 rfl) ?_
  refine lv_aload_n hx hb dX12_heapOn_5 rfl (lv_at hl 2 rfl) ?_
  refine va_get (D := (dC, dI)) (ci := 14) (v := .ref aS) (C := RX12) (T := TX12) (N := 23) hx hb hts kc_mHeapOn0_0 hown hK hP 0 rfl rfl 1 (by decide) (hts (.fieldLink RX12 9 "MistHeapsModel" "s" "[I") kc_mHeapOn0_1) (fun _ h9 => h9) rfl dX12_heapOn_6 ?_
  refine lv_iconst (v := 0) hx hb dX12_heapOn_9 (by decide) ?_
  refine va_iald hx hb hK hP 1 0 rfl rfl (vp_in_nI (n := 0) (N := 901) (by omega) (by omega)) dX12_heapOn_10 ?_
  refine qi_as (y := 0) (rfl) ?_
  refine lv_icmp_ge (tgt := 39) hx hb dX12_heapOn_11 (by decide) (fun _ => ?_) (fun c_1 => absurd c_1 (by decide))
  refine lv_iload_n hx hb dX12_heapOn_39 rfl (lv_at hl 1 rfl) ?_
  rw [hQ]
  exact W.iret (v := (-1)) hx hb hr (fun t ht hW => ⟨(-1), rfl, rfl, by rw [ht]⟩) (fun q hq => absurd hq List.not_mem_nil) dX12_heapOn_40

theorem kc_mPuts0_0 : ∀ w ∈ wsX120, w ∈ wsX12_puts := by decide +kernel
theorem kc_mPuts0_1 : (.fieldLink RX12 9 "MistHeapsModel" "s" "[I" : Cond) ∈ wsX12_puts := by decide +kernel
set_option maxHeartbeats 4000000 in
set_option maxRecDepth 100000 in
theorem c_mPuts0 (l : Launch) (dC : Nat → ClassId) (dI : Nat → Nat → Nat) (m0 aS aI aB aT aG aO aN aD aY : Nat) (cS : ClassId) (k v x : Int32) (sz : Nat) : Met l yX12_puts wsX12_puts ({ frames := 0, cells := 0, slots := 0, locals := 0 } : Room) (va_Pc [.ref m0, .int k, .int v, .int x] (fun U => U.heap.size = sz ∧ va_P (dC, dI) vwCl [(m0, .inr (14, [.int 0, .ref aS, .ref aI, .int 0, .int 0, .int 0, .int 0, .int 0, .int 0, .ref aB, .ref aT, .int 0, .int 0, .ref aG, .ref aO, .ref aN, .ref aD, .long 0, .ref aY, .int 0, .int 0, .int 0, .int 0])), (aS, .inl (cS, 901, .inl s0))] U.heap ∧ va_K (dC, dI) vwCl [(cS, .int)] U ∧ va_D (fun _ => True) [(m0, .inr (14, [.int 0, .ref aS, .ref aI, .int 0, .int 0, .int 0, .int 0, .int 0, .int 0, .ref aB, .ref aT, .int 0, .int 0, .ref aG, .ref aO, .ref aN, .ref aD, .long 0, .ref aY, .int 0, .int 0, .int 0, .int 0])), (aS, .inl (cS, 901, .inl s0))])) (va_Qi (fun (r : Int32) (u : Unit) => match u with | () => r = 0) (fun (u : Unit) (t : State) => match u with | () => True) (va_A [(m0, .inr (14, [.int 0, .ref aS, .ref aI, .int 0, .int 0, .int 0, .int 0, .int 0, .int 0, .ref aB, .ref aT, .int 0, .int 0, .ref aG, .ref aO, .ref aN, .ref aD, .long 0, .ref aY, .int 0, .int 0, .int 0, .int 0])), (aS, .inl (cS, 901, .inl s0))] sz)) 0 0 (va_A [(m0, .inr (14, [.int 0, .ref aS, .ref aI, .int 0, .int 0, .int 0, .int 0, .int 0, .int 0, .ref aB, .ref aT, .int 0, .int 0, .ref aG, .ref aO, .ref aN, .ref aD, .long 0, .ref aY, .int 0, .int 0, .int 0, .int 0])), (aS, .inl (cS, 901, .inl s0))] sz) := by
  refine met_ofQ (cc := cX12_puts) (maxL := 5) (ret := (some .int)) (by decide) rfl ?_
  intro p e s m args below meth c s₁ Q B hml hv hQ
  obtain ⟨rfl, hsz, hP, hK, hD0⟩ := hv
  have hx := B.exec
  have hb := B.bytes
  have hr := B.returns
  have hts := atoms_spec (ws := wsX12_puts) B.pre
  have hown : s.vm.findClass RX12 = some m.cls := findClass_of_methodNamed B.named
  have hlocks := B.notSynchronized
  subst hsz
  have hD := hD0.self (sz := s.heap.size)
  generalize hAe : va_A [(m0, .inr (14, [.int 0, .ref aS, .ref aI, .int 0, .int 0, .int 0, .int 0, .int 0, .int 0, .ref aB, .ref aT, .int 0, .int 0, .ref aG, .ref aO, .ref aN, .ref aD, .long 0, .ref aY, .int 0, .int 0, .int 0, .int 0])), (aS, .inl (cS, 901, .inl s0))] s.heap.size = A at hD hQ ⊢
  have hA : ∀ q : Nat, s.heap.size ≤ q → A q := fun q h => by rw [← hAe]; exact Or.inr h
  have hS : va_S A s.heap s.heap [] := va_S.rf
  have hl := lv_entry [.ref m0, .int k, .int v, .int x] (n := 5) (Nat.le_of_ble_eq_true rfl)
  rw [lg_entry_eq]
  generalize (lg_sl [.ref m0, .int k, .int v, .int x] ++ List.replicate (5 - (lg_sl [.ref m0, .int k, .int v, .int x]).length) Slot.unset).toArray = ls at hl ⊢
  generalize hag : ([.ref m0, .int k, .int v, .int x] : List Value).toArray = args at hts hQ ⊢
  have hl : lv_has ls 5 [(0, .ref m0), (1, .int k), (2, .int v), (3, .int x)] := hl
  obtain ⟨H, hH⟩ : ∃ H : Heap, H = s.heap := ⟨_, rfl⟩
  rw [← hH] at hP
  rw [← hH]
  have hS : va_S A s.heap H [] := by rw [hH]; exact hS
  obtain ⟨locs, hlo⟩ : ∃ L : List Loc, L = [] := ⟨_, rfl⟩
  rw [← hlo] at hS
  rw [← hlo]
  clear hH hlo
  refine lv_aload_n hx hb dX12_puts_0 rfl (lv_at hl 0 rfl) ?_
  refine va_get (D := (dC, dI)) (ci := 14) (v := .ref aS) (C := RX12) (T := TX12) (N := 23) hx hb hts kc_mPuts0_0 hown hK hP 0 rfl rfl 1 (by decide) (hts (.fieldLink RX12 9 "MistHeapsModel" "s" "[I") kc_mPuts0_1) (fun _ h9 => h9) rfl dX12_puts_1 ?_
  refine lv_iconst (v := 0) hx hb dX12_puts_4 (by decide) ?_
  refine va_iald hx hb hK hP 1 0 rfl rfl (vp_in_nI (n := 0) (N := 901) (by omega) (by omega)) dX12_puts_5 ?_
  refine qi_as (y := 0) (rfl) ?_
  refine lv_istore (lv' := [(4, .int 0), (0, .ref m0), (1, .int k), (2, .int v), (3, .int x)]) hx hb dX12_puts_6 hl (by decide) rfl (fun ls hl => ?_)
  refine lv_aload_n hx hb dX12_puts_8 rfl (lv_at hl 1 rfl) ?_
  refine va_get (D := (dC, dI)) (ci := 14) (v := .ref aS) (C := RX12) (T := TX12) (N := 23) hx hb hts kc_mPuts0_0 hown hK hP 0 rfl rfl 1 (by decide) (hts (.fieldLink RX12 9 "MistHeapsModel" "s" "[I") kc_mPuts0_1) (fun _ h9 => h9) rfl dX12_puts_9 ?_
  refine lv_bipush (v := 10) hx hb dX12_puts_12 (by decide) ?_
  refine lv_iload hx hb dX12_puts_14 (lv_at hl 0 rfl) ?_
  refine lv_iadd hx hb dX12_puts_16 ?_
  refine qi_as (y := 10) (by decide) ?_
  refine lv_iload_n hx hb dX12_puts_17 rfl (lv_at hl 2 rfl) ?_
  refine va_iast hx hb hK hP hD hS 1 0 rfl rfl (vp_in_nI (n := 10) (N := 901) (by omega) (by omega)) dX12_puts_18 (fun H locs hP hD hS => ?_)
  have hP : va_P (dC, dI) vwCl [(m0, .inr (14, [.int 0, .ref aS, .ref aI, .int 0, .int 0, .int 0, .int 0, .int 0, .int 0, .ref aB, .ref aT, .int 0, .int 0, .ref aG, .ref aO, .ref aN, .ref aD, .long 0, .ref aY, .int 0, .int 0, .int 0, .int 0])), (aS, .inl (cS, 901, .inl (upd s0 10 k)))] H := hP
  have hD : va_D A [(m0, .inr (14, [.int 0, .ref aS, .ref aI, .int 0, .int 0, .int 0, .int 0, .int 0, .int 0, .ref aB, .ref aT, .int 0, .int 0, .ref aG, .ref aO, .ref aN, .ref aD, .long 0, .ref aY, .int 0, .int 0, .int 0, .int 0])), (aS, .inl (cS, 901, .inl (upd s0 10 k)))] := hD
  refine lv_aload_n hx hb dX12_puts_19 rfl (lv_at hl 1 rfl) ?_
  refine va_get (D := (dC, dI)) (ci := 14) (v := .ref aS) (C := RX12) (T := TX12) (N := 23) hx hb hts kc_mPuts0_0 hown hK hP 0 rfl rfl 1 (by decide) (hts (.fieldLink RX12 9 "MistHeapsModel" "s" "[I") kc_mPuts0_1) (fun _ h9 => h9) rfl dX12_puts_20 ?_
  refine lv_bipush (v := 19) hx hb dX12_puts_23 (by decide) ?_
  refine lv_iload hx hb dX12_puts_25 (lv_at hl 0 rfl) ?_
  refine lv_iadd hx hb dX12_puts_27 ?_
  refine qi_as (y := 19) (by decide) ?_
  refine lv_iload_n hx hb dX12_puts_28 rfl (lv_at hl 3 rfl) ?_
  refine va_iast hx hb hK hP hD hS 1 0 rfl rfl (vp_in_nI (n := 19) (N := 901) (by omega) (by omega)) dX12_puts_29 (fun H locs hP hD hS => ?_)
  have hP : va_P (dC, dI) vwCl [(m0, .inr (14, [.int 0, .ref aS, .ref aI, .int 0, .int 0, .int 0, .int 0, .int 0, .int 0, .ref aB, .ref aT, .int 0, .int 0, .ref aG, .ref aO, .ref aN, .ref aD, .long 0, .ref aY, .int 0, .int 0, .int 0, .int 0])), (aS, .inl (cS, 901, .inl (upd (upd s0 10 k) 19 v)))] H := hP
  have hD : va_D A [(m0, .inr (14, [.int 0, .ref aS, .ref aI, .int 0, .int 0, .int 0, .int 0, .int 0, .int 0, .ref aB, .ref aT, .int 0, .int 0, .ref aG, .ref aO, .ref aN, .ref aD, .long 0, .ref aY, .int 0, .int 0, .int 0, .int 0])), (aS, .inl (cS, 901, .inl (upd (upd s0 10 k) 19 v)))] := hD
  refine lv_aload_n hx hb dX12_puts_30 rfl (lv_at hl 1 rfl) ?_
  refine va_get (D := (dC, dI)) (ci := 14) (v := .ref aS) (C := RX12) (T := TX12) (N := 23) hx hb hts kc_mPuts0_0 hown hK hP 0 rfl rfl 1 (by decide) (hts (.fieldLink RX12 9 "MistHeapsModel" "s" "[I") kc_mPuts0_1) (fun _ h9 => h9) rfl dX12_puts_31 ?_
  refine lv_bipush (v := 28) hx hb dX12_puts_34 (by decide) ?_
  refine lv_iload hx hb dX12_puts_36 (lv_at hl 0 rfl) ?_
  refine lv_iadd hx hb dX12_puts_38 ?_
  refine qi_as (y := 28) (by decide) ?_
  refine lv_iload_n hx hb dX12_puts_39 rfl (lv_at hl 4 rfl) ?_
  refine va_iast hx hb hK hP hD hS 1 0 rfl rfl (vp_in_nI (n := 28) (N := 901) (by omega) (by omega)) dX12_puts_40 (fun H locs hP hD hS => ?_)
  have hP : va_P (dC, dI) vwCl [(m0, .inr (14, [.int 0, .ref aS, .ref aI, .int 0, .int 0, .int 0, .int 0, .int 0, .int 0, .ref aB, .ref aT, .int 0, .int 0, .ref aG, .ref aO, .ref aN, .ref aD, .long 0, .ref aY, .int 0, .int 0, .int 0, .int 0])), (aS, .inl (cS, 901, .inl (upd (upd (upd s0 10 k) 19 v) 28 x)))] H := hP
  have hD : va_D A [(m0, .inr (14, [.int 0, .ref aS, .ref aI, .int 0, .int 0, .int 0, .int 0, .int 0, .int 0, .ref aB, .ref aT, .int 0, .int 0, .ref aG, .ref aO, .ref aN, .ref aD, .long 0, .ref aY, .int 0, .int 0, .int 0, .int 0])), (aS, .inl (cS, 901, .inl (upd (upd (upd s0 10 k) 19 v) 28 x)))] := hD
  refine lv_aload_n hx hb dX12_puts_41 rfl (lv_at hl 1 rfl) ?_
  refine va_get (D := (dC, dI)) (ci := 14) (v := .ref aS) (C := RX12) (T := TX12) (N := 23) hx hb hts kc_mPuts0_0 hown hK hP 0 rfl rfl 1 (by decide) (hts (.fieldLink RX12 9 "MistHeapsModel" "s" "[I") kc_mPuts0_1) (fun _ h9 => h9) rfl dX12_puts_42 ?_
  refine lv_iconst (v := 0) hx hb dX12_puts_45 (by decide) ?_
  refine lv_dup2_11 hx hb dX12_puts_46 rfl rfl ?_
  refine va_iald hx hb hK hP 1 0 rfl rfl (vp_in_nI (n := 0) (N := 901) (by omega) (by omega)) dX12_puts_47 ?_
  refine qi_as (y := 0) (rfl) ?_
  refine lv_iconst (v := 1) hx hb dX12_puts_48 (by decide) ?_
  refine lv_iadd hx hb dX12_puts_49 ?_
  refine qi_as (y := 1) (by decide) ?_
  refine va_iast hx hb hK hP hD hS 1 0 rfl rfl (vp_in_nI (n := 0) (N := 901) (by omega) (by omega)) dX12_puts_50 (fun H locs hP hD hS => ?_)
  have hP : va_P (dC, dI) vwCl [(m0, .inr (14, [.int 0, .ref aS, .ref aI, .int 0, .int 0, .int 0, .int 0, .int 0, .int 0, .ref aB, .ref aT, .int 0, .int 0, .ref aG, .ref aO, .ref aN, .ref aD, .long 0, .ref aY, .int 0, .int 0, .int 0, .int 0])), (aS, .inl (cS, 901, .inl (upd (upd (upd (upd s0 10 k) 19 v) 28 x) 0 1)))] H := hP
  have hD : va_D A [(m0, .inr (14, [.int 0, .ref aS, .ref aI, .int 0, .int 0, .int 0, .int 0, .int 0, .int 0, .ref aB, .ref aT, .int 0, .int 0, .ref aG, .ref aO, .ref aN, .ref aD, .long 0, .ref aY, .int 0, .int 0, .int 0, .int 0])), (aS, .inl (cS, 901, .inl (upd (upd (upd (upd s0 10 k) 19 v) 28 x) 0 1)))] := hD
  refine lv_iload hx hb dX12_puts_51 (lv_at hl 0 rfl) ?_
  rw [hQ]
  exact W.iret (v := 0) hx hb hr (fun t ht hW => ⟨⟨0, (), rfl, rfl, trivial⟩, hS.F ht⟩) hS.2.2 dX12_puts_53

theorem kc_mHeap_0 : ∀ w ∈ wsX120, w ∈ wsX12_heap := by decide +kernel
theorem kc_mHeap_1 : (.fieldLink RX12 9 "MistHeapsModel" "s" "[I" : Cond) ∈ wsX12_heap := by decide +kernel
set_option maxHeartbeats 4000000 in
set_option maxRecDepth 100000 in
theorem c_mHeap (l : Launch) (dC : Nat → ClassId) (dI : Nat → Nat → Nat) (m0 aS aI aB aT aG aO aN aD aY : Nat) (cS : ClassId) (k v x : Int32) (sz : Nat) : Met l yX12_heap wsX12_heap ({ frames := 2, cells := 0, slots := 0, locals := 42 } : Room) (va_Pc [.ref m0, .int k, .int v, .int x] (fun U => U.heap.size = sz ∧ va_P (dC, dI) vwCl [(m0, .inr (14, [.int 0, .ref aS, .ref aI, .int 0, .int 0, .int 0, .int 0, .int 0, .int 0, .ref aB, .ref aT, .int 0, .int 0, .ref aG, .ref aO, .ref aN, .ref aD, .long 0, .ref aY, .int 0, .int 0, .int 0, .int 0])), (aS, .inl (cS, 901, .inl s0))] U.heap ∧ va_K (dC, dI) vwCl [(cS, .int)] U ∧ va_D (fun _ => True) [(m0, .inr (14, [.int 0, .ref aS, .ref aI, .int 0, .int 0, .int 0, .int 0, .int 0, .int 0, .ref aB, .ref aT, .int 0, .int 0, .ref aG, .ref aO, .ref aN, .ref aD, .long 0, .ref aY, .int 0, .int 0, .int 0, .int 0])), (aS, .inl (cS, 901, .inl s0))])) (va_Qi (fun (r : Int32) (u : Unit) => match u with | () => r = f_heap k v x) (fun (u : Unit) (t : State) => match u with | () => True) (va_A [(m0, .inr (14, [.int 0, .ref aS, .ref aI, .int 0, .int 0, .int 0, .int 0, .int 0, .int 0, .ref aB, .ref aT, .int 0, .int 0, .ref aG, .ref aO, .ref aN, .ref aD, .long 0, .ref aY, .int 0, .int 0, .int 0, .int 0])), (aS, .inl (cS, 901, .inl s0))] sz)) 0 0 (va_A [(m0, .inr (14, [.int 0, .ref aS, .ref aI, .int 0, .int 0, .int 0, .int 0, .int 0, .int 0, .ref aB, .ref aT, .int 0, .int 0, .ref aG, .ref aO, .ref aN, .ref aD, .long 0, .ref aY, .int 0, .int 0, .int 0, .int 0])), (aS, .inl (cS, 901, .inl s0))] sz) := by
  refine met_ofQ (cc := cX12_heap) (maxL := 4) (ret := (some .int)) (by decide) rfl ?_
  intro p e s m args below meth c s₁ Q B hml hv hQ
  obtain ⟨rfl, hsz, hP, hK, hD0⟩ := hv
  have hx := B.exec
  have hb := B.bytes
  have hr := B.returns
  have hts := atoms_spec (ws := wsX12_heap) B.pre
  have hown : s.vm.findClass RX12 = some m.cls := findClass_of_methodNamed B.named
  have hlocks := B.notSynchronized
  subst hsz
  have hD := hD0.self (sz := s.heap.size)
  generalize hAe : va_A [(m0, .inr (14, [.int 0, .ref aS, .ref aI, .int 0, .int 0, .int 0, .int 0, .int 0, .int 0, .ref aB, .ref aT, .int 0, .int 0, .ref aG, .ref aO, .ref aN, .ref aD, .long 0, .ref aY, .int 0, .int 0, .int 0, .int 0])), (aS, .inl (cS, 901, .inl s0))] s.heap.size = A at hD hQ ⊢
  have hA : ∀ q : Nat, s.heap.size ≤ q → A q := fun q h => by rw [← hAe]; exact Or.inr h
  have hS : va_S A s.heap s.heap [] := va_S.rf
  have hl := lv_entry [.ref m0, .int k, .int v, .int x] (n := 4) (Nat.le_of_ble_eq_true rfl)
  rw [lg_entry_eq]
  generalize (lg_sl [.ref m0, .int k, .int v, .int x] ++ List.replicate (4 - (lg_sl [.ref m0, .int k, .int v, .int x]).length) Slot.unset).toArray = ls at hl ⊢
  generalize hag : ([.ref m0, .int k, .int v, .int x] : List Value).toArray = args at hts hQ ⊢
  have hl : lv_has ls 4 [(0, .ref m0), (1, .int k), (2, .int v), (3, .int x)] := hl
  obtain ⟨H, hH⟩ : ∃ H : Heap, H = s.heap := ⟨_, rfl⟩
  rw [← hH] at hP
  rw [← hH]
  have hS : va_S A s.heap H [] := by rw [hH]; exact hS
  obtain ⟨locs, hlo⟩ : ∃ L : List Loc, L = [] := ⟨_, rfl⟩
  rw [← hlo] at hS
  rw [← hlo]
  clear hH hlo
  refine lv_iload_n hx hb dX12_heap_0 rfl (lv_at hl 1 rfl) ?_
  refine lv_iconst (v := 0) hx hb dX12_heap_1 (by decide) ?_
  refine lv_bipush (v := 6) hx hb dX12_heap_2 (by decide) ?_
  refine vp_callSi (va_runS (As := [.int k, .int 0, .int 6]) (rest := []) ⟨hx, hb, hml, hown, hts⟩ (c_in l dC dI k 0 6) (va_cwS 3 hts gX12_heap_X12_in rfl rfl rfl (by decide +kernel) ⟨Nat.le_of_ble_eq_true rfl, Nat.le_of_ble_eq_true rfl⟩) ⟨fun a U g mk q => ⟨q.1, trivial⟩, fun U hU hW => ⟨rfl, trivial⟩⟩ rfl rfl hl.1 rfl (lv_room (Nat.le_of_ble_eq_true rfl)) dX12_heap_4 ⟨Nat.le_of_ble_eq_true rfl, Nat.le_of_ble_eq_true rfl⟩).run (fun r_1 hw_2 => ?_)
  rcases hw_2 with ⟨rfl, h_3, h_4⟩ | ⟨rfl, h_5⟩
  · skip
    refine lv_if_eq (tgt := 17) hx hb dX12_heap_7 (by decide) (fun c_6 => absurd c_6 (by decide)) (fun _ => ?_)
    refine lv_iload_n hx hb dX12_heap_10 rfl (lv_at hl 3 rfl) ?_
    refine vp_callSi (va_runS (As := [.int x]) (rest := []) ⟨hx, hb, hml, hown, hts⟩ (c_mCell l dC dI x) (va_cwS 1 hts gX12_heap_X12_isCell rfl rfl rfl (by decide +kernel) ⟨Nat.le_of_ble_eq_true rfl, Nat.le_of_ble_eq_true rfl⟩) ⟨fun a U g mk q => ⟨q.1, trivial⟩, fun U hU hW => ⟨rfl, trivial⟩⟩ rfl rfl hl.1 rfl (lv_room (Nat.le_of_ble_eq_true rfl)) dX12_heap_11 ⟨Nat.le_of_ble_eq_true rfl, Nat.le_of_ble_eq_true rfl⟩).run (fun r_7 hw_8 => ?_)
    rcases hw_8 with ⟨rfl, h_9, h_10⟩ | ⟨rfl, h_11⟩
    · skip
      refine lv_if_ne (tgt := 19) hx hb dX12_heap_14 (by decide) (fun _ => ?_) (fun c_12 => absurd c_12 (by decide))
      refine lv_iload_n hx hb dX12_heap_19 rfl (lv_at hl 2 rfl) ?_
      refine lv_iconst (v := 0) hx hb dX12_heap_20 (by decide) ?_
      refine lv_bipush (v := 9) hx hb dX12_heap_21 (by decide) ?_
      refine vp_callSi (va_runS (As := [.int v, .int 0, .int 9]) (rest := []) ⟨hx, hb, hml, hown, hts⟩ (c_in l dC dI v 0 9) (va_cwS 3 hts gX12_heap_X12_in rfl rfl rfl (by decide +kernel) ⟨Nat.le_of_ble_eq_true rfl, Nat.le_of_ble_eq_true rfl⟩) ⟨fun a U g mk q => ⟨q.1, trivial⟩, fun U hU hW => ⟨rfl, trivial⟩⟩ rfl rfl hl.1 rfl (lv_room (Nat.le_of_ble_eq_true rfl)) dX12_heap_23 ⟨Nat.le_of_ble_eq_true rfl, Nat.le_of_ble_eq_true rfl⟩).run (fun r_13 hw_14 => ?_)
      rcases hw_14 with ⟨rfl, h_15, h_16⟩ | ⟨rfl, h_17⟩
      · skip
        refine lv_if_ne (tgt := 32) hx hb dX12_heap_26 (by decide) (fun _ => ?_) (fun c_18 => absurd c_18 (by decide))
        refine lv_aload_n hx hb dX12_heap_32 rfl (lv_at hl 0 rfl) ?_
        refine lv_iload_n hx hb dX12_heap_33 rfl (lv_at hl 3 rfl) ?_
        have hPc := hP.sub (ws' := [(m0, .inr (14, [.int 0, .ref aS, .ref aI, .int 0, .int 0, .int 0, .int 0, .int 0, .int 0, .ref aB, .ref aT, .int 0, .int 0, .ref aG, .ref aO, .ref aN, .ref aD, .long 0, .ref aY, .int 0, .int 0, .int 0, .int 0])), (aS, .inl (cS, 901, .inl s0))]) [0, 1] rfl
        have hKc := hK.sub (tys' := [(cS, .int)]) [0] rfl
        refine vp_callSi (va_runV (As := [.int x]) (rest := []) ⟨hx, hb, hml, hown, hts⟩ (c_mHeapOn0 l dC dI m0 aS aI aB aT aG aO aN aD aY cS x) (cwV 1 hts gX12_heap_X12_heapOn rfl rfl rfl (by decide +kernel) ⟨Nat.le_of_ble_eq_true rfl, Nat.le_of_ble_eq_true rfl⟩) ⟨fun a U g mk q => by obtain ⟨q0, qP, qK⟩ := q; exact ⟨q0, qP, va_K.moved (u := U) (U := U.calling g mk a) (Vm.Alike.refl U.vm) qK⟩, va_recv hK hP (ci := 14) (q0 := 0) rfl rfl, fun U hU hW => ⟨rfl, by rw [hU]; exact hPc, va_K.moved hW.alike hKc⟩⟩ rfl rfl hl.1 rfl (lv_room (Nat.le_of_ble_eq_true rfl)) dX12_heap_34 ⟨Nat.le_of_ble_eq_true rfl, Nat.le_of_ble_eq_true rfl⟩).run (fun r_19 hw_20 => ?_)
        refine qi_as (y := (-1)) (hw_20) ?_
        refine lv_iconst (v := (-1)) hx hb dX12_heap_37 (by decide) ?_
        refine lv_icmp_eq (tgt := 44) hx hb dX12_heap_38 (by decide) (fun _ => ?_) (fun c_21 => absurd c_21 (by decide))
        refine lv_aload_n hx hb dX12_heap_44 rfl (lv_at hl 0 rfl) ?_
        refine va_get (D := (dC, dI)) (ci := 14) (v := .ref aS) (C := RX12) (T := TX12) (N := 23) hx hb hts kc_mHeap_0 hown hK hP 0 rfl rfl 1 (by decide) (hts (.fieldLink RX12 9 "MistHeapsModel" "s" "[I") kc_mHeap_1) (fun _ h9 => h9) rfl dX12_heap_45 ?_
        refine lv_iconst (v := 0) hx hb dX12_heap_48 (by decide) ?_
        refine va_iald hx hb hK hP 1 0 rfl rfl (vp_in_nI (n := 0) (N := 901) (by omega) (by omega)) dX12_heap_49 ?_
        refine qi_as (y := 0) (rfl) ?_
        refine lv_bipush (v := 8) hx hb dX12_heap_50 (by decide) ?_
        refine lv_icmp_ne (tgt := 58) hx hb dX12_heap_52 (by decide) (fun _ => ?_) (fun c_22 => absurd c_22 (by decide))
        refine lv_aload_n hx hb dX12_heap_58 rfl (lv_at hl 0 rfl) ?_
        refine lv_iload_n hx hb dX12_heap_59 rfl (lv_at hl 1 rfl) ?_
        refine lv_iload_n hx hb dX12_heap_60 rfl (lv_at hl 2 rfl) ?_
        refine lv_iload_n hx hb dX12_heap_61 rfl (lv_at hl 3 rfl) ?_
        have hPc := hP.sub (ws' := [(m0, .inr (14, [.int 0, .ref aS, .ref aI, .int 0, .int 0, .int 0, .int 0, .int 0, .int 0, .ref aB, .ref aT, .int 0, .int 0, .ref aG, .ref aO, .ref aN, .ref aD, .long 0, .ref aY, .int 0, .int 0, .int 0, .int 0])), (aS, .inl (cS, 901, .inl s0))]) [0, 1] rfl
        have hDc := hD.sub (ws' := [(m0, .inr (14, [.int 0, .ref aS, .ref aI, .int 0, .int 0, .int 0, .int 0, .int 0, .int 0, .ref aB, .ref aT, .int 0, .int 0, .ref aG, .ref aO, .ref aN, .ref aD, .long 0, .ref aY, .int 0, .int 0, .int 0, .int 0])), (aS, .inl (cS, 901, .inl s0))]) [0, 1] (by decide) rfl
        have hKc := hK.sub (tys' := [(cS, .int)]) [0] rfl
        have hFc := va_free (wc := [(m0, .inr (14, [.int 0, .ref aS, .ref aI, .int 0, .int 0, .int 0, .int 0, .int 0, .int 0, .ref aB, .ref aT, .int 0, .int 0, .ref aG, .ref aO, .ref aN, .ref aD, .long 0, .ref aY, .int 0, .int 0, .int 0, .int 0])), (aS, .inl (cS, 901, .inl s0))]) hD hS hA [0, 1] rfl
        refine va_calli (va_runV (As := [.int k, .int v, .int x]) (rest := []) ⟨hx, hb, hml, hown, hts⟩ (c_mPuts0 l dC dI m0 aS aI aB aT aG aO aN aD aY cS k v x H.size) (cwV 3 hts gX12_heap_X12_puts rfl rfl rfl (by decide +kernel) ⟨Nat.le_of_ble_eq_true rfl, Nat.le_of_ble_eq_true rfl⟩) ⟨fun a U g mk q => by obtain ⟨q0, q1, qP, qK, qD⟩ := q; exact ⟨q0, q1, qP, va_K.moved (u := U) (U := U.calling g mk a) (Vm.Alike.refl U.vm) qK, qD⟩, va_recv hK hP (ci := 14) (q0 := 0) rfl rfl, fun U hU hW => ⟨rfl, by rw [hU], by rw [hU]; exact hPc, va_K.moved hW.alike hKc, hDc.weaken (fun _ _ _ _ => trivial)⟩⟩ rfl rfl hl.1 rfl (lv_room (Nat.le_of_ble_eq_true rfl)) dX12_heap_62 ⟨Nat.le_of_ble_eq_true rfl, Nat.le_of_ble_eq_true rfl⟩) hS (fun q _ h => hFc q h) hFc (fun r_23 u t H1 locs ht hvm hw_24 hB hz1 hk1 hS => ?_)
        obtain ⟨⟩ := u
        try dsimp only at hw_24 hB
        obtain ⟨hP, hD⟩ := va_join (wr := []) (w1 := []) hP hD [0, 1] [] rfl rfl (by decide) (by decide) hk1 hFc (fun k q h => by simp at h) ⟨fun i j p q h => by simp at h, fun k q h => by simp at h⟩
        have hK := hK.sub (tys' := []) [] rfl
        generalize H1 = H at hP hS ⊢
        have hP : va_P (dC, dI) vwCl [] H := hP
        have hD : va_D A [] := hD
        have hK : va_K (dC, dI) vwCl [] s := hK
        refine qi_as (y := 0) (hw_24) ?_
        rw [hQ]
        exact W.iret (v := 0) hx hb hr (fun t ht hW => ⟨⟨0, (), rfl, by simp only [f_heap]; (repeat' split) <;> simp_all, trivial⟩, hS.F ht⟩) hS.2.2 dX12_heap_65
      · skip
        refine lv_if_ne (tgt := 32) hx hb dX12_heap_26 (by decide) (fun c_25 => absurd c_25 (by decide)) (fun _ => ?_)
        refine lv_bipush (v := (-2)) hx hb dX12_heap_29 (by decide) ?_
        rw [hQ]
        exact W.iret (v := (-2)) hx hb hr (fun t ht hW => ⟨⟨(-2), (), rfl, by simp only [f_heap]; (repeat' split) <;> simp_all, trivial⟩, hS.F ht⟩) hS.2.2 dX12_heap_31
    · skip
      refine lv_if_ne (tgt := 19) hx hb dX12_heap_14 (by decide) (fun c_26 => absurd c_26 (by decide)) (fun _ => ?_)
      refine lv_iconst (v := (-1)) hx hb dX12_heap_17 (by decide) ?_
      rw [hQ]
      exact W.iret (v := (-1)) hx hb hr (fun t ht hW => ⟨⟨(-1), (), rfl, by simp only [f_heap]; (repeat' split) <;> simp_all, trivial⟩, hS.F ht⟩) hS.2.2 dX12_heap_18
  · skip
    refine lv_if_eq (tgt := 17) hx hb dX12_heap_7 (by decide) (fun _ => ?_) (fun c_27 => absurd c_27 (by decide))
    refine lv_iconst (v := (-1)) hx hb dX12_heap_17 (by decide) ?_
    rw [hQ]
    exact W.iret (v := (-1)) hx hb hr (fun t ht hW => ⟨⟨(-1), (), rfl, by simp only [f_heap]; (repeat' split) <;> simp_all, trivial⟩, hS.F ht⟩) hS.2.2 dX12_heap_18

set_option maxHeartbeats 4000000 in
set_option maxRecDepth 100000 in
theorem c_mOf (l : Launch) (dC : Nat → ClassId) (dI : Nat → Nat → Nat) (m0 aS aI aB aT aG aO aN aD aY : Nat) (cS : ClassId) (x y : Int32) : Met l yX12_of wsX12_of ({ frames := 2, cells := 0, slots := 0, locals := 43 } : Room) (va_Pc [.ref m0, .int x, .int y] (fun U => va_P (dC, dI) vwCl [(m0, .inr (14, [.int 0, .ref aS, .ref aI, .int 0, .int 0, .int 0, .int 0, .int 0, .int 0, .ref aB, .ref aT, .int 0, .int 0, .ref aG, .ref aO, .ref aN, .ref aD, .long 0, .ref aY, .int 0, .int 0, .int 0, .int 0])), (aS, .inl (cS, 901, .inl s0))] U.heap ∧ va_K (dC, dI) vwCl [(cS, .int)] U)) (vp_Si (fun r => r = -1)) 0 0 (fun _ => False) := by
  refine met_ofQ (cc := cX12_of) (maxL := 3) (ret := (some .int)) (by decide) rfl ?_
  intro p e s m args below meth c s₁ Q B hml hv hQ
  obtain ⟨rfl, hP, hK⟩ := hv
  have hx := B.exec
  have hb := B.bytes
  have hr := B.returns
  have hts := atoms_spec (ws := wsX12_of) B.pre
  have hown : s.vm.findClass RX12 = some m.cls := findClass_of_methodNamed B.named
  have hlocks := B.notSynchronized
  obtain ⟨A, hAe⟩ : ∃ A : Nat → Prop, A = fun _ => False := ⟨_, rfl⟩
  rw [← hAe] at hQ
  have hS : va_S A s.heap s.heap [] := va_S.rf
  have hl := lv_entry [.ref m0, .int x, .int y] (n := 3) (Nat.le_of_ble_eq_true rfl)
  rw [lg_entry_eq]
  generalize (lg_sl [.ref m0, .int x, .int y] ++ List.replicate (3 - (lg_sl [.ref m0, .int x, .int y]).length) Slot.unset).toArray = ls at hl ⊢
  generalize hag : ([.ref m0, .int x, .int y] : List Value).toArray = args at hts hQ ⊢
  have hl : lv_has ls 3 [(0, .ref m0), (1, .int x), (2, .int y)] := hl
  refine lv_aload_n hx hb dX12_of_0 rfl (lv_at hl 0 rfl) ?_
  refine lv_iload_n hx hb dX12_of_1 rfl (lv_at hl 1 rfl) ?_
  have hPc := hP.sub (ws' := [(m0, .inr (14, [.int 0, .ref aS, .ref aI, .int 0, .int 0, .int 0, .int 0, .int 0, .int 0, .ref aB, .ref aT, .int 0, .int 0, .ref aG, .ref aO, .ref aN, .ref aD, .long 0, .ref aY, .int 0, .int 0, .int 0, .int 0])), (aS, .inl (cS, 901, .inl s0))]) [0, 1] rfl
  have hKc := hK.sub (tys' := [(cS, .int)]) [0] rfl
  refine vp_callSi (va_runV (As := [.int x]) (rest := []) ⟨hx, hb, hml, hown, hts⟩ (c_mHeap0 l dC dI m0 aS aI aB aT aG aO aN aD aY cS x) (cwV 1 hts gX12_of_X12_isHeap rfl rfl rfl (by decide +kernel) ⟨Nat.le_of_ble_eq_true rfl, Nat.le_of_ble_eq_true rfl⟩) ⟨fun a U g mk q => by obtain ⟨q0, qP, qK⟩ := q; exact ⟨q0, qP, va_K.moved (u := U) (U := U.calling g mk a) (Vm.Alike.refl U.vm) qK⟩, va_recv hK hP (ci := 14) (q0 := 0) rfl rfl, fun U hU hW => ⟨rfl, by rw [hU]; exact hPc, va_K.moved hW.alike hKc⟩⟩ rfl rfl hl.1 rfl (lv_room (Nat.le_of_ble_eq_true rfl)) dX12_of_2 ⟨Nat.le_of_ble_eq_true rfl, Nat.le_of_ble_eq_true rfl⟩).run (fun r_1 hw_2 => ?_)
  refine qi_as (y := 0) (hw_2) ?_
  refine lv_if_eq (tgt := 17) hx hb dX12_of_5 (by decide) (fun _ => ?_) (fun c_3 => absurd c_3 (by decide))
  refine lv_iconst (v := (-1)) hx hb dX12_of_17 (by decide) ?_
  rw [hQ]
  exact W.iret (v := (-1)) hx hb hr (fun t ht hW => ⟨(-1), rfl, rfl, by rw [ht]⟩) (fun q hq => absurd hq List.not_mem_nil) dX12_of_18

set_option maxHeartbeats 4000000 in
set_option maxRecDepth 100000 in
theorem c_mSteps (l : Launch) (dC : Nat → ClassId) (dI : Nat → Nat → Nat) (m0 aS aI aB aT aG aO aN aD aY : Nat) (cS : ClassId) (x y : Int32) : Met l yX12_steps wsX12_steps ({ frames := 2, cells := 0, slots := 0, locals := 43 } : Room) (va_Pc [.ref m0, .int x, .int y] (fun U => va_P (dC, dI) vwCl [(m0, .inr (14, [.int 0, .ref aS, .ref aI, .int 0, .int 0, .int 0, .int 0, .int 0, .int 0, .ref aB, .ref aT, .int 0, .int 0, .ref aG, .ref aO, .ref aN, .ref aD, .long 0, .ref aY, .int 0, .int 0, .int 0, .int 0])), (aS, .inl (cS, 901, .inl s0))] U.heap ∧ va_K (dC, dI) vwCl [(cS, .int)] U)) (vp_Si (fun r => r = -1)) 0 0 (fun _ => False) := by
  refine met_ofQ (cc := cX12_steps) (maxL := 3) (ret := (some .int)) (by decide) rfl ?_
  intro p e s m args below meth c s₁ Q B hml hv hQ
  obtain ⟨rfl, hP, hK⟩ := hv
  have hx := B.exec
  have hb := B.bytes
  have hr := B.returns
  have hts := atoms_spec (ws := wsX12_steps) B.pre
  have hown : s.vm.findClass RX12 = some m.cls := findClass_of_methodNamed B.named
  have hlocks := B.notSynchronized
  obtain ⟨A, hAe⟩ : ∃ A : Nat → Prop, A = fun _ => False := ⟨_, rfl⟩
  rw [← hAe] at hQ
  have hS : va_S A s.heap s.heap [] := va_S.rf
  have hl := lv_entry [.ref m0, .int x, .int y] (n := 3) (Nat.le_of_ble_eq_true rfl)
  rw [lg_entry_eq]
  generalize (lg_sl [.ref m0, .int x, .int y] ++ List.replicate (3 - (lg_sl [.ref m0, .int x, .int y]).length) Slot.unset).toArray = ls at hl ⊢
  generalize hag : ([.ref m0, .int x, .int y] : List Value).toArray = args at hts hQ ⊢
  have hl : lv_has ls 3 [(0, .ref m0), (1, .int x), (2, .int y)] := hl
  refine lv_aload_n hx hb dX12_steps_0 rfl (lv_at hl 0 rfl) ?_
  refine lv_iload_n hx hb dX12_steps_1 rfl (lv_at hl 1 rfl) ?_
  have hPc := hP.sub (ws' := [(m0, .inr (14, [.int 0, .ref aS, .ref aI, .int 0, .int 0, .int 0, .int 0, .int 0, .int 0, .ref aB, .ref aT, .int 0, .int 0, .ref aG, .ref aO, .ref aN, .ref aD, .long 0, .ref aY, .int 0, .int 0, .int 0, .int 0])), (aS, .inl (cS, 901, .inl s0))]) [0, 1] rfl
  have hKc := hK.sub (tys' := [(cS, .int)]) [0] rfl
  refine vp_callSi (va_runV (As := [.int x]) (rest := []) ⟨hx, hb, hml, hown, hts⟩ (c_mHeap0 l dC dI m0 aS aI aB aT aG aO aN aD aY cS x) (cwV 1 hts gX12_steps_X12_isHeap rfl rfl rfl (by decide +kernel) ⟨Nat.le_of_ble_eq_true rfl, Nat.le_of_ble_eq_true rfl⟩) ⟨fun a U g mk q => by obtain ⟨q0, qP, qK⟩ := q; exact ⟨q0, qP, va_K.moved (u := U) (U := U.calling g mk a) (Vm.Alike.refl U.vm) qK⟩, va_recv hK hP (ci := 14) (q0 := 0) rfl rfl, fun U hU hW => ⟨rfl, by rw [hU]; exact hPc, va_K.moved hW.alike hKc⟩⟩ rfl rfl hl.1 rfl (lv_room (Nat.le_of_ble_eq_true rfl)) dX12_steps_2 ⟨Nat.le_of_ble_eq_true rfl, Nat.le_of_ble_eq_true rfl⟩).run (fun r_1 hw_2 => ?_)
  refine qi_as (y := 0) (hw_2) ?_
  refine lv_if_eq (tgt := 25) hx hb dX12_steps_5 (by decide) (fun _ => ?_) (fun c_3 => absurd c_3 (by decide))
  refine lv_iconst (v := (-1)) hx hb dX12_steps_25 (by decide) ?_
  rw [hQ]
  exact W.iret (v := (-1)) hx hb hr (fun t ht hW => ⟨(-1), rfl, rfl, by rw [ht]⟩) (fun q hq => absurd hq List.not_mem_nil) dX12_steps_26

set_option maxHeartbeats 4000000 in
set_option maxRecDepth 100000 in
theorem c_mVia (l : Launch) (dC : Nat → ClassId) (dI : Nat → Nat → Nat) (m0 aS aI aB aT aG aO aN aD aY : Nat) (cS : ClassId) (x y : Int32) : Met l yX12_via wsX12_via ({ frames := 2, cells := 0, slots := 0, locals := 43 } : Room) (va_Pc [.ref m0, .int x, .int y] (fun U => va_P (dC, dI) vwCl [(m0, .inr (14, [.int 0, .ref aS, .ref aI, .int 0, .int 0, .int 0, .int 0, .int 0, .int 0, .ref aB, .ref aT, .int 0, .int 0, .ref aG, .ref aO, .ref aN, .ref aD, .long 0, .ref aY, .int 0, .int 0, .int 0, .int 0])), (aS, .inl (cS, 901, .inl s0))] U.heap ∧ va_K (dC, dI) vwCl [(cS, .int)] U)) (vp_Si (fun r => r = -1)) 0 0 (fun _ => False) := by
  refine met_ofQ (cc := cX12_via) (maxL := 5) (ret := (some .int)) (by decide) rfl ?_
  intro p e s m args below meth c s₁ Q B hml hv hQ
  obtain ⟨rfl, hP, hK⟩ := hv
  have hx := B.exec
  have hb := B.bytes
  have hr := B.returns
  have hts := atoms_spec (ws := wsX12_via) B.pre
  have hown : s.vm.findClass RX12 = some m.cls := findClass_of_methodNamed B.named
  have hlocks := B.notSynchronized
  obtain ⟨A, hAe⟩ : ∃ A : Nat → Prop, A = fun _ => False := ⟨_, rfl⟩
  rw [← hAe] at hQ
  have hS : va_S A s.heap s.heap [] := va_S.rf
  have hl := lv_entry [.ref m0, .int x, .int y] (n := 5) (Nat.le_of_ble_eq_true rfl)
  rw [lg_entry_eq]
  generalize (lg_sl [.ref m0, .int x, .int y] ++ List.replicate (5 - (lg_sl [.ref m0, .int x, .int y]).length) Slot.unset).toArray = ls at hl ⊢
  generalize hag : ([.ref m0, .int x, .int y] : List Value).toArray = args at hts hQ ⊢
  have hl : lv_has ls 5 [(0, .ref m0), (1, .int x), (2, .int y)] := hl
  refine lv_aload_n hx hb dX12_via_0 rfl (lv_at hl 0 rfl) ?_
  refine lv_iload_n hx hb dX12_via_1 rfl (lv_at hl 1 rfl) ?_
  have hPc := hP.sub (ws' := [(m0, .inr (14, [.int 0, .ref aS, .ref aI, .int 0, .int 0, .int 0, .int 0, .int 0, .int 0, .ref aB, .ref aT, .int 0, .int 0, .ref aG, .ref aO, .ref aN, .ref aD, .long 0, .ref aY, .int 0, .int 0, .int 0, .int 0])), (aS, .inl (cS, 901, .inl s0))]) [0, 1] rfl
  have hKc := hK.sub (tys' := [(cS, .int)]) [0] rfl
  refine vp_callSi (va_runV (As := [.int x]) (rest := []) ⟨hx, hb, hml, hown, hts⟩ (c_mHeap0 l dC dI m0 aS aI aB aT aG aO aN aD aY cS x) (cwV 1 hts gX12_via_X12_isHeap rfl rfl rfl (by decide +kernel) ⟨Nat.le_of_ble_eq_true rfl, Nat.le_of_ble_eq_true rfl⟩) ⟨fun a U g mk q => by obtain ⟨q0, qP, qK⟩ := q; exact ⟨q0, qP, va_K.moved (u := U) (U := U.calling g mk a) (Vm.Alike.refl U.vm) qK⟩, va_recv hK hP (ci := 14) (q0 := 0) rfl rfl, fun U hU hW => ⟨rfl, by rw [hU]; exact hPc, va_K.moved hW.alike hKc⟩⟩ rfl rfl hl.1 rfl (lv_room (Nat.le_of_ble_eq_true rfl)) dX12_via_2 ⟨Nat.le_of_ble_eq_true rfl, Nat.le_of_ble_eq_true rfl⟩).run (fun r_1 hw_2 => ?_)
  refine qi_as (y := 0) (hw_2) ?_
  refine lv_if_eq (tgt := 16) hx hb dX12_via_5 (by decide) (fun _ => ?_) (fun c_3 => absurd c_3 (by decide))
  refine lv_iconst (v := (-1)) hx hb dX12_via_16 (by decide) ?_
  rw [hQ]
  exact W.iret (v := (-1)) hx hb hr (fun t ht hW => ⟨(-1), rfl, rfl, by rw [ht]⟩) (fun q hq => absurd hq List.not_mem_nil) dX12_via_17

set_option maxHeartbeats 4000000 in
set_option maxRecDepth 100000 in
theorem c_mCuts (l : Launch) (dC : Nat → ClassId) (dI : Nat → Nat → Nat) (m0 aS aI aB aT aG aO aN aD aY : Nat) (cS : ClassId) (x y : Int32) : Met l yX12_cuts wsX12_cuts ({ frames := 2, cells := 0, slots := 0, locals := 43 } : Room) (va_Pc [.ref m0, .int x, .int y] (fun U => va_P (dC, dI) vwCl [(m0, .inr (14, [.int 0, .ref aS, .ref aI, .int 0, .int 0, .int 0, .int 0, .int 0, .int 0, .ref aB, .ref aT, .int 0, .int 0, .ref aG, .ref aO, .ref aN, .ref aD, .long 0, .ref aY, .int 0, .int 0, .int 0, .int 0])), (aS, .inl (cS, 901, .inl s0))] U.heap ∧ va_K (dC, dI) vwCl [(cS, .int)] U)) (vp_Si (fun r => r = -1)) 0 0 (fun _ => False) := by
  refine met_ofQ (cc := cX12_cuts) (maxL := 5) (ret := (some .int)) (by decide) rfl ?_
  intro p e s m args below meth c s₁ Q B hml hv hQ
  obtain ⟨rfl, hP, hK⟩ := hv
  have hx := B.exec
  have hb := B.bytes
  have hr := B.returns
  have hts := atoms_spec (ws := wsX12_cuts) B.pre
  have hown : s.vm.findClass RX12 = some m.cls := findClass_of_methodNamed B.named
  have hlocks := B.notSynchronized
  obtain ⟨A, hAe⟩ : ∃ A : Nat → Prop, A = fun _ => False := ⟨_, rfl⟩
  rw [← hAe] at hQ
  have hS : va_S A s.heap s.heap [] := va_S.rf
  have hl := lv_entry [.ref m0, .int x, .int y] (n := 5) (Nat.le_of_ble_eq_true rfl)
  rw [lg_entry_eq]
  generalize (lg_sl [.ref m0, .int x, .int y] ++ List.replicate (5 - (lg_sl [.ref m0, .int x, .int y]).length) Slot.unset).toArray = ls at hl ⊢
  generalize hag : ([.ref m0, .int x, .int y] : List Value).toArray = args at hts hQ ⊢
  have hl : lv_has ls 5 [(0, .ref m0), (1, .int x), (2, .int y)] := hl
  refine lv_aload_n hx hb dX12_cuts_0 rfl (lv_at hl 0 rfl) ?_
  refine lv_iload_n hx hb dX12_cuts_1 rfl (lv_at hl 1 rfl) ?_
  have hPc := hP.sub (ws' := [(m0, .inr (14, [.int 0, .ref aS, .ref aI, .int 0, .int 0, .int 0, .int 0, .int 0, .int 0, .ref aB, .ref aT, .int 0, .int 0, .ref aG, .ref aO, .ref aN, .ref aD, .long 0, .ref aY, .int 0, .int 0, .int 0, .int 0])), (aS, .inl (cS, 901, .inl s0))]) [0, 1] rfl
  have hKc := hK.sub (tys' := [(cS, .int)]) [0] rfl
  refine vp_callSi (va_runV (As := [.int x]) (rest := []) ⟨hx, hb, hml, hown, hts⟩ (c_mHeap0 l dC dI m0 aS aI aB aT aG aO aN aD aY cS x) (cwV 1 hts gX12_cuts_X12_isHeap rfl rfl rfl (by decide +kernel) ⟨Nat.le_of_ble_eq_true rfl, Nat.le_of_ble_eq_true rfl⟩) ⟨fun a U g mk q => by obtain ⟨q0, qP, qK⟩ := q; exact ⟨q0, qP, va_K.moved (u := U) (U := U.calling g mk a) (Vm.Alike.refl U.vm) qK⟩, va_recv hK hP (ci := 14) (q0 := 0) rfl rfl, fun U hU hW => ⟨rfl, by rw [hU]; exact hPc, va_K.moved hW.alike hKc⟩⟩ rfl rfl hl.1 rfl (lv_room (Nat.le_of_ble_eq_true rfl)) dX12_cuts_2 ⟨Nat.le_of_ble_eq_true rfl, Nat.le_of_ble_eq_true rfl⟩).run (fun r_1 hw_2 => ?_)
  refine qi_as (y := 0) (hw_2) ?_
  refine lv_if_eq (tgt := 16) hx hb dX12_cuts_5 (by decide) (fun _ => ?_) (fun c_3 => absurd c_3 (by decide))
  refine lv_iconst (v := (-1)) hx hb dX12_cuts_16 (by decide) ?_
  rw [hQ]
  exact W.iret (v := (-1)) hx hb hr (fun t ht hW => ⟨(-1), rfl, rfl, by rw [ht]⟩) (fun q hq => absurd hq List.not_mem_nil) dX12_cuts_17

set_option maxHeartbeats 4000000 in
set_option maxRecDepth 100000 in
theorem c_mBears (l : Launch) (dC : Nat → ClassId) (dI : Nat → Nat → Nat) (m0 aS aI aB aT aG aO aN aD aY : Nat) (cS : ClassId) (x y : Int32) : Met l yX12_bears wsX12_bears ({ frames := 2, cells := 0, slots := 0, locals := 43 } : Room) (va_Pc [.ref m0, .int x, .int y] (fun U => va_P (dC, dI) vwCl [(m0, .inr (14, [.int 0, .ref aS, .ref aI, .int 0, .int 0, .int 0, .int 0, .int 0, .int 0, .ref aB, .ref aT, .int 0, .int 0, .ref aG, .ref aO, .ref aN, .ref aD, .long 0, .ref aY, .int 0, .int 0, .int 0, .int 0])), (aS, .inl (cS, 901, .inl s0))] U.heap ∧ va_K (dC, dI) vwCl [(cS, .int)] U)) (vp_Si (fun r => r = -1)) 0 0 (fun _ => False) := by
  refine met_ofQ (cc := cX12_bears) (maxL := 6) (ret := (some .int)) (by decide) rfl ?_
  intro p e s m args below meth c s₁ Q B hml hv hQ
  obtain ⟨rfl, hP, hK⟩ := hv
  have hx := B.exec
  have hb := B.bytes
  have hr := B.returns
  have hts := atoms_spec (ws := wsX12_bears) B.pre
  have hown : s.vm.findClass RX12 = some m.cls := findClass_of_methodNamed B.named
  have hlocks := B.notSynchronized
  obtain ⟨A, hAe⟩ : ∃ A : Nat → Prop, A = fun _ => False := ⟨_, rfl⟩
  rw [← hAe] at hQ
  have hS : va_S A s.heap s.heap [] := va_S.rf
  have hl := lv_entry [.ref m0, .int x, .int y] (n := 6) (Nat.le_of_ble_eq_true rfl)
  rw [lg_entry_eq]
  generalize (lg_sl [.ref m0, .int x, .int y] ++ List.replicate (6 - (lg_sl [.ref m0, .int x, .int y]).length) Slot.unset).toArray = ls at hl ⊢
  generalize hag : ([.ref m0, .int x, .int y] : List Value).toArray = args at hts hQ ⊢
  have hl : lv_has ls 6 [(0, .ref m0), (1, .int x), (2, .int y)] := hl
  refine lv_aload_n hx hb dX12_bears_0 rfl (lv_at hl 0 rfl) ?_
  refine lv_iload_n hx hb dX12_bears_1 rfl (lv_at hl 1 rfl) ?_
  have hPc := hP.sub (ws' := [(m0, .inr (14, [.int 0, .ref aS, .ref aI, .int 0, .int 0, .int 0, .int 0, .int 0, .int 0, .ref aB, .ref aT, .int 0, .int 0, .ref aG, .ref aO, .ref aN, .ref aD, .long 0, .ref aY, .int 0, .int 0, .int 0, .int 0])), (aS, .inl (cS, 901, .inl s0))]) [0, 1] rfl
  have hKc := hK.sub (tys' := [(cS, .int)]) [0] rfl
  refine vp_callSi (va_runV (As := [.int x]) (rest := []) ⟨hx, hb, hml, hown, hts⟩ (c_mHeap0 l dC dI m0 aS aI aB aT aG aO aN aD aY cS x) (cwV 1 hts gX12_bears_X12_isHeap rfl rfl rfl (by decide +kernel) ⟨Nat.le_of_ble_eq_true rfl, Nat.le_of_ble_eq_true rfl⟩) ⟨fun a U g mk q => by obtain ⟨q0, qP, qK⟩ := q; exact ⟨q0, qP, va_K.moved (u := U) (U := U.calling g mk a) (Vm.Alike.refl U.vm) qK⟩, va_recv hK hP (ci := 14) (q0 := 0) rfl rfl, fun U hU hW => ⟨rfl, by rw [hU]; exact hPc, va_K.moved hW.alike hKc⟩⟩ rfl rfl hl.1 rfl (lv_room (Nat.le_of_ble_eq_true rfl)) dX12_bears_2 ⟨Nat.le_of_ble_eq_true rfl, Nat.le_of_ble_eq_true rfl⟩).run (fun r_1 hw_2 => ?_)
  refine qi_as (y := 0) (hw_2) ?_
  refine lv_if_eq (tgt := 16) hx hb dX12_bears_5 (by decide) (fun _ => ?_) (fun c_3 => absurd c_3 (by decide))
  refine lv_iconst (v := (-1)) hx hb dX12_bears_16 (by decide) ?_
  rw [hQ]
  exact W.iret (v := (-1)) hx hb hr (fun t ht hW => ⟨(-1), rfl, rfl, by rw [ht]⟩) (fun q hq => absurd hq List.not_mem_nil) dX12_bears_17

set_option maxHeartbeats 4000000 in
set_option maxRecDepth 100000 in
theorem c_mBuild (l : Launch) (dC : Nat → ClassId) (dI : Nat → Nat → Nat) (m0 aS aI aB aT aG aO aN aD aY : Nat) (cS : ClassId) (x y z : Int32) : Met l yX12_build wsX12_build ({ frames := 2, cells := 0, slots := 0, locals := 43 } : Room) (va_Pc [.ref m0, .int x, .int y, .int z] (fun U => va_P (dC, dI) vwCl [(m0, .inr (14, [.int 0, .ref aS, .ref aI, .int 0, .int 0, .int 0, .int 0, .int 0, .int 0, .ref aB, .ref aT, .int 0, .int 0, .ref aG, .ref aO, .ref aN, .ref aD, .long 0, .ref aY, .int 0, .int 0, .int 0, .int 0])), (aS, .inl (cS, 901, .inl s0))] U.heap ∧ va_K (dC, dI) vwCl [(cS, .int)] U)) (vp_Si (fun r => r = -1)) 0 0 (fun _ => False) := by
  refine met_ofQ (cc := cX12_build) (maxL := 9) (ret := (some .int)) (by decide) rfl ?_
  intro p e s m args below meth c s₁ Q B hml hv hQ
  obtain ⟨rfl, hP, hK⟩ := hv
  have hx := B.exec
  have hb := B.bytes
  have hr := B.returns
  have hts := atoms_spec (ws := wsX12_build) B.pre
  have hown : s.vm.findClass RX12 = some m.cls := findClass_of_methodNamed B.named
  have hlocks := B.notSynchronized
  obtain ⟨A, hAe⟩ : ∃ A : Nat → Prop, A = fun _ => False := ⟨_, rfl⟩
  rw [← hAe] at hQ
  have hS : va_S A s.heap s.heap [] := va_S.rf
  have hl := lv_entry [.ref m0, .int x, .int y, .int z] (n := 9) (Nat.le_of_ble_eq_true rfl)
  rw [lg_entry_eq]
  generalize (lg_sl [.ref m0, .int x, .int y, .int z] ++ List.replicate (9 - (lg_sl [.ref m0, .int x, .int y, .int z]).length) Slot.unset).toArray = ls at hl ⊢
  generalize hag : ([.ref m0, .int x, .int y, .int z] : List Value).toArray = args at hts hQ ⊢
  have hl : lv_has ls 9 [(0, .ref m0), (1, .int x), (2, .int y), (3, .int z)] := hl
  refine lv_aload_n hx hb dX12_build_0 rfl (lv_at hl 0 rfl) ?_
  refine lv_iload_n hx hb dX12_build_1 rfl (lv_at hl 1 rfl) ?_
  have hPc := hP.sub (ws' := [(m0, .inr (14, [.int 0, .ref aS, .ref aI, .int 0, .int 0, .int 0, .int 0, .int 0, .int 0, .ref aB, .ref aT, .int 0, .int 0, .ref aG, .ref aO, .ref aN, .ref aD, .long 0, .ref aY, .int 0, .int 0, .int 0, .int 0])), (aS, .inl (cS, 901, .inl s0))]) [0, 1] rfl
  have hKc := hK.sub (tys' := [(cS, .int)]) [0] rfl
  refine vp_callSi (va_runV (As := [.int x]) (rest := []) ⟨hx, hb, hml, hown, hts⟩ (c_mHeap0 l dC dI m0 aS aI aB aT aG aO aN aD aY cS x) (cwV 1 hts gX12_build_X12_isHeap rfl rfl rfl (by decide +kernel) ⟨Nat.le_of_ble_eq_true rfl, Nat.le_of_ble_eq_true rfl⟩) ⟨fun a U g mk q => by obtain ⟨q0, qP, qK⟩ := q; exact ⟨q0, qP, va_K.moved (u := U) (U := U.calling g mk a) (Vm.Alike.refl U.vm) qK⟩, va_recv hK hP (ci := 14) (q0 := 0) rfl rfl, fun U hU hW => ⟨rfl, by rw [hU]; exact hPc, va_K.moved hW.alike hKc⟩⟩ rfl rfl hl.1 rfl (lv_room (Nat.le_of_ble_eq_true rfl)) dX12_build_2 ⟨Nat.le_of_ble_eq_true rfl, Nat.le_of_ble_eq_true rfl⟩).run (fun r_1 hw_2 => ?_)
  refine qi_as (y := 0) (hw_2) ?_
  refine lv_if_eq (tgt := 25) hx hb dX12_build_5 (by decide) (fun _ => ?_) (fun c_3 => absurd c_3 (by decide))
  refine lv_iconst (v := (-1)) hx hb dX12_build_25 (by decide) ?_
  rw [hQ]
  exact W.iret (v := (-1)) hx hb hr (fun t ht hW => ⟨(-1), rfl, rfl, by rw [ht]⟩) (fun q hq => absurd hq List.not_mem_nil) dX12_build_26

set_option maxHeartbeats 4000000 in
set_option maxRecDepth 100000 in
theorem c_mLine (l : Launch) (dC : Nat → ClassId) (dI : Nat → Nat → Nat) (m0 aS aI aB aT aG aO aN aD aY : Nat) (cS : ClassId) (x y : Int32) : Met l yX12_line wsX12_line ({ frames := 2, cells := 0, slots := 0, locals := 43 } : Room) (va_Pc [.ref m0, .int x, .int y] (fun U => va_P (dC, dI) vwCl [(m0, .inr (14, [.int 0, .ref aS, .ref aI, .int 0, .int 0, .int 0, .int 0, .int 0, .int 0, .ref aB, .ref aT, .int 0, .int 0, .ref aG, .ref aO, .ref aN, .ref aD, .long 0, .ref aY, .int 0, .int 0, .int 0, .int 0])), (aS, .inl (cS, 901, .inl s0))] U.heap ∧ va_K (dC, dI) vwCl [(cS, .int)] U)) (vp_Si (fun r => r = -1)) 0 0 (fun _ => False) := by
  refine met_ofQ (cc := cX12_line) (maxL := 6) (ret := (some .int)) (by decide) rfl ?_
  intro p e s m args below meth c s₁ Q B hml hv hQ
  obtain ⟨rfl, hP, hK⟩ := hv
  have hx := B.exec
  have hb := B.bytes
  have hr := B.returns
  have hts := atoms_spec (ws := wsX12_line) B.pre
  have hown : s.vm.findClass RX12 = some m.cls := findClass_of_methodNamed B.named
  have hlocks := B.notSynchronized
  obtain ⟨A, hAe⟩ : ∃ A : Nat → Prop, A = fun _ => False := ⟨_, rfl⟩
  rw [← hAe] at hQ
  have hS : va_S A s.heap s.heap [] := va_S.rf
  have hl := lv_entry [.ref m0, .int x, .int y] (n := 6) (Nat.le_of_ble_eq_true rfl)
  rw [lg_entry_eq]
  generalize (lg_sl [.ref m0, .int x, .int y] ++ List.replicate (6 - (lg_sl [.ref m0, .int x, .int y]).length) Slot.unset).toArray = ls at hl ⊢
  generalize hag : ([.ref m0, .int x, .int y] : List Value).toArray = args at hts hQ ⊢
  have hl : lv_has ls 6 [(0, .ref m0), (1, .int x), (2, .int y)] := hl
  refine lv_aload_n hx hb dX12_line_0 rfl (lv_at hl 0 rfl) ?_
  refine lv_iload_n hx hb dX12_line_1 rfl (lv_at hl 1 rfl) ?_
  have hPc := hP.sub (ws' := [(m0, .inr (14, [.int 0, .ref aS, .ref aI, .int 0, .int 0, .int 0, .int 0, .int 0, .int 0, .ref aB, .ref aT, .int 0, .int 0, .ref aG, .ref aO, .ref aN, .ref aD, .long 0, .ref aY, .int 0, .int 0, .int 0, .int 0])), (aS, .inl (cS, 901, .inl s0))]) [0, 1] rfl
  have hKc := hK.sub (tys' := [(cS, .int)]) [0] rfl
  refine vp_callSi (va_runV (As := [.int x]) (rest := []) ⟨hx, hb, hml, hown, hts⟩ (c_mHeap0 l dC dI m0 aS aI aB aT aG aO aN aD aY cS x) (cwV 1 hts gX12_line_X12_isHeap rfl rfl rfl (by decide +kernel) ⟨Nat.le_of_ble_eq_true rfl, Nat.le_of_ble_eq_true rfl⟩) ⟨fun a U g mk q => by obtain ⟨q0, qP, qK⟩ := q; exact ⟨q0, qP, va_K.moved (u := U) (U := U.calling g mk a) (Vm.Alike.refl U.vm) qK⟩, va_recv hK hP (ci := 14) (q0 := 0) rfl rfl, fun U hU hW => ⟨rfl, by rw [hU]; exact hPc, va_K.moved hW.alike hKc⟩⟩ rfl rfl hl.1 rfl (lv_room (Nat.le_of_ble_eq_true rfl)) dX12_line_2 ⟨Nat.le_of_ble_eq_true rfl, Nat.le_of_ble_eq_true rfl⟩).run (fun r_1 hw_2 => ?_)
  refine qi_as (y := 0) (hw_2) ?_
  refine lv_if_ne (tgt := 10) hx hb dX12_line_5 (by decide) (fun c_3 => absurd c_3 (by decide)) (fun _ => ?_)
  refine lv_iconst (v := (-1)) hx hb dX12_line_8 (by decide) ?_
  rw [hQ]
  exact W.iret (v := (-1)) hx hb hr (fun t ht hW => ⟨(-1), rfl, rfl, by rw [ht]⟩) (fun q hq => absurd hq List.not_mem_nil) dX12_line_9

set_option maxHeartbeats 4000000 in
set_option maxRecDepth 100000 in
theorem c_mNext (l : Launch) (dC : Nat → ClassId) (dI : Nat → Nat → Nat) (m0 aS aI aB aT aG aO aN aD aY : Nat) (cS : ClassId) (x y z : Int32) : Met l yX12_next wsX12_next ({ frames := 2, cells := 0, slots := 0, locals := 43 } : Room) (va_Pc [.ref m0, .int x, .int y, .int z] (fun U => va_P (dC, dI) vwCl [(m0, .inr (14, [.int 0, .ref aS, .ref aI, .int 0, .int 0, .int 0, .int 0, .int 0, .int 0, .ref aB, .ref aT, .int 0, .int 0, .ref aG, .ref aO, .ref aN, .ref aD, .long 0, .ref aY, .int 0, .int 0, .int 0, .int 0])), (aS, .inl (cS, 901, .inl s0))] U.heap ∧ va_K (dC, dI) vwCl [(cS, .int)] U)) (vp_Si (fun r => r = -1)) 0 0 (fun _ => False) := by
  refine met_ofQ (cc := cX12_next) (maxL := 9) (ret := (some .int)) (by decide) rfl ?_
  intro p e s m args below meth c s₁ Q B hml hv hQ
  obtain ⟨rfl, hP, hK⟩ := hv
  have hx := B.exec
  have hb := B.bytes
  have hr := B.returns
  have hts := atoms_spec (ws := wsX12_next) B.pre
  have hown : s.vm.findClass RX12 = some m.cls := findClass_of_methodNamed B.named
  have hlocks := B.notSynchronized
  obtain ⟨A, hAe⟩ : ∃ A : Nat → Prop, A = fun _ => False := ⟨_, rfl⟩
  rw [← hAe] at hQ
  have hS : va_S A s.heap s.heap [] := va_S.rf
  have hl := lv_entry [.ref m0, .int x, .int y, .int z] (n := 9) (Nat.le_of_ble_eq_true rfl)
  rw [lg_entry_eq]
  generalize (lg_sl [.ref m0, .int x, .int y, .int z] ++ List.replicate (9 - (lg_sl [.ref m0, .int x, .int y, .int z]).length) Slot.unset).toArray = ls at hl ⊢
  generalize hag : ([.ref m0, .int x, .int y, .int z] : List Value).toArray = args at hts hQ ⊢
  have hl : lv_has ls 9 [(0, .ref m0), (1, .int x), (2, .int y), (3, .int z)] := hl
  refine lv_aload_n hx hb dX12_next_0 rfl (lv_at hl 0 rfl) ?_
  refine lv_iload_n hx hb dX12_next_1 rfl (lv_at hl 1 rfl) ?_
  have hPc := hP.sub (ws' := [(m0, .inr (14, [.int 0, .ref aS, .ref aI, .int 0, .int 0, .int 0, .int 0, .int 0, .int 0, .ref aB, .ref aT, .int 0, .int 0, .ref aG, .ref aO, .ref aN, .ref aD, .long 0, .ref aY, .int 0, .int 0, .int 0, .int 0])), (aS, .inl (cS, 901, .inl s0))]) [0, 1] rfl
  have hKc := hK.sub (tys' := [(cS, .int)]) [0] rfl
  refine vp_callSi (va_runV (As := [.int x]) (rest := []) ⟨hx, hb, hml, hown, hts⟩ (c_mHeap0 l dC dI m0 aS aI aB aT aG aO aN aD aY cS x) (cwV 1 hts gX12_next_X12_isHeap rfl rfl rfl (by decide +kernel) ⟨Nat.le_of_ble_eq_true rfl, Nat.le_of_ble_eq_true rfl⟩) ⟨fun a U g mk q => by obtain ⟨q0, qP, qK⟩ := q; exact ⟨q0, qP, va_K.moved (u := U) (U := U.calling g mk a) (Vm.Alike.refl U.vm) qK⟩, va_recv hK hP (ci := 14) (q0 := 0) rfl rfl, fun U hU hW => ⟨rfl, by rw [hU]; exact hPc, va_K.moved hW.alike hKc⟩⟩ rfl rfl hl.1 rfl (lv_room (Nat.le_of_ble_eq_true rfl)) dX12_next_2 ⟨Nat.le_of_ble_eq_true rfl, Nat.le_of_ble_eq_true rfl⟩).run (fun r_1 hw_2 => ?_)
  refine qi_as (y := 0) (hw_2) ?_
  refine lv_if_eq (tgt := 24) hx hb dX12_next_5 (by decide) (fun _ => ?_) (fun c_3 => absurd c_3 (by decide))
  refine lv_iconst (v := (-1)) hx hb dX12_next_24 (by decide) ?_
  rw [hQ]
  exact W.iret (v := (-1)) hx hb hr (fun t ht hW => ⟨(-1), rfl, rfl, by rw [ht]⟩) (fun q hq => absurd hq List.not_mem_nil) dX12_next_25

set_option maxHeartbeats 4000000 in
set_option maxRecDepth 100000 in
theorem c_mAs (l : Launch) (dC : Nat → ClassId) (dI : Nat → Nat → Nat) (m0 aS aI aB aT aG aO aN aD aY : Nat) (cS : ClassId) (x y : Int32) : Met l yX12_as wsX12_as ({ frames := 2, cells := 0, slots := 0, locals := 43 } : Room) (va_Pc [.ref m0, .int x, .int y] (fun U => va_P (dC, dI) vwCl [(m0, .inr (14, [.int 0, .ref aS, .ref aI, .int 0, .int 0, .int 0, .int 0, .int 0, .int 0, .ref aB, .ref aT, .int 0, .int 0, .ref aG, .ref aO, .ref aN, .ref aD, .long 0, .ref aY, .int 0, .int 0, .int 0, .int 0])), (aS, .inl (cS, 901, .inl s0))] U.heap ∧ va_K (dC, dI) vwCl [(cS, .int)] U)) (vp_Si (fun r => r = -1)) 0 0 (fun _ => False) := by
  refine met_ofQ (cc := cX12_as) (maxL := 3) (ret := (some .int)) (by decide) rfl ?_
  intro p e s m args below meth c s₁ Q B hml hv hQ
  obtain ⟨rfl, hP, hK⟩ := hv
  have hx := B.exec
  have hb := B.bytes
  have hr := B.returns
  have hts := atoms_spec (ws := wsX12_as) B.pre
  have hown : s.vm.findClass RX12 = some m.cls := findClass_of_methodNamed B.named
  have hlocks := B.notSynchronized
  obtain ⟨A, hAe⟩ : ∃ A : Nat → Prop, A = fun _ => False := ⟨_, rfl⟩
  rw [← hAe] at hQ
  have hS : va_S A s.heap s.heap [] := va_S.rf
  have hl := lv_entry [.ref m0, .int x, .int y] (n := 3) (Nat.le_of_ble_eq_true rfl)
  rw [lg_entry_eq]
  generalize (lg_sl [.ref m0, .int x, .int y] ++ List.replicate (3 - (lg_sl [.ref m0, .int x, .int y]).length) Slot.unset).toArray = ls at hl ⊢
  generalize hag : ([.ref m0, .int x, .int y] : List Value).toArray = args at hts hQ ⊢
  have hl : lv_has ls 3 [(0, .ref m0), (1, .int x), (2, .int y)] := hl
  refine lv_aload_n hx hb dX12_as_0 rfl (lv_at hl 0 rfl) ?_
  refine lv_iload_n hx hb dX12_as_1 rfl (lv_at hl 1 rfl) ?_
  have hPc := hP.sub (ws' := [(m0, .inr (14, [.int 0, .ref aS, .ref aI, .int 0, .int 0, .int 0, .int 0, .int 0, .int 0, .ref aB, .ref aT, .int 0, .int 0, .ref aG, .ref aO, .ref aN, .ref aD, .long 0, .ref aY, .int 0, .int 0, .int 0, .int 0])), (aS, .inl (cS, 901, .inl s0))]) [0, 1] rfl
  have hKc := hK.sub (tys' := [(cS, .int)]) [0] rfl
  refine vp_callSi (va_runV (As := [.int x]) (rest := []) ⟨hx, hb, hml, hown, hts⟩ (c_mHeap0 l dC dI m0 aS aI aB aT aG aO aN aD aY cS x) (cwV 1 hts gX12_as_X12_isHeap rfl rfl rfl (by decide +kernel) ⟨Nat.le_of_ble_eq_true rfl, Nat.le_of_ble_eq_true rfl⟩) ⟨fun a U g mk q => by obtain ⟨q0, qP, qK⟩ := q; exact ⟨q0, qP, va_K.moved (u := U) (U := U.calling g mk a) (Vm.Alike.refl U.vm) qK⟩, va_recv hK hP (ci := 14) (q0 := 0) rfl rfl, fun U hU hW => ⟨rfl, by rw [hU]; exact hPc, va_K.moved hW.alike hKc⟩⟩ rfl rfl hl.1 rfl (lv_room (Nat.le_of_ble_eq_true rfl)) dX12_as_2 ⟨Nat.le_of_ble_eq_true rfl, Nat.le_of_ble_eq_true rfl⟩).run (fun r_1 hw_2 => ?_)
  refine qi_as (y := 0) (hw_2) ?_
  refine lv_if_eq (tgt := 18) hx hb dX12_as_5 (by decide) (fun _ => ?_) (fun c_3 => absurd c_3 (by decide))
  refine lv_iconst (v := (-1)) hx hb dX12_as_18 (by decide) ?_
  rw [hQ]
  exact W.iret (v := (-1)) hx hb hr (fun t ht hW => ⟨(-1), rfl, rfl, by rw [ht]⟩) (fun q hq => absurd hq List.not_mem_nil) dX12_as_19

theorem kc_mLooked_0 : ∀ w ∈ wsX120, w ∈ wsX12_looked := by decide +kernel
theorem kc_mLooked_1 : (.fieldLink RX12 9 "MistHeapsModel" "s" "[I" : Cond) ∈ wsX12_looked := by decide +kernel
set_option maxHeartbeats 4000000 in
set_option maxRecDepth 100000 in
theorem c_mLooked (l : Launch) (dC : Nat → ClassId) (dI : Nat → Nat → Nat) (m0 aS aI aB aT aG aO aN aD aY : Nat) (cS : ClassId) : Met l yX12_looked wsX12_looked ({ frames := 0, cells := 0, slots := 0, locals := 0 } : Room) (va_Pc [.ref m0] (fun U => va_P (dC, dI) vwCl [(m0, .inr (14, [.int 0, .ref aS, .ref aI, .int 0, .int 0, .int 0, .int 0, .int 0, .int 0, .ref aB, .ref aT, .int 0, .int 0, .ref aG, .ref aO, .ref aN, .ref aD, .long 0, .ref aY, .int 0, .int 0, .int 0, .int 0])), (aS, .inl (cS, 901, .inl s0))] U.heap ∧ va_K (dC, dI) vwCl [(cS, .int)] U)) (vp_Si (fun r => r = -5)) 0 0 (fun _ => False) := by
  refine met_ofQ (cc := cX12_looked) (maxL := 2) (ret := (some .int)) (by decide) rfl ?_
  intro p e s m args below meth c s₁ Q B hml hv hQ
  obtain ⟨rfl, hP, hK⟩ := hv
  have hx := B.exec
  have hb := B.bytes
  have hr := B.returns
  have hts := atoms_spec (ws := wsX12_looked) B.pre
  have hown : s.vm.findClass RX12 = some m.cls := findClass_of_methodNamed B.named
  have hlocks := B.notSynchronized
  obtain ⟨A, hAe⟩ : ∃ A : Nat → Prop, A = fun _ => False := ⟨_, rfl⟩
  rw [← hAe] at hQ
  have hS : va_S A s.heap s.heap [] := va_S.rf
  have hl := lv_entry [.ref m0] (n := 2) (Nat.le_of_ble_eq_true rfl)
  rw [lg_entry_eq]
  generalize (lg_sl [.ref m0] ++ List.replicate (2 - (lg_sl [.ref m0]).length) Slot.unset).toArray = ls at hl ⊢
  generalize hag : ([.ref m0] : List Value).toArray = args at hts hQ ⊢
  have hl : lv_has ls 2 [(0, .ref m0)] := hl
  refine lv_iconst (v := 1) hx hb dX12_looked_0 (by decide) ?_
  refine lv_istore_n (lv' := [(1, .int 1), (0, .ref m0)]) hx hb dX12_looked_1 rfl hl (by decide) rfl (fun ls hl => ?_)
  refine lv_iload_n hx hb dX12_looked_2 rfl (lv_at hl 0 rfl) ?_
  refine lv_aload_n hx hb dX12_looked_3 rfl (lv_at hl 1 rfl) ?_
  refine va_get (D := (dC, dI)) (ci := 14) (v := .ref aS) (C := RX12) (T := TX12) (N := 23) hx hb hts kc_mLooked_0 hown hK hP 0 rfl rfl 1 (by decide) (hts (.fieldLink RX12 9 "MistHeapsModel" "s" "[I") kc_mLooked_1) (fun _ h9 => h9) rfl dX12_looked_4 ?_
  refine lv_iconst (v := 3) hx hb dX12_looked_7 (by decide) ?_
  refine va_iald hx hb hK hP 1 0 rfl rfl (vp_in_nI (n := 3) (N := 901) (by omega) (by omega)) dX12_looked_8 ?_
  refine qi_as (y := 0) (rfl) ?_
  refine lv_icmp_ge (tgt := 47) hx hb dX12_looked_9 (by decide) (fun _ => ?_) (fun c_1 => absurd c_1 (by decide))
  refine lv_bipush (v := (-5)) hx hb dX12_looked_47 (by decide) ?_
  rw [hQ]
  exact W.iret (v := (-5)) hx hb hr (fun t ht hW => ⟨(-5), rfl, rfl, by rw [ht]⟩) (fun q hq => absurd hq List.not_mem_nil) dX12_looked_49

theorem kc_mUndo_0 : ∀ w ∈ wsX120, w ∈ wsX12_undo := by decide +kernel
theorem kc_mUndo_1 : (.fieldLink RX12 282 "MistHeapsModel" "hasImage" "Z" : Cond) ∈ wsX12_undo := by decide +kernel
set_option maxHeartbeats 4000000 in
set_option maxRecDepth 100000 in
theorem c_mUndo (l : Launch) (dC : Nat → ClassId) (dI : Nat → Nat → Nat) (m0 aS aI aB aT aG aO aN aD aY : Nat) (cS : ClassId) : Met l yX12_undo wsX12_undo ({ frames := 0, cells := 0, slots := 0, locals := 0 } : Room) (va_Pc [.ref m0] (fun U => va_P (dC, dI) vwCl [(m0, .inr (14, [.int 0, .ref aS, .ref aI, .int 0, .int 0, .int 0, .int 0, .int 0, .int 0, .ref aB, .ref aT, .int 0, .int 0, .ref aG, .ref aO, .ref aN, .ref aD, .long 0, .ref aY, .int 0, .int 0, .int 0, .int 0])), (aS, .inl (cS, 901, .inl s0))] U.heap ∧ va_K (dC, dI) vwCl [(cS, .int)] U)) (vp_Si (fun r => r = -3)) 0 0 (fun _ => False) := by
  refine met_ofQ (cc := cX12_undo) (maxL := 2) (ret := (some .int)) (by decide) rfl ?_
  intro p e s m args below meth c s₁ Q B hml hv hQ
  obtain ⟨rfl, hP, hK⟩ := hv
  have hx := B.exec
  have hb := B.bytes
  have hr := B.returns
  have hts := atoms_spec (ws := wsX12_undo) B.pre
  have hown : s.vm.findClass RX12 = some m.cls := findClass_of_methodNamed B.named
  have hlocks := B.notSynchronized
  obtain ⟨A, hAe⟩ : ∃ A : Nat → Prop, A = fun _ => False := ⟨_, rfl⟩
  rw [← hAe] at hQ
  have hS : va_S A s.heap s.heap [] := va_S.rf
  have hl := lv_entry [.ref m0] (n := 2) (Nat.le_of_ble_eq_true rfl)
  rw [lg_entry_eq]
  generalize (lg_sl [.ref m0] ++ List.replicate (2 - (lg_sl [.ref m0]).length) Slot.unset).toArray = ls at hl ⊢
  generalize hag : ([.ref m0] : List Value).toArray = args at hts hQ ⊢
  have hl : lv_has ls 2 [(0, .ref m0)] := hl
  refine lv_aload_n hx hb dX12_undo_0 rfl (lv_at hl 0 rfl) ?_
  refine va_get (D := (dC, dI)) (ci := 14) (v := .int 0) (C := RX12) (T := TX12) (N := 23) hx hb hts kc_mUndo_0 hown hK hP 0 rfl rfl 3 (by decide) (hts (.fieldLink RX12 282 "MistHeapsModel" "hasImage" "Z") kc_mUndo_1) (fun _ h9 => h9) rfl dX12_undo_1 ?_
  refine lv_if_ne (tgt := 10) hx hb dX12_undo_4 (by decide) (fun c_1 => absurd c_1 (by decide)) (fun _ => ?_)
  refine lv_bipush (v := (-3)) hx hb dX12_undo_7 (by decide) ?_
  rw [hQ]
  exact W.iret (v := (-3)) hx hb hr (fun t ht hW => ⟨(-3), rfl, rfl, by rw [ht]⟩) (fun q hq => absurd hq List.not_mem_nil) dX12_undo_9

theorem kc_mCount_0 : ∀ w ∈ wsX120, w ∈ wsX12_count := by decide +kernel
theorem kc_mCount_1 : (.fieldLink RX12 9 "MistHeapsModel" "s" "[I" : Cond) ∈ wsX12_count := by decide +kernel
theorem kc_mCount_2 : (.fieldLink RX12 246 "MistHeapsModel" "ran" "I" : Cond) ∈ wsX12_count := by decide +kernel
set_option maxHeartbeats 4000000 in
set_option maxRecDepth 100000 in
theorem c_mCount (l : Launch) (dC : Nat → ClassId) (dI : Nat → Nat → Nat) (m0 aS aI aB aT aG aO aN aD aY : Nat) (cS : ClassId) (x : Int32) : Met l yX12_count wsX12_count ({ frames := 0, cells := 0, slots := 0, locals := 0 } : Room) (va_Pc [.ref m0, .int x] (fun U => va_P (dC, dI) vwCl [(m0, .inr (14, [.int 0, .ref aS, .ref aI, .int 0, .int 0, .int 0, .int 0, .int 0, .int 0, .ref aB, .ref aT, .int 0, .int 0, .ref aG, .ref aO, .ref aN, .ref aD, .long 0, .ref aY, .int 0, .int 0, .int 0, .int 0])), (aS, .inl (cS, 901, .inl s0))] U.heap ∧ va_K (dC, dI) vwCl [(cS, .int)] U)) (vp_Si (fun r => r = f_count x)) 0 0 (fun _ => False) := by
  refine met_ofQ (cc := cX12_count) (maxL := 2) (ret := (some .int)) (by decide) rfl ?_
  intro p e s m args below meth c s₁ Q B hml hv hQ
  obtain ⟨rfl, hP, hK⟩ := hv
  have hx := B.exec
  have hb := B.bytes
  have hr := B.returns
  have hts := atoms_spec (ws := wsX12_count) B.pre
  have hown : s.vm.findClass RX12 = some m.cls := findClass_of_methodNamed B.named
  have hlocks := B.notSynchronized
  obtain ⟨A, hAe⟩ : ∃ A : Nat → Prop, A = fun _ => False := ⟨_, rfl⟩
  rw [← hAe] at hQ
  have hS : va_S A s.heap s.heap [] := va_S.rf
  have hl := lv_entry [.ref m0, .int x] (n := 2) (Nat.le_of_ble_eq_true rfl)
  rw [lg_entry_eq]
  generalize (lg_sl [.ref m0, .int x] ++ List.replicate (2 - (lg_sl [.ref m0, .int x]).length) Slot.unset).toArray = ls at hl ⊢
  generalize hag : ([.ref m0, .int x] : List Value).toArray = args at hts hQ ⊢
  have hl : lv_has ls 2 [(0, .ref m0), (1, .int x)] := hl
  refine lv_iload_n hx hb dX12_count_0 rfl (lv_at hl 1 rfl) ?_
  by_cases c_1_0 : x = 0
  · skip
    refine lv_tableIn (tgt := 40) hx hb dX12_count_1 (by rw [c_1_0]; decide) (by rw [c_1_0]; decide) (by rw [c_1_0]; rfl) (by decide) ?_
    refine lv_aload_n hx hb dX12_count_40 rfl (lv_at hl 0 rfl) ?_
    refine va_get (D := (dC, dI)) (ci := 14) (v := .ref aS) (C := RX12) (T := TX12) (N := 23) hx hb hts kc_mCount_0 hown hK hP 0 rfl rfl 1 (by decide) (hts (.fieldLink RX12 9 "MistHeapsModel" "s" "[I") kc_mCount_1) (fun _ h9 => h9) rfl dX12_count_41 ?_
    refine lv_iconst (v := 0) hx hb dX12_count_44 (by decide) ?_
    refine va_iald hx hb hK hP 1 0 rfl rfl (vp_in_nI (n := 0) (N := 901) (by omega) (by omega)) dX12_count_45 ?_
    refine qi_as (y := 0) (rfl) ?_
    rw [hQ]
    exact W.iret (v := 0) hx hb hr (fun t ht hW => ⟨0, rfl, by simp only [f_count]; (repeat' split) <;> simp_all, by rw [ht]⟩) (fun q hq => absurd hq List.not_mem_nil) dX12_count_46
  by_cases c_1_1 : x = 1
  · skip
    refine lv_tableIn (tgt := 47) hx hb dX12_count_1 (by rw [c_1_1]; decide) (by rw [c_1_1]; decide) (by rw [c_1_1]; rfl) (by decide) ?_
    refine lv_aload_n hx hb dX12_count_47 rfl (lv_at hl 0 rfl) ?_
    refine va_get (D := (dC, dI)) (ci := 14) (v := .ref aS) (C := RX12) (T := TX12) (N := 23) hx hb hts kc_mCount_0 hown hK hP 0 rfl rfl 1 (by decide) (hts (.fieldLink RX12 9 "MistHeapsModel" "s" "[I") kc_mCount_1) (fun _ h9 => h9) rfl dX12_count_48 ?_
    refine lv_iconst (v := 1) hx hb dX12_count_51 (by decide) ?_
    refine va_iald hx hb hK hP 1 0 rfl rfl (vp_in_nI (n := 1) (N := 901) (by omega) (by omega)) dX12_count_52 ?_
    refine qi_as (y := 0) (rfl) ?_
    rw [hQ]
    exact W.iret (v := 0) hx hb hr (fun t ht hW => ⟨0, rfl, by simp only [f_count]; (repeat' split) <;> simp_all, by rw [ht]⟩) (fun q hq => absurd hq List.not_mem_nil) dX12_count_53
  by_cases c_1_2 : x = 2
  · skip
    refine lv_tableIn (tgt := 54) hx hb dX12_count_1 (by rw [c_1_2]; decide) (by rw [c_1_2]; decide) (by rw [c_1_2]; rfl) (by decide) ?_
    refine lv_aload_n hx hb dX12_count_54 rfl (lv_at hl 0 rfl) ?_
    refine va_get (D := (dC, dI)) (ci := 14) (v := .ref aS) (C := RX12) (T := TX12) (N := 23) hx hb hts kc_mCount_0 hown hK hP 0 rfl rfl 1 (by decide) (hts (.fieldLink RX12 9 "MistHeapsModel" "s" "[I") kc_mCount_1) (fun _ h9 => h9) rfl dX12_count_55 ?_
    refine lv_iconst (v := 2) hx hb dX12_count_58 (by decide) ?_
    refine va_iald hx hb hK hP 1 0 rfl rfl (vp_in_nI (n := 2) (N := 901) (by omega) (by omega)) dX12_count_59 ?_
    refine qi_as (y := 0) (rfl) ?_
    rw [hQ]
    exact W.iret (v := 0) hx hb hr (fun t ht hW => ⟨0, rfl, by simp only [f_count]; (repeat' split) <;> simp_all, by rw [ht]⟩) (fun q hq => absurd hq List.not_mem_nil) dX12_count_60
  by_cases c_1_3 : x = 3
  · skip
    refine lv_tableIn (tgt := 61) hx hb dX12_count_1 (by rw [c_1_3]; decide) (by rw [c_1_3]; decide) (by rw [c_1_3]; rfl) (by decide) ?_
    refine lv_aload_n hx hb dX12_count_61 rfl (lv_at hl 0 rfl) ?_
    refine va_get (D := (dC, dI)) (ci := 14) (v := .ref aS) (C := RX12) (T := TX12) (N := 23) hx hb hts kc_mCount_0 hown hK hP 0 rfl rfl 1 (by decide) (hts (.fieldLink RX12 9 "MistHeapsModel" "s" "[I") kc_mCount_1) (fun _ h9 => h9) rfl dX12_count_62 ?_
    refine lv_iconst (v := 3) hx hb dX12_count_65 (by decide) ?_
    refine va_iald hx hb hK hP 1 0 rfl rfl (vp_in_nI (n := 3) (N := 901) (by omega) (by omega)) dX12_count_66 ?_
    refine qi_as (y := 0) (rfl) ?_
    rw [hQ]
    exact W.iret (v := 0) hx hb hr (fun t ht hW => ⟨0, rfl, by simp only [f_count]; (repeat' split) <;> simp_all, by rw [ht]⟩) (fun q hq => absurd hq List.not_mem_nil) dX12_count_67
  by_cases c_1_4 : x = 4
  · skip
    refine lv_tableIn (tgt := 68) hx hb dX12_count_1 (by rw [c_1_4]; decide) (by rw [c_1_4]; decide) (by rw [c_1_4]; rfl) (by decide) ?_
    refine lv_aload_n hx hb dX12_count_68 rfl (lv_at hl 0 rfl) ?_
    refine va_get (D := (dC, dI)) (ci := 14) (v := .ref aS) (C := RX12) (T := TX12) (N := 23) hx hb hts kc_mCount_0 hown hK hP 0 rfl rfl 1 (by decide) (hts (.fieldLink RX12 9 "MistHeapsModel" "s" "[I") kc_mCount_1) (fun _ h9 => h9) rfl dX12_count_69 ?_
    refine lv_iconst (v := 4) hx hb dX12_count_72 (by decide) ?_
    refine va_iald hx hb hK hP 1 0 rfl rfl (vp_in_nI (n := 4) (N := 901) (by omega) (by omega)) dX12_count_73 ?_
    refine qi_as (y := 0) (rfl) ?_
    rw [hQ]
    exact W.iret (v := 0) hx hb hr (fun t ht hW => ⟨0, rfl, by simp only [f_count]; (repeat' split) <;> simp_all, by rw [ht]⟩) (fun q hq => absurd hq List.not_mem_nil) dX12_count_74
  by_cases c_1_5 : x = 5
  · skip
    refine lv_tableIn (tgt := 75) hx hb dX12_count_1 (by rw [c_1_5]; decide) (by rw [c_1_5]; decide) (by rw [c_1_5]; rfl) (by decide) ?_
    refine lv_aload_n hx hb dX12_count_75 rfl (lv_at hl 0 rfl) ?_
    refine va_get (D := (dC, dI)) (ci := 14) (v := .int 0) (C := RX12) (T := TX12) (N := 23) hx hb hts kc_mCount_0 hown hK hP 0 rfl rfl 19 (by decide) (hts (.fieldLink RX12 246 "MistHeapsModel" "ran" "I") kc_mCount_2) (fun _ h9 => h9) rfl dX12_count_76 ?_
    rw [hQ]
    exact W.iret (v := 0) hx hb hr (fun t ht hW => ⟨0, rfl, by simp only [f_count]; (repeat' split) <;> simp_all, by rw [ht]⟩) (fun q hq => absurd hq List.not_mem_nil) dX12_count_79
  refine lv_tableOut (tgt := 80) hx hb dX12_count_1 (sw_out 0 5 x (fun k hk => by
    match k, hk with
    | 0, _ => exact c_1_0
    | 1, _ => exact c_1_1
    | 2, _ => exact c_1_2
    | 3, _ => exact c_1_3
    | 4, _ => exact c_1_4
    | 5, _ => exact c_1_5
    | k + 6, hk => exact absurd hk (by omega))) (by decide) ?_
  refine lv_iconst (v := (-1)) hx hb dX12_count_80 (by decide) ?_
  rw [hQ]
  exact W.iret (v := (-1)) hx hb hr (fun t ht hW => ⟨(-1), rfl, by simp only [f_count]; (repeat' split) <;> simp_all, by rw [ht]⟩) (fun q hq => absurd hq List.not_mem_nil) dX12_count_81

theorem kc_mTrace_0 : ∀ w ∈ wsX120, w ∈ wsX12_trace := by decide +kernel
theorem kc_mTrace_1 : (.fieldLink RX12 246 "MistHeapsModel" "ran" "I" : Cond) ∈ wsX12_trace := by decide +kernel
set_option maxHeartbeats 4000000 in
set_option maxRecDepth 100000 in
theorem c_mTrace (l : Launch) (dC : Nat → ClassId) (dI : Nat → Nat → Nat) (m0 aS aI aB aT aG aO aN aD aY : Nat) (cS : ClassId) (x : Int32) : Met l yX12_trace wsX12_trace ({ frames := 1, cells := 0, slots := 0, locals := 22 } : Room) (va_Pc [.ref m0, .int x] (fun U => va_P (dC, dI) vwCl [(m0, .inr (14, [.int 0, .ref aS, .ref aI, .int 0, .int 0, .int 0, .int 0, .int 0, .int 0, .ref aB, .ref aT, .int 0, .int 0, .ref aG, .ref aO, .ref aN, .ref aD, .long 0, .ref aY, .int 0, .int 0, .int 0, .int 0])), (aS, .inl (cS, 901, .inl s0))] U.heap ∧ va_K (dC, dI) vwCl [(cS, .int)] U)) (vp_Si (fun r => r = -1)) 0 0 (fun _ => False) := by
  refine met_ofQ (cc := cX12_trace) (maxL := 2) (ret := (some .int)) (by decide) rfl ?_
  intro p e s m args below meth c s₁ Q B hml hv hQ
  obtain ⟨rfl, hP, hK⟩ := hv
  have hx := B.exec
  have hb := B.bytes
  have hr := B.returns
  have hts := atoms_spec (ws := wsX12_trace) B.pre
  have hown : s.vm.findClass RX12 = some m.cls := findClass_of_methodNamed B.named
  have hlocks := B.notSynchronized
  obtain ⟨A, hAe⟩ : ∃ A : Nat → Prop, A = fun _ => False := ⟨_, rfl⟩
  rw [← hAe] at hQ
  have hS : va_S A s.heap s.heap [] := va_S.rf
  have hl := lv_entry [.ref m0, .int x] (n := 2) (Nat.le_of_ble_eq_true rfl)
  rw [lg_entry_eq]
  generalize (lg_sl [.ref m0, .int x] ++ List.replicate (2 - (lg_sl [.ref m0, .int x]).length) Slot.unset).toArray = ls at hl ⊢
  generalize hag : ([.ref m0, .int x] : List Value).toArray = args at hts hQ ⊢
  have hl : lv_has ls 2 [(0, .ref m0), (1, .int x)] := hl
  refine lv_iload_n hx hb dX12_trace_0 rfl (lv_at hl 1 rfl) ?_
  refine lv_iconst (v := 0) hx hb dX12_trace_1 (by decide) ?_
  refine lv_aload_n hx hb dX12_trace_2 rfl (lv_at hl 0 rfl) ?_
  refine va_get (D := (dC, dI)) (ci := 14) (v := .int 0) (C := RX12) (T := TX12) (N := 23) hx hb hts kc_mTrace_0 hown hK hP 0 rfl rfl 19 (by decide) (hts (.fieldLink RX12 246 "MistHeapsModel" "ran" "I") kc_mTrace_1) (fun _ h9 => h9) rfl dX12_trace_3 ?_
  refine lv_bipush (v := 20) hx hb dX12_trace_6 (by decide) ?_
  refine lv_icmp_ge (tgt := 18) hx hb dX12_trace_8 (by decide) (fun c_1 => absurd c_1 (by decide)) (fun _ => ?_)
  refine lv_aload_n hx hb dX12_trace_11 rfl (lv_at hl 0 rfl) ?_
  refine va_get (D := (dC, dI)) (ci := 14) (v := .int 0) (C := RX12) (T := TX12) (N := 23) hx hb hts kc_mTrace_0 hown hK hP 0 rfl rfl 19 (by decide) (hts (.fieldLink RX12 246 "MistHeapsModel" "ran" "I") kc_mTrace_1) (fun _ h9 => h9) rfl dX12_trace_12 ?_
  refine lv_goto (tgt := 20) hx hb dX12_trace_15 (by decide) ?_
  refine lv_iconst (v := 1) hx hb dX12_trace_20 (by decide) ?_
  refine lv_isub hx hb dX12_trace_21 ?_
  refine qi_as (y := (-1)) (by decide) ?_
  refine vp_callSi (va_runS (As := [.int x, .int 0, .int (-1)]) (rest := []) ⟨hx, hb, hml, hown, hts⟩ (c_in l dC dI x 0 (-1)) (va_cwS 3 hts gX12_trace_X12_in rfl rfl rfl (by decide +kernel) ⟨Nat.le_of_ble_eq_true rfl, Nat.le_of_ble_eq_true rfl⟩) ⟨fun a U g mk q => ⟨q.1, trivial⟩, fun U hU hW => ⟨rfl, trivial⟩⟩ rfl rfl hl.1 rfl (lv_room (Nat.le_of_ble_eq_true rfl)) dX12_trace_22 ⟨Nat.le_of_ble_eq_true rfl, Nat.le_of_ble_eq_true rfl⟩).run (fun r_2 hw_3 => ?_)
  have hw_3 : r_2 = 0 := by rcases hw_3 with ⟨_, h1, h2⟩ | ⟨h, _⟩ <;> first | exact (no_in h1 h2).elim | exact h
  subst hw_3
  refine lv_if_eq (tgt := 37) hx hb dX12_trace_25 (by decide) (fun _ => ?_) (fun c_4 => absurd c_4 (by decide))
  refine lv_iconst (v := (-1)) hx hb dX12_trace_37 (by decide) ?_
  rw [hQ]
  exact W.iret (v := (-1)) hx hb hr (fun t ht hW => ⟨(-1), rfl, rfl, by rw [ht]⟩) (fun q hq => absurd hq List.not_mem_nil) dX12_trace_38

theorem kc_mSeesOf0_0 : ∀ w ∈ wsX120, w ∈ wsX12_seesOf := by decide +kernel
theorem kc_mSeesOf0_1 : (.fieldLink RX12 9 "MistHeapsModel" "s" "[I" : Cond) ∈ wsX12_seesOf := by decide +kernel
set_option maxHeartbeats 4000000 in
set_option maxRecDepth 100000 in
theorem c_mSeesOf0 (l : Launch) (dC : Nat → ClassId) (dI : Nat → Nat → Nat) (m0 aS aI aB aT aG aO aN aD aY : Nat) (cS : ClassId) (x : Int32) : Met l yX12_seesOf wsX12_seesOf ({ frames := 0, cells := 0, slots := 0, locals := 0 } : Room) (va_Pc [.ref m0, .int x] (fun U => va_P (dC, dI) vwCl [(m0, .inr (14, [.int 0, .ref aS, .ref aI, .int 0, .int 0, .int 0, .int 0, .int 0, .int 0, .ref aB, .ref aT, .int 0, .int 0, .ref aG, .ref aO, .ref aN, .ref aD, .long 0, .ref aY, .int 0, .int 0, .int 0, .int 0])), (aS, .inl (cS, 901, .inl s0))] U.heap ∧ va_K (dC, dI) vwCl [(cS, .int)] U)) (vp_Si (fun r => r = 0)) 0 0 (fun _ => False) := by
  refine met_ofQ (cc := cX12_seesOf) (maxL := 4) (ret := (some .int)) (by decide) rfl ?_
  intro p e s m args below meth c s₁ Q B hml hv hQ
  obtain ⟨rfl, hP, hK⟩ := hv
  have hx := B.exec
  have hb := B.bytes
  have hr := B.returns
  have hts := atoms_spec (ws := wsX12_seesOf) B.pre
  have hown : s.vm.findClass RX12 = some m.cls := findClass_of_methodNamed B.named
  have hlocks := B.notSynchronized
  obtain ⟨A, hAe⟩ : ∃ A : Nat → Prop, A = fun _ => False := ⟨_, rfl⟩
  rw [← hAe] at hQ
  have hS : va_S A s.heap s.heap [] := va_S.rf
  have hl := lv_entry [.ref m0, .int x] (n := 4) (Nat.le_of_ble_eq_true rfl)
  rw [lg_entry_eq]
  generalize (lg_sl [.ref m0, .int x] ++ List.replicate (4 - (lg_sl [.ref m0, .int x]).length) Slot.unset).toArray = ls at hl ⊢
  generalize hag : ([.ref m0, .int x] : List Value).toArray = args at hts hQ ⊢
  have hl : lv_has ls 4 [(0, .ref m0), (1, .int x)] := hl
  refine lv_iconst (v := 0) hx hb dX12_seesOf_0 (by decide) ?_
  refine lv_istore_n (lv' := [(2, .int 0), (0, .ref m0), (1, .int x)]) hx hb dX12_seesOf_1 rfl hl (by decide) rfl (fun ls hl => ?_)
  refine lv_iconst (v := 0) hx hb dX12_seesOf_2 (by decide) ?_
  refine lv_istore_n (lv' := [(3, .int 0), (2, .int 0), (0, .ref m0), (1, .int x)]) hx hb dX12_seesOf_3 rfl hl (by decide) rfl (fun ls hl => ?_)
  refine lv_iload_n hx hb dX12_seesOf_4 rfl (lv_at hl 0 rfl) ?_
  refine lv_aload_n hx hb dX12_seesOf_5 rfl (lv_at hl 2 rfl) ?_
  refine va_get (D := (dC, dI)) (ci := 14) (v := .ref aS) (C := RX12) (T := TX12) (N := 23) hx hb hts kc_mSeesOf0_0 hown hK hP 0 rfl rfl 1 (by decide) (hts (.fieldLink RX12 9 "MistHeapsModel" "s" "[I") kc_mSeesOf0_1) (fun _ h9 => h9) rfl dX12_seesOf_6 ?_
  refine lv_iconst (v := 0) hx hb dX12_seesOf_9 (by decide) ?_
  refine va_iald hx hb hK hP 1 0 rfl rfl (vp_in_nI (n := 0) (N := 901) (by omega) (by omega)) dX12_seesOf_10 ?_
  refine qi_as (y := 0) (rfl) ?_
  refine lv_icmp_ge (tgt := 39) hx hb dX12_seesOf_11 (by decide) (fun _ => ?_) (fun c_1 => absurd c_1 (by decide))
  refine lv_iload_n hx hb dX12_seesOf_39 rfl (lv_at hl 1 rfl) ?_
  rw [hQ]
  exact W.iret (v := 0) hx hb hr (fun t ht hW => ⟨0, rfl, rfl, by rw [ht]⟩) (fun q hq => absurd hq List.not_mem_nil) dX12_seesOf_40

set_option maxHeartbeats 4000000 in
set_option maxRecDepth 100000 in
theorem c_mSees (l : Launch) (dC : Nat → ClassId) (dI : Nat → Nat → Nat) (m0 aS aI aB aT aG aO aN aD aY : Nat) (cS : ClassId) (x : Int32) : Met l yX12_sees wsX12_sees ({ frames := 2, cells := 0, slots := 0, locals := 42 } : Room) (va_Pc [.ref m0, .int x] (fun U => va_P (dC, dI) vwCl [(m0, .inr (14, [.int 0, .ref aS, .ref aI, .int 0, .int 0, .int 0, .int 0, .int 0, .int 0, .ref aB, .ref aT, .int 0, .int 0, .ref aG, .ref aO, .ref aN, .ref aD, .long 0, .ref aY, .int 0, .int 0, .int 0, .int 0])), (aS, .inl (cS, 901, .inl s0))] U.heap ∧ va_K (dC, dI) vwCl [(cS, .int)] U)) (vp_Si (fun r => r = f_cell x)) 0 0 (fun _ => False) := by
  refine met_ofQ (cc := cX12_sees) (maxL := 2) (ret := (some .int)) (by decide) rfl ?_
  intro p e s m args below meth c s₁ Q B hml hv hQ
  obtain ⟨rfl, hP, hK⟩ := hv
  have hx := B.exec
  have hb := B.bytes
  have hr := B.returns
  have hts := atoms_spec (ws := wsX12_sees) B.pre
  have hown : s.vm.findClass RX12 = some m.cls := findClass_of_methodNamed B.named
  have hlocks := B.notSynchronized
  obtain ⟨A, hAe⟩ : ∃ A : Nat → Prop, A = fun _ => False := ⟨_, rfl⟩
  rw [← hAe] at hQ
  have hS : va_S A s.heap s.heap [] := va_S.rf
  have hl := lv_entry [.ref m0, .int x] (n := 2) (Nat.le_of_ble_eq_true rfl)
  rw [lg_entry_eq]
  generalize (lg_sl [.ref m0, .int x] ++ List.replicate (2 - (lg_sl [.ref m0, .int x]).length) Slot.unset).toArray = ls at hl ⊢
  generalize hag : ([.ref m0, .int x] : List Value).toArray = args at hts hQ ⊢
  have hl : lv_has ls 2 [(0, .ref m0), (1, .int x)] := hl
  refine lv_iload_n hx hb dX12_sees_0 rfl (lv_at hl 1 rfl) ?_
  refine vp_callSi (va_runS (As := [.int x]) (rest := []) ⟨hx, hb, hml, hown, hts⟩ (c_mCell l dC dI x) (va_cwS 1 hts gX12_sees_X12_isCell rfl rfl rfl (by decide +kernel) ⟨Nat.le_of_ble_eq_true rfl, Nat.le_of_ble_eq_true rfl⟩) ⟨fun a U g mk q => ⟨q.1, trivial⟩, fun U hU hW => ⟨rfl, trivial⟩⟩ rfl rfl hl.1 rfl (lv_room (Nat.le_of_ble_eq_true rfl)) dX12_sees_1 ⟨Nat.le_of_ble_eq_true rfl, Nat.le_of_ble_eq_true rfl⟩).run (fun r_1 hw_2 => ?_)
  rcases hw_2 with ⟨rfl, h_3, h_4⟩ | ⟨rfl, h_5⟩
  · skip
    refine lv_if_eq (tgt := 15) hx hb dX12_sees_4 (by decide) (fun c_6 => absurd c_6 (by decide)) (fun _ => ?_)
    refine lv_aload_n hx hb dX12_sees_7 rfl (lv_at hl 0 rfl) ?_
    refine lv_iload_n hx hb dX12_sees_8 rfl (lv_at hl 1 rfl) ?_
    have hPc := hP.sub (ws' := [(m0, .inr (14, [.int 0, .ref aS, .ref aI, .int 0, .int 0, .int 0, .int 0, .int 0, .int 0, .ref aB, .ref aT, .int 0, .int 0, .ref aG, .ref aO, .ref aN, .ref aD, .long 0, .ref aY, .int 0, .int 0, .int 0, .int 0])), (aS, .inl (cS, 901, .inl s0))]) [0, 1] rfl
    have hKc := hK.sub (tys' := [(cS, .int)]) [0] rfl
    refine vp_callSi (va_runV (As := [.int x]) (rest := []) ⟨hx, hb, hml, hown, hts⟩ (c_mSeesOf0 l dC dI m0 aS aI aB aT aG aO aN aD aY cS x) (cwV 1 hts gX12_sees_X12_seesOf rfl rfl rfl (by decide +kernel) ⟨Nat.le_of_ble_eq_true rfl, Nat.le_of_ble_eq_true rfl⟩) ⟨fun a U g mk q => by obtain ⟨q0, qP, qK⟩ := q; exact ⟨q0, qP, va_K.moved (u := U) (U := U.calling g mk a) (Vm.Alike.refl U.vm) qK⟩, va_recv hK hP (ci := 14) (q0 := 0) rfl rfl, fun U hU hW => ⟨rfl, by rw [hU]; exact hPc, va_K.moved hW.alike hKc⟩⟩ rfl rfl hl.1 rfl (lv_room (Nat.le_of_ble_eq_true rfl)) dX12_sees_9 ⟨Nat.le_of_ble_eq_true rfl, Nat.le_of_ble_eq_true rfl⟩).run (fun r_7 hw_8 => ?_)
    refine qi_as (y := 0) (hw_8) ?_
    refine lv_goto (tgt := 16) hx hb dX12_sees_12 (by decide) ?_
    rw [hQ]
    exact W.iret (v := 0) hx hb hr (fun t ht hW => ⟨0, rfl, by simp only [f_cell]; (repeat' split) <;> simp_all, by rw [ht]⟩) (fun q hq => absurd hq List.not_mem_nil) dX12_sees_16
  · skip
    refine lv_if_eq (tgt := 15) hx hb dX12_sees_4 (by decide) (fun _ => ?_) (fun c_9 => absurd c_9 (by decide))
    refine lv_iconst (v := (-1)) hx hb dX12_sees_15 (by decide) ?_
    rw [hQ]
    exact W.iret (v := (-1)) hx hb hr (fun t ht hW => ⟨(-1), rfl, by simp only [f_cell]; (repeat' split) <;> simp_all, by rw [ht]⟩) (fun q hq => absurd hq List.not_mem_nil) dX12_sees_16

theorem kc_mWhere_0 : (.constantLong RX12 181 (-9223372036854775808) : Cond) ∈ wsX12_where := by decide +kernel
theorem kc_mWhere_1 : ∀ w ∈ wsX120, w ∈ wsX12_where := by decide +kernel
theorem kc_mWhere_2 : (.fieldLink RX12 9 "MistHeapsModel" "s" "[I" : Cond) ∈ wsX12_where := by decide +kernel
set_option maxHeartbeats 4000000 in
set_option maxRecDepth 100000 in
theorem c_mWhere (l : Launch) (dC : Nat → ClassId) (dI : Nat → Nat → Nat) (m0 aS aI aB aT aG aO aN aD aY : Nat) (cS : ClassId) (x : Int32) : Met l yX12_where wsX12_where ({ frames := 1, cells := 0, slots := 0, locals := 23 } : Room) (va_Pc [.ref m0, .int x] (fun U => va_P (dC, dI) vwCl [(m0, .inr (14, [.int 0, .ref aS, .ref aI, .int 0, .int 0, .int 0, .int 0, .int 0, .int 0, .ref aB, .ref aT, .int 0, .int 0, .ref aG, .ref aO, .ref aN, .ref aD, .long 0, .ref aY, .int 0, .int 0, .int 0, .int 0])), (aS, .inl (cS, 901, .inl s0))] U.heap ∧ va_K (dC, dI) vwCl [(cS, .int)] U)) (vp_Sl (fun r => r = f_where x)) 0 0 (fun _ => False) := by
  refine met_ofQ (cc := cX12_where) (maxL := 5) (ret := (some .long)) (by decide) rfl ?_
  intro p e s m args below meth c s₁ Q B hml hv hQ
  obtain ⟨rfl, hP, hK⟩ := hv
  have hx := B.exec
  have hb := B.bytes
  have hr := B.returns
  have hts := atoms_spec (ws := wsX12_where) B.pre
  have hown : s.vm.findClass RX12 = some m.cls := findClass_of_methodNamed B.named
  have hlocks := B.notSynchronized
  obtain ⟨A, hAe⟩ : ∃ A : Nat → Prop, A = fun _ => False := ⟨_, rfl⟩
  rw [← hAe] at hQ
  have hS : va_S A s.heap s.heap [] := va_S.rf
  have hl := lv_entry [.ref m0, .int x] (n := 5) (Nat.le_of_ble_eq_true rfl)
  rw [lg_entry_eq]
  generalize (lg_sl [.ref m0, .int x] ++ List.replicate (5 - (lg_sl [.ref m0, .int x]).length) Slot.unset).toArray = ls at hl ⊢
  generalize hag : ([.ref m0, .int x] : List Value).toArray = args at hts hQ ⊢
  have hl : lv_has ls 5 [(0, .ref m0), (1, .int x)] := hl
  refine lv_iload_n hx hb dX12_where_0 rfl (lv_at hl 1 rfl) ?_
  refine lv_if_lt (tgt := 15) hx hb dX12_where_1 (by decide) (fun c_1 => ?_) (fun c_1 => ?_)
  · skip
    refine lv_ldc2 (v := (-9223372036854775808)) hx hb hown (hts (.constantLong RX12 181 (-9223372036854775808)) kc_mWhere_0) dX12_where_15 ?_
    rw [hQ]
    exact W.lret (v := (-9223372036854775808)) hx hb hr (fun t ht hW => ⟨(-9223372036854775808), rfl, by simp only [f_where]; (repeat' split) <;> simp_all, by rw [ht]⟩) (fun q hq => absurd hq List.not_mem_nil) dX12_where_18
  · skip
    refine lv_iload_n hx hb dX12_where_4 rfl (lv_at hl 1 rfl) ?_
    refine lv_aload_n hx hb dX12_where_5 rfl (lv_at hl 0 rfl) ?_
    refine va_get (D := (dC, dI)) (ci := 14) (v := .ref aS) (C := RX12) (T := TX12) (N := 23) hx hb hts kc_mWhere_1 hown hK hP 0 rfl rfl 1 (by decide) (hts (.fieldLink RX12 9 "MistHeapsModel" "s" "[I") kc_mWhere_2) (fun _ h9 => h9) rfl dX12_where_6 ?_
    refine lv_iconst (v := 0) hx hb dX12_where_9 (by decide) ?_
    refine va_iald hx hb hK hP 1 0 rfl rfl (vp_in_nI (n := 0) (N := 901) (by omega) (by omega)) dX12_where_10 ?_
    refine qi_as (y := 0) (rfl) ?_
    refine lv_ishr hx hb dX12_where_11 ?_
    refine qi_as (y := x) (sb_shr0 x) ?_
    refine lv_if_eq (tgt := 19) hx hb dX12_where_12 (by decide) (fun c_2 => ?_) (fun c_2 => ?_)
    · skip
      subst c_2
      refine lv_lconst (v := 0) hx hb dX12_where_19 (by decide) ?_
      refine lv_lstore_n (lv' := [(2, .long 0), (0, .ref m0), (1, .int 0)]) hx hb dX12_where_20 rfl hl (by decide) rfl (fun ls hl => ?_)
      refine lv_iconst (v := 0) hx hb dX12_where_21 (by decide) ?_
      refine lv_istore (lv' := [(4, .int 0), (2, .long 0), (0, .ref m0), (1, .int 0)]) hx hb dX12_where_22 hl (by decide) rfl (fun ls hl => ?_)
      have L24 : ∀ (n : Nat) (i : Nat), 36 - i < n → i ≤ 36 → ∀ (ls : Array Slot), lv_has ls 5 [(0, .ref m0), (1, .int 0), (2, .long (lN (2 ^ i - 1))), (4, .int (nI i))] → W p l e ({ frames := 1, cells := 0, slots := 0, locals := 23 } : Room) s m args below meth c s.heap [] 0 0 Q (F0 m 24 ls []) := by
        intro n
        induction n with
        | zero => intro i hm; exact absurd hm (Nat.not_lt_zero _)
        | succ n ih24 =>
          intro i hm hi ls hl
          refine lv_iload hx hb dX12_where_24 (lv_at hl 3 rfl) ?_
          refine lv_bipush (v := 36) hx hb dX12_where_26 (by decide) ?_
          refine lv_icmp_ge (tgt := 58) hx hb dX12_where_28 (by decide) (fun c_3 => ?_) (fun c_3 => ?_)
          · skip
            have c_3 : 36 ≤ i := (nI_leI (a := 36) (b := i) (by omega) (by omega)).mp c_3
            refine lv_lload_n hx hb dX12_where_58 rfl (lv_at hl 2 rfl) ?_
            rw [hQ]
            exact W.lret (v := lN (2 ^ i - 1)) hx hb hr (fun t ht hW => ⟨lN (2 ^ i - 1), rfl, by rw [show i = 36 by omega]; decide, by rw [ht]⟩) (fun q hq => absurd hq List.not_mem_nil) dX12_where_59
          · skip
            have c_3 : ¬ 36 ≤ i := fun q => c_3 ((nI_leI (a := 36) (b := i) (by omega) (by omega)).mpr q)
            refine lv_lload_n hx hb dX12_where_31 rfl (lv_at hl 2 rfl) ?_
            refine lv_aload_n hx hb dX12_where_32 rfl (lv_at hl 0 rfl) ?_
            refine lv_iload hx hb dX12_where_33 (lv_at hl 3 rfl) ?_
            have hPc := hP.sub (ws' := [(m0, .inr (14, [.int 0, .ref aS, .ref aI, .int 0, .int 0, .int 0, .int 0, .int 0, .int 0, .ref aB, .ref aT, .int 0, .int 0, .ref aG, .ref aO, .ref aN, .ref aD, .long 0, .ref aY, .int 0, .int 0, .int 0, .int 0])), (aS, .inl (cS, 901, .inl s0))]) [0, 1] rfl
            have hKc := hK.sub (tys' := [(cS, .int)]) [0] rfl
            refine vp_callSi (va_runV (As := [.int (nI i)]) (rest := [.long (lN (2 ^ i - 1))]) ⟨hx, hb, hml, hown, hts⟩ (c_mSeesOf0 l dC dI m0 aS aI aB aT aG aO aN aD aY cS (nI i)) (cwV 1 hts gX12_where_X12_seesOf rfl rfl rfl (by decide +kernel) ⟨Nat.le_of_ble_eq_true rfl, Nat.le_of_ble_eq_true rfl⟩) ⟨fun a U g mk q => by obtain ⟨q0, qP, qK⟩ := q; exact ⟨q0, qP, va_K.moved (u := U) (U := U.calling g mk a) (Vm.Alike.refl U.vm) qK⟩, va_recv hK hP (ci := 14) (q0 := 0) rfl rfl, fun U hU hW => ⟨rfl, by rw [hU]; exact hPc, va_K.moved hW.alike hKc⟩⟩ rfl rfl hl.1 rfl (lv_room (Nat.le_of_ble_eq_true rfl)) dX12_where_35 ⟨Nat.le_of_ble_eq_true rfl, Nat.le_of_ble_eq_true rfl⟩).run (fun r_4 hw_5 => ?_)
            refine qi_as (y := 0) (hw_5) ?_
            refine lv_iload_n hx hb dX12_where_38 rfl (lv_at hl 1 rfl) ?_
            refine lv_icmp_ne (tgt := 49) hx hb dX12_where_39 (by decide) (fun c_6 => absurd c_6 (by decide)) (fun _ => ?_)
            refine lv_lconst (v := 1) hx hb dX12_where_42 (by decide) ?_
            refine lv_iload hx hb dX12_where_43 (lv_at hl 3 rfl) ?_
            refine lv_lshl (v := 1 <<< ((nI i).toInt64 &&& 63)) hx hb dX12_where_45 (rfl) ?_
            refine lv_goto (tgt := 50) hx hb dX12_where_46 (by decide) ?_
            refine lv_lor hx hb dX12_where_50 ?_
            refine ql_as (y := lN (2 ^ (i + 1) - 1)) (wh_step i (by omega)) ?_
            refine lv_lstore_n (lv' := [(2, .long (lN (2 ^ (i + 1) - 1))), (0, .ref m0), (1, .int 0), (4, .int (nI i))]) hx hb dX12_where_51 rfl hl (by decide) rfl (fun ls hl => ?_)
            refine lv_iinc (v := nI (i + 1)) (lv' := [(4, .int (nI (i + 1))), (2, .long (lN (2 ^ (i + 1) - 1))), (0, .ref m0), (1, .int 0)]) hx hb dX12_where_52 hl (k := 3) rfl (nI_add i 1) (by decide) rfl (fun ls hl => ?_)
            refine lv_goto (tgt := 24) hx hb dX12_where_55 (by decide) ?_
            exact ih24 _ (by omega) (by omega) ls (lv_sub hl [2, 3, 1, 0] rfl)
      exact L24 _ (0) (Nat.lt_succ_self _) (by omega) ls (lv_sub hl [2, 3, 1, 0] rfl)
    · skip
      refine lv_ldc2 (v := (-9223372036854775808)) hx hb hown (hts (.constantLong RX12 181 (-9223372036854775808)) kc_mWhere_0) dX12_where_15 ?_
      rw [hQ]
      exact W.lret (v := (-9223372036854775808)) hx hb hr (fun t ht hW => ⟨(-9223372036854775808), rfl, by simp only [f_where]; (repeat' split) <;> simp_all, by rw [ht]⟩) (fun q hq => absurd hq List.not_mem_nil) dX12_where_18

theorem kc_mWalk_0 : ∀ w ∈ wsX120, w ∈ wsX12_walk := by decide +kernel
theorem kc_mWalk_1 : (.fieldLink RX12 9 "MistHeapsModel" "s" "[I" : Cond) ∈ wsX12_walk := by decide +kernel
set_option maxHeartbeats 4000000 in
set_option maxRecDepth 100000 in
theorem c_mWalk (l : Launch) (dC : Nat → ClassId) (dI : Nat → Nat → Nat) (m0 aS aI aB aT aG aO aN aD aY : Nat) (cS : ClassId) (x : Int32) (sz : Nat) : Met l yX12_walk wsX12_walk ({ frames := 1, cells := 0, slots := 0, locals := 22 } : Room) (va_Pc [.ref m0, .int x] (fun U => U.heap.size = sz ∧ va_P (dC, dI) vwCl [(m0, .inr (14, [.int 0, .ref aS, .ref aI, .int 0, .int 0, .int 0, .int 0, .int 0, .int 0, .ref aB, .ref aT, .int 0, .int 0, .ref aG, .ref aO, .ref aN, .ref aD, .long 0, .ref aY, .int 0, .int 0, .int 0, .int 0])), (aS, .inl (cS, 901, .inl s0))] U.heap ∧ va_K (dC, dI) vwCl [(cS, .int)] U ∧ va_D (fun _ => True) [(m0, .inr (14, [.int 0, .ref aS, .ref aI, .int 0, .int 0, .int 0, .int 0, .int 0, .int 0, .ref aB, .ref aT, .int 0, .int 0, .ref aG, .ref aO, .ref aN, .ref aD, .long 0, .ref aY, .int 0, .int 0, .int 0, .int 0])), (aS, .inl (cS, 901, .inl s0))])) (va_Qi (fun (r : Int32) (u : Unit) => match u with | () => r = f_walk x) (fun (u : Unit) (t : State) => match u with | () => True) (va_A [(m0, .inr (14, [.int 0, .ref aS, .ref aI, .int 0, .int 0, .int 0, .int 0, .int 0, .int 0, .ref aB, .ref aT, .int 0, .int 0, .ref aG, .ref aO, .ref aN, .ref aD, .long 0, .ref aY, .int 0, .int 0, .int 0, .int 0])), (aS, .inl (cS, 901, .inl s0))] sz)) 0 0 (va_A [(m0, .inr (14, [.int 0, .ref aS, .ref aI, .int 0, .int 0, .int 0, .int 0, .int 0, .int 0, .ref aB, .ref aT, .int 0, .int 0, .ref aG, .ref aO, .ref aN, .ref aD, .long 0, .ref aY, .int 0, .int 0, .int 0, .int 0])), (aS, .inl (cS, 901, .inl s0))] sz) := by
  refine met_ofQ (cc := cX12_walk) (maxL := 2) (ret := (some .int)) (by decide) rfl ?_
  intro p e s m args below meth c s₁ Q B hml hv hQ
  obtain ⟨rfl, hsz, hP, hK, hD0⟩ := hv
  have hx := B.exec
  have hb := B.bytes
  have hr := B.returns
  have hts := atoms_spec (ws := wsX12_walk) B.pre
  have hown : s.vm.findClass RX12 = some m.cls := findClass_of_methodNamed B.named
  have hlocks := B.notSynchronized
  subst hsz
  have hD := hD0.self (sz := s.heap.size)
  generalize hAe : va_A [(m0, .inr (14, [.int 0, .ref aS, .ref aI, .int 0, .int 0, .int 0, .int 0, .int 0, .int 0, .ref aB, .ref aT, .int 0, .int 0, .ref aG, .ref aO, .ref aN, .ref aD, .long 0, .ref aY, .int 0, .int 0, .int 0, .int 0])), (aS, .inl (cS, 901, .inl s0))] s.heap.size = A at hD hQ ⊢
  have hA : ∀ q : Nat, s.heap.size ≤ q → A q := fun q h => by rw [← hAe]; exact Or.inr h
  have hS : va_S A s.heap s.heap [] := va_S.rf
  have hl := lv_entry [.ref m0, .int x] (n := 2) (Nat.le_of_ble_eq_true rfl)
  rw [lg_entry_eq]
  generalize (lg_sl [.ref m0, .int x] ++ List.replicate (2 - (lg_sl [.ref m0, .int x]).length) Slot.unset).toArray = ls at hl ⊢
  generalize hag : ([.ref m0, .int x] : List Value).toArray = args at hts hQ ⊢
  have hl : lv_has ls 2 [(0, .ref m0), (1, .int x)] := hl
  obtain ⟨H, hH⟩ : ∃ H : Heap, H = s.heap := ⟨_, rfl⟩
  rw [← hH] at hP
  rw [← hH]
  have hS : va_S A s.heap H [] := by rw [hH]; exact hS
  obtain ⟨locs, hlo⟩ : ∃ L : List Loc, L = [] := ⟨_, rfl⟩
  rw [← hlo] at hS
  rw [← hlo]
  clear hH hlo
  refine lv_iload_n hx hb dX12_walk_0 rfl (lv_at hl 1 rfl) ?_
  refine lv_iconst (v := (-1)) hx hb dX12_walk_1 (by decide) ?_
  refine lv_icmp_ne (tgt := 14) hx hb dX12_walk_2 (by decide) (fun c_1 => ?_) (fun c_1 => ?_)
  · skip
    refine lv_iload_n hx hb dX12_walk_14 rfl (lv_at hl 1 rfl) ?_
    refine lv_iconst (v := 0) hx hb dX12_walk_15 (by decide) ?_
    refine lv_bipush (v := 7) hx hb dX12_walk_16 (by decide) ?_
    refine vp_callSi (va_runS (As := [.int x, .int 0, .int 7]) (rest := []) ⟨hx, hb, hml, hown, hts⟩ (c_in l dC dI x 0 7) (va_cwS 3 hts gX12_walk_X12_in rfl rfl rfl (by decide +kernel) ⟨Nat.le_of_ble_eq_true rfl, Nat.le_of_ble_eq_true rfl⟩) ⟨fun a U g mk q => ⟨q.1, trivial⟩, fun U hU hW => ⟨rfl, trivial⟩⟩ rfl rfl hl.1 rfl (lv_room (Nat.le_of_ble_eq_true rfl)) dX12_walk_18 ⟨Nat.le_of_ble_eq_true rfl, Nat.le_of_ble_eq_true rfl⟩).run (fun r_2 hw_3 => ?_)
    rcases hw_3 with ⟨rfl, h_4, h_5⟩ | ⟨rfl, h_6⟩
    · skip
      refine lv_if_ne (tgt := 26) hx hb dX12_walk_21 (by decide) (fun _ => ?_) (fun c_7 => absurd c_7 (by decide))
      refine lv_aload_n hx hb dX12_walk_26 rfl (lv_at hl 0 rfl) ?_
      refine va_get (D := (dC, dI)) (ci := 14) (v := .ref aS) (C := RX12) (T := TX12) (N := 23) hx hb hts kc_mWalk_0 hown hK hP 0 rfl rfl 1 (by decide) (hts (.fieldLink RX12 9 "MistHeapsModel" "s" "[I") kc_mWalk_1) (fun _ h9 => h9) rfl dX12_walk_27 ?_
      refine lv_iconst (v := 2) hx hb dX12_walk_30 (by decide) ?_
      refine va_iald hx hb hK hP 1 0 rfl rfl (vp_in_nI (n := 2) (N := 901) (by omega) (by omega)) dX12_walk_31 ?_
      refine qi_as (y := 0) (rfl) ?_
      refine lv_bipush (v := 6) hx hb dX12_walk_32 (by decide) ?_
      refine lv_icmp_ne (tgt := 40) hx hb dX12_walk_34 (by decide) (fun _ => ?_) (fun c_8 => absurd c_8 (by decide))
      refine lv_aload_n hx hb dX12_walk_40 rfl (lv_at hl 0 rfl) ?_
      refine va_get (D := (dC, dI)) (ci := 14) (v := .ref aS) (C := RX12) (T := TX12) (N := 23) hx hb hts kc_mWalk_0 hown hK hP 0 rfl rfl 1 (by decide) (hts (.fieldLink RX12 9 "MistHeapsModel" "s" "[I") kc_mWalk_1) (fun _ h9 => h9) rfl dX12_walk_41 ?_
      refine lv_bipush (v := 73) hx hb dX12_walk_44 (by decide) ?_
      refine lv_aload_n hx hb dX12_walk_46 rfl (lv_at hl 0 rfl) ?_
      refine va_get (D := (dC, dI)) (ci := 14) (v := .ref aS) (C := RX12) (T := TX12) (N := 23) hx hb hts kc_mWalk_0 hown hK hP 0 rfl rfl 1 (by decide) (hts (.fieldLink RX12 9 "MistHeapsModel" "s" "[I") kc_mWalk_1) (fun _ h9 => h9) rfl dX12_walk_47 ?_
      refine lv_iconst (v := 2) hx hb dX12_walk_50 (by decide) ?_
      refine va_iald hx hb hK hP 1 0 rfl rfl (vp_in_nI (n := 2) (N := 901) (by omega) (by omega)) dX12_walk_51 ?_
      refine qi_as (y := 0) (rfl) ?_
      refine lv_iadd hx hb dX12_walk_52 ?_
      refine qi_as (y := 73) (by decide) ?_
      refine lv_iload_n hx hb dX12_walk_53 rfl (lv_at hl 1 rfl) ?_
      refine va_iast hx hb hK hP hD hS 1 0 rfl rfl (vp_in_nI (n := 73) (N := 901) (by omega) (by omega)) dX12_walk_54 (fun H locs hP hD hS => ?_)
      have hP : va_P (dC, dI) vwCl [(m0, .inr (14, [.int 0, .ref aS, .ref aI, .int 0, .int 0, .int 0, .int 0, .int 0, .int 0, .ref aB, .ref aT, .int 0, .int 0, .ref aG, .ref aO, .ref aN, .ref aD, .long 0, .ref aY, .int 0, .int 0, .int 0, .int 0])), (aS, .inl (cS, 901, .inl (upd s0 73 x)))] H := hP
      have hD : va_D A [(m0, .inr (14, [.int 0, .ref aS, .ref aI, .int 0, .int 0, .int 0, .int 0, .int 0, .int 0, .ref aB, .ref aT, .int 0, .int 0, .ref aG, .ref aO, .ref aN, .ref aD, .long 0, .ref aY, .int 0, .int 0, .int 0, .int 0])), (aS, .inl (cS, 901, .inl (upd s0 73 x)))] := hD
      refine lv_aload_n hx hb dX12_walk_55 rfl (lv_at hl 0 rfl) ?_
      refine va_get (D := (dC, dI)) (ci := 14) (v := .ref aS) (C := RX12) (T := TX12) (N := 23) hx hb hts kc_mWalk_0 hown hK hP 0 rfl rfl 1 (by decide) (hts (.fieldLink RX12 9 "MistHeapsModel" "s" "[I") kc_mWalk_1) (fun _ h9 => h9) rfl dX12_walk_56 ?_
      refine lv_iconst (v := 2) hx hb dX12_walk_59 (by decide) ?_
      refine lv_dup2_11 hx hb dX12_walk_60 rfl rfl ?_
      refine va_iald hx hb hK hP 1 0 rfl rfl (vp_in_nI (n := 2) (N := 901) (by omega) (by omega)) dX12_walk_61 ?_
      refine qi_as (y := 0) (rfl) ?_
      refine lv_iconst (v := 1) hx hb dX12_walk_62 (by decide) ?_
      refine lv_iadd hx hb dX12_walk_63 ?_
      refine qi_as (y := 1) (by decide) ?_
      refine va_iast hx hb hK hP hD hS 1 0 rfl rfl (vp_in_nI (n := 2) (N := 901) (by omega) (by omega)) dX12_walk_64 (fun H locs hP hD hS => ?_)
      have hP : va_P (dC, dI) vwCl [(m0, .inr (14, [.int 0, .ref aS, .ref aI, .int 0, .int 0, .int 0, .int 0, .int 0, .int 0, .ref aB, .ref aT, .int 0, .int 0, .ref aG, .ref aO, .ref aN, .ref aD, .long 0, .ref aY, .int 0, .int 0, .int 0, .int 0])), (aS, .inl (cS, 901, .inl (upd (upd s0 73 x) 2 1)))] H := hP
      have hD : va_D A [(m0, .inr (14, [.int 0, .ref aS, .ref aI, .int 0, .int 0, .int 0, .int 0, .int 0, .int 0, .ref aB, .ref aT, .int 0, .int 0, .ref aG, .ref aO, .ref aN, .ref aD, .long 0, .ref aY, .int 0, .int 0, .int 0, .int 0])), (aS, .inl (cS, 901, .inl (upd (upd s0 73 x) 2 1)))] := hD
      refine lv_aload_n hx hb dX12_walk_65 rfl (lv_at hl 0 rfl) ?_
      refine va_get (D := (dC, dI)) (ci := 14) (v := .ref aS) (C := RX12) (T := TX12) (N := 23) hx hb hts kc_mWalk_0 hown hK hP 0 rfl rfl 1 (by decide) (hts (.fieldLink RX12 9 "MistHeapsModel" "s" "[I") kc_mWalk_1) (fun _ h9 => h9) rfl dX12_walk_66 ?_
      refine lv_iconst (v := 2) hx hb dX12_walk_69 (by decide) ?_
      refine va_iald hx hb hK hP 1 0 rfl rfl (vp_in_nI (n := 2) (N := 901) (by omega) (by omega)) dX12_walk_70 ?_
      refine qi_as (y := 1) (rfl) ?_
      rw [hQ]
      exact W.iret (v := 1) hx hb hr (fun t ht hW => ⟨⟨1, (), rfl, by simp only [f_walk]; (repeat' split) <;> simp_all, trivial⟩, hS.F ht⟩) hS.2.2 dX12_walk_71
    · skip
      refine lv_if_ne (tgt := 26) hx hb dX12_walk_21 (by decide) (fun c_9 => absurd c_9 (by decide)) (fun _ => ?_)
      refine lv_iconst (v := (-1)) hx hb dX12_walk_24 (by decide) ?_
      rw [hQ]
      exact W.iret (v := (-1)) hx hb hr (fun t ht hW => ⟨⟨(-1), (), rfl, by simp only [f_walk]; (repeat' split) <;> simp_all, trivial⟩, hS.F ht⟩) hS.2.2 dX12_walk_25
  · skip
    refine lv_aload_n hx hb dX12_walk_5 rfl (lv_at hl 0 rfl) ?_
    refine va_get (D := (dC, dI)) (ci := 14) (v := .ref aS) (C := RX12) (T := TX12) (N := 23) hx hb hts kc_mWalk_0 hown hK hP 0 rfl rfl 1 (by decide) (hts (.fieldLink RX12 9 "MistHeapsModel" "s" "[I") kc_mWalk_1) (fun _ h9 => h9) rfl dX12_walk_6 ?_
    refine lv_iconst (v := 2) hx hb dX12_walk_9 (by decide) ?_
    refine lv_iconst (v := 0) hx hb dX12_walk_10 (by decide) ?_
    refine va_iast hx hb hK hP hD hS 1 0 rfl rfl (vp_in_nI (n := 2) (N := 901) (by omega) (by omega)) dX12_walk_11 (fun H locs hP hD hS => ?_)
    have hP : va_P (dC, dI) vwCl [(m0, .inr (14, [.int 0, .ref aS, .ref aI, .int 0, .int 0, .int 0, .int 0, .int 0, .int 0, .ref aB, .ref aT, .int 0, .int 0, .ref aG, .ref aO, .ref aN, .ref aD, .long 0, .ref aY, .int 0, .int 0, .int 0, .int 0])), (aS, .inl (cS, 901, .inl (upd s0 2 0)))] H := hP
    have hD : va_D A [(m0, .inr (14, [.int 0, .ref aS, .ref aI, .int 0, .int 0, .int 0, .int 0, .int 0, .int 0, .ref aB, .ref aT, .int 0, .int 0, .ref aG, .ref aO, .ref aN, .ref aD, .long 0, .ref aY, .int 0, .int 0, .int 0, .int 0])), (aS, .inl (cS, 901, .inl (upd s0 2 0)))] := hD
    refine lv_iconst (v := 0) hx hb dX12_walk_12 (by decide) ?_
    rw [hQ]
    exact W.iret (v := 0) hx hb hr (fun t ht hW => ⟨⟨0, (), rfl, by simp only [f_walk]; (repeat' split) <;> simp_all, trivial⟩, hS.F ht⟩) hS.2.2 dX12_walk_13

theorem kc_mBook_0 : ∀ w ∈ wsX120, w ∈ wsX12_book := by decide +kernel
theorem kc_mBook_1 : (.fieldLink RX12 9 "MistHeapsModel" "s" "[I" : Cond) ∈ wsX12_book := by decide +kernel
set_option maxHeartbeats 4000000 in
set_option maxRecDepth 100000 in
theorem c_mBook (l : Launch) (dC : Nat → ClassId) (dI : Nat → Nat → Nat) (m0 aS aI aB aT aG aO aN aD aY : Nat) (cS : ClassId) (x : Int32) (sz : Nat) : Met l yX12_book wsX12_book ({ frames := 2, cells := 0, slots := 0, locals := 43 } : Room) (va_Pc [.ref m0, .int x] (fun U => U.heap.size = sz ∧ va_P (dC, dI) vwCl [(m0, .inr (14, [.int 0, .ref aS, .ref aI, .int 0, .int 0, .int 0, .int 0, .int 0, .int 0, .ref aB, .ref aT, .int 0, .int 0, .ref aG, .ref aO, .ref aN, .ref aD, .long 0, .ref aY, .int 0, .int 0, .int 0, .int 0])), (aS, .inl (cS, 901, .inl s0))] U.heap ∧ va_K (dC, dI) vwCl [(cS, .int)] U ∧ va_D (fun _ => True) [(m0, .inr (14, [.int 0, .ref aS, .ref aI, .int 0, .int 0, .int 0, .int 0, .int 0, .int 0, .ref aB, .ref aT, .int 0, .int 0, .ref aG, .ref aO, .ref aN, .ref aD, .long 0, .ref aY, .int 0, .int 0, .int 0, .int 0])), (aS, .inl (cS, 901, .inl s0))])) (va_Qi (fun (r : Int32) (u : Unit) => match u with | () => r = f_book x) (fun (u : Unit) (t : State) => match u with | () => True) (va_A [(m0, .inr (14, [.int 0, .ref aS, .ref aI, .int 0, .int 0, .int 0, .int 0, .int 0, .int 0, .ref aB, .ref aT, .int 0, .int 0, .ref aG, .ref aO, .ref aN, .ref aD, .long 0, .ref aY, .int 0, .int 0, .int 0, .int 0])), (aS, .inl (cS, 901, .inl s0))] sz)) 0 0 (va_A [(m0, .inr (14, [.int 0, .ref aS, .ref aI, .int 0, .int 0, .int 0, .int 0, .int 0, .int 0, .ref aB, .ref aT, .int 0, .int 0, .ref aG, .ref aO, .ref aN, .ref aD, .long 0, .ref aY, .int 0, .int 0, .int 0, .int 0])), (aS, .inl (cS, 901, .inl s0))] sz) := by
  refine met_ofQ (cc := cX12_book) (maxL := 2) (ret := (some .int)) (by decide) rfl ?_
  intro p e s m args below meth c s₁ Q B hml hv hQ
  obtain ⟨rfl, hsz, hP, hK, hD0⟩ := hv
  have hx := B.exec
  have hb := B.bytes
  have hr := B.returns
  have hts := atoms_spec (ws := wsX12_book) B.pre
  have hown : s.vm.findClass RX12 = some m.cls := findClass_of_methodNamed B.named
  have hlocks := B.notSynchronized
  subst hsz
  have hD := hD0.self (sz := s.heap.size)
  generalize hAe : va_A [(m0, .inr (14, [.int 0, .ref aS, .ref aI, .int 0, .int 0, .int 0, .int 0, .int 0, .int 0, .ref aB, .ref aT, .int 0, .int 0, .ref aG, .ref aO, .ref aN, .ref aD, .long 0, .ref aY, .int 0, .int 0, .int 0, .int 0])), (aS, .inl (cS, 901, .inl s0))] s.heap.size = A at hD hQ ⊢
  have hA : ∀ q : Nat, s.heap.size ≤ q → A q := fun q h => by rw [← hAe]; exact Or.inr h
  have hS : va_S A s.heap s.heap [] := va_S.rf
  have hl := lv_entry [.ref m0, .int x] (n := 2) (Nat.le_of_ble_eq_true rfl)
  rw [lg_entry_eq]
  generalize (lg_sl [.ref m0, .int x] ++ List.replicate (2 - (lg_sl [.ref m0, .int x]).length) Slot.unset).toArray = ls at hl ⊢
  generalize hag : ([.ref m0, .int x] : List Value).toArray = args at hts hQ ⊢
  have hl : lv_has ls 2 [(0, .ref m0), (1, .int x)] := hl
  obtain ⟨H, hH⟩ : ∃ H : Heap, H = s.heap := ⟨_, rfl⟩
  rw [← hH] at hP
  rw [← hH]
  have hS : va_S A s.heap H [] := by rw [hH]; exact hS
  obtain ⟨locs, hlo⟩ : ∃ L : List Loc, L = [] := ⟨_, rfl⟩
  rw [← hlo] at hS
  rw [← hlo]
  clear hH hlo
  refine lv_iload_n hx hb dX12_book_0 rfl (lv_at hl 1 rfl) ?_
  refine lv_iconst (v := (-1)) hx hb dX12_book_1 (by decide) ?_
  refine lv_icmp_ne (tgt := 14) hx hb dX12_book_2 (by decide) (fun c_1 => ?_) (fun c_1 => ?_)
  · skip
    refine lv_aload_n hx hb dX12_book_14 rfl (lv_at hl 0 rfl) ?_
    refine lv_iload_n hx hb dX12_book_15 rfl (lv_at hl 1 rfl) ?_
    have hPc := hP.sub (ws' := [(m0, .inr (14, [.int 0, .ref aS, .ref aI, .int 0, .int 0, .int 0, .int 0, .int 0, .int 0, .ref aB, .ref aT, .int 0, .int 0, .ref aG, .ref aO, .ref aN, .ref aD, .long 0, .ref aY, .int 0, .int 0, .int 0, .int 0])), (aS, .inl (cS, 901, .inl s0))]) [0, 1] rfl
    have hKc := hK.sub (tys' := [(cS, .int)]) [0] rfl
    refine vp_callSi (va_runV (As := [.int x]) (rest := []) ⟨hx, hb, hml, hown, hts⟩ (c_mHeap0 l dC dI m0 aS aI aB aT aG aO aN aD aY cS x) (cwV 1 hts gX12_book_X12_isHeap rfl rfl rfl (by decide +kernel) ⟨Nat.le_of_ble_eq_true rfl, Nat.le_of_ble_eq_true rfl⟩) ⟨fun a U g mk q => by obtain ⟨q0, qP, qK⟩ := q; exact ⟨q0, qP, va_K.moved (u := U) (U := U.calling g mk a) (Vm.Alike.refl U.vm) qK⟩, va_recv hK hP (ci := 14) (q0 := 0) rfl rfl, fun U hU hW => ⟨rfl, by rw [hU]; exact hPc, va_K.moved hW.alike hKc⟩⟩ rfl rfl hl.1 rfl (lv_room (Nat.le_of_ble_eq_true rfl)) dX12_book_16 ⟨Nat.le_of_ble_eq_true rfl, Nat.le_of_ble_eq_true rfl⟩).run (fun r_2 hw_3 => ?_)
    refine qi_as (y := 0) (hw_3) ?_
    refine lv_if_ne (tgt := 24) hx hb dX12_book_19 (by decide) (fun c_4 => absurd c_4 (by decide)) (fun _ => ?_)
    refine lv_iconst (v := (-1)) hx hb dX12_book_22 (by decide) ?_
    rw [hQ]
    exact W.iret (v := (-1)) hx hb hr (fun t ht hW => ⟨⟨(-1), (), rfl, by simp only [f_book]; (repeat' split) <;> simp_all, trivial⟩, hS.F ht⟩) hS.2.2 dX12_book_23
  · skip
    refine lv_aload_n hx hb dX12_book_5 rfl (lv_at hl 0 rfl) ?_
    refine va_get (D := (dC, dI)) (ci := 14) (v := .ref aS) (C := RX12) (T := TX12) (N := 23) hx hb hts kc_mBook_0 hown hK hP 0 rfl rfl 1 (by decide) (hts (.fieldLink RX12 9 "MistHeapsModel" "s" "[I") kc_mBook_1) (fun _ h9 => h9) rfl dX12_book_6 ?_
    refine lv_iconst (v := 3) hx hb dX12_book_9 (by decide) ?_
    refine lv_iconst (v := 0) hx hb dX12_book_10 (by decide) ?_
    refine va_iast hx hb hK hP hD hS 1 0 rfl rfl (vp_in_nI (n := 3) (N := 901) (by omega) (by omega)) dX12_book_11 (fun H locs hP hD hS => ?_)
    have hP : va_P (dC, dI) vwCl [(m0, .inr (14, [.int 0, .ref aS, .ref aI, .int 0, .int 0, .int 0, .int 0, .int 0, .int 0, .ref aB, .ref aT, .int 0, .int 0, .ref aG, .ref aO, .ref aN, .ref aD, .long 0, .ref aY, .int 0, .int 0, .int 0, .int 0])), (aS, .inl (cS, 901, .inl (upd s0 3 0)))] H := hP
    have hD : va_D A [(m0, .inr (14, [.int 0, .ref aS, .ref aI, .int 0, .int 0, .int 0, .int 0, .int 0, .int 0, .ref aB, .ref aT, .int 0, .int 0, .ref aG, .ref aO, .ref aN, .ref aD, .long 0, .ref aY, .int 0, .int 0, .int 0, .int 0])), (aS, .inl (cS, 901, .inl (upd s0 3 0)))] := hD
    refine lv_iconst (v := 0) hx hb dX12_book_12 (by decide) ?_
    rw [hQ]
    exact W.iret (v := 0) hx hb hr (fun t ht hW => ⟨⟨0, (), rfl, by simp only [f_book]; (repeat' split) <;> simp_all, trivial⟩, hS.F ht⟩) hS.2.2 dX12_book_13

theorem kc_mAct_0 : ∀ w ∈ wsX120, w ∈ wsX12_act := by decide +kernel
theorem kc_mAct_1 : (.fieldLink RX12 246 "MistHeapsModel" "ran" "I" : Cond) ∈ wsX12_act := by decide +kernel
set_option maxHeartbeats 4000000 in
set_option maxRecDepth 100000 in
theorem c_mAct (l : Launch) (dC : Nat → ClassId) (dI : Nat → Nat → Nat) (m0 aS aI aB aT aG aO aN aD aY : Nat) (cS : ClassId) (x y z : Int32) (sz : Nat) : Met l yX12_act wsX12_act ({ frames := 2, cells := 0, slots := 0, locals := 43 } : Room) (va_Pc [.ref m0, .int x, .int y, .int z] (fun U => U.heap.size = sz ∧ va_P (dC, dI) vwCl [(m0, .inr (14, [.int 0, .ref aS, .ref aI, .int 0, .int 0, .int 0, .int 0, .int 0, .int 0, .ref aB, .ref aT, .int 0, .int 0, .ref aG, .ref aO, .ref aN, .ref aD, .long 0, .ref aY, .int 0, .int 0, .int 0, .int 0])), (aS, .inl (cS, 901, .inl s0))] U.heap ∧ va_K (dC, dI) vwCl [(cS, .int)] U ∧ va_D (fun _ => True) [(m0, .inr (14, [.int 0, .ref aS, .ref aI, .int 0, .int 0, .int 0, .int 0, .int 0, .int 0, .ref aB, .ref aT, .int 0, .int 0, .ref aG, .ref aO, .ref aN, .ref aD, .long 0, .ref aY, .int 0, .int 0, .int 0, .int 0])), (aS, .inl (cS, 901, .inl s0))])) (va_Qi (fun (r : Int32) (u : Unit) => match u with | () => r = 0) (fun (u : Unit) (t : State) => match u with | () => True) (va_A [(m0, .inr (14, [.int 0, .ref aS, .ref aI, .int 0, .int 0, .int 0, .int 0, .int 0, .int 0, .ref aB, .ref aT, .int 0, .int 0, .ref aG, .ref aO, .ref aN, .ref aD, .long 0, .ref aY, .int 0, .int 0, .int 0, .int 0])), (aS, .inl (cS, 901, .inl s0))] sz)) 0 0 (va_A [(m0, .inr (14, [.int 0, .ref aS, .ref aI, .int 0, .int 0, .int 0, .int 0, .int 0, .int 0, .ref aB, .ref aT, .int 0, .int 0, .ref aG, .ref aO, .ref aN, .ref aD, .long 0, .ref aY, .int 0, .int 0, .int 0, .int 0])), (aS, .inl (cS, 901, .inl s0))] sz) := by
  refine met_ofQ (cc := cX12_act) (maxL := 4) (ret := (some .int)) (by decide) rfl ?_
  intro p e s m args below meth c s₁ Q B hml hv hQ
  obtain ⟨rfl, hsz, hP, hK, hD0⟩ := hv
  have hx := B.exec
  have hb := B.bytes
  have hr := B.returns
  have hts := atoms_spec (ws := wsX12_act) B.pre
  have hown : s.vm.findClass RX12 = some m.cls := findClass_of_methodNamed B.named
  have hlocks := B.notSynchronized
  subst hsz
  have hD := hD0.self (sz := s.heap.size)
  generalize hAe : va_A [(m0, .inr (14, [.int 0, .ref aS, .ref aI, .int 0, .int 0, .int 0, .int 0, .int 0, .int 0, .ref aB, .ref aT, .int 0, .int 0, .ref aG, .ref aO, .ref aN, .ref aD, .long 0, .ref aY, .int 0, .int 0, .int 0, .int 0])), (aS, .inl (cS, 901, .inl s0))] s.heap.size = A at hD hQ ⊢
  have hA : ∀ q : Nat, s.heap.size ≤ q → A q := fun q h => by rw [← hAe]; exact Or.inr h
  have hS : va_S A s.heap s.heap [] := va_S.rf
  have hl := lv_entry [.ref m0, .int x, .int y, .int z] (n := 4) (Nat.le_of_ble_eq_true rfl)
  rw [lg_entry_eq]
  generalize (lg_sl [.ref m0, .int x, .int y, .int z] ++ List.replicate (4 - (lg_sl [.ref m0, .int x, .int y, .int z]).length) Slot.unset).toArray = ls at hl ⊢
  generalize hag : ([.ref m0, .int x, .int y, .int z] : List Value).toArray = args at hts hQ ⊢
  have hl : lv_has ls 4 [(0, .ref m0), (1, .int x), (2, .int y), (3, .int z)] := hl
  obtain ⟨H, hH⟩ : ∃ H : Heap, H = s.heap := ⟨_, rfl⟩
  rw [← hH] at hP
  rw [← hH]
  have hS : va_S A s.heap H [] := by rw [hH]; exact hS
  obtain ⟨locs, hlo⟩ : ∃ L : List Loc, L = [] := ⟨_, rfl⟩
  rw [← hlo] at hS
  rw [← hlo]
  clear hH hlo
  refine lv_aload_n hx hb dX12_act_0 rfl (lv_at hl 0 rfl) ?_
  refine lv_iconst (v := 0) hx hb dX12_act_1 (by decide) ?_
  refine va_put (D := (dC, dI)) (ci := 14) (v := .int 0) (ty := .int) (C := RX12) (T := TX12) (N := 23) hx hb hts kc_mAct_0 tyX12 tyX12_ok nmX12 hown hK hP hD hS 0 rfl rfl 19 (by decide) (hts (.fieldLink RX12 246 "MistHeapsModel" "ran" "I") kc_mAct_1) (fun _ h9 => h9) rfl (by decide +kernel) rfl rfl (Nat.le_of_ble_eq_true rfl) dX12_act_2 (fun H locs hP hD hS => ?_)
  have hP : va_P (dC, dI) vwCl [(m0, .inr (14, [.int 0, .ref aS, .ref aI, .int 0, .int 0, .int 0, .int 0, .int 0, .int 0, .ref aB, .ref aT, .int 0, .int 0, .ref aG, .ref aO, .ref aN, .ref aD, .long 0, .ref aY, .int 0, .int 0, .int 0, .int 0])), (aS, .inl (cS, 901, .inl s0))] H := hP
  have hD : va_D A [(m0, .inr (14, [.int 0, .ref aS, .ref aI, .int 0, .int 0, .int 0, .int 0, .int 0, .int 0, .ref aB, .ref aT, .int 0, .int 0, .ref aG, .ref aO, .ref aN, .ref aD, .long 0, .ref aY, .int 0, .int 0, .int 0, .int 0])), (aS, .inl (cS, 901, .inl s0))] := hD
  refine lv_aload_n hx hb dX12_act_5 rfl (lv_at hl 0 rfl) ?_
  refine lv_iload_n hx hb dX12_act_6 rfl (lv_at hl 1 rfl) ?_
  have hPc := hP.sub (ws' := [(m0, .inr (14, [.int 0, .ref aS, .ref aI, .int 0, .int 0, .int 0, .int 0, .int 0, .int 0, .ref aB, .ref aT, .int 0, .int 0, .ref aG, .ref aO, .ref aN, .ref aD, .long 0, .ref aY, .int 0, .int 0, .int 0, .int 0])), (aS, .inl (cS, 901, .inl s0))]) [0, 1] rfl
  have hKc := hK.sub (tys' := [(cS, .int)]) [0] rfl
  refine vp_callSi (va_runV (As := [.int x]) (rest := []) ⟨hx, hb, hml, hown, hts⟩ (c_mHeap0 l dC dI m0 aS aI aB aT aG aO aN aD aY cS x) (cwV 1 hts gX12_act_X12_isHeap rfl rfl rfl (by decide +kernel) ⟨Nat.le_of_ble_eq_true rfl, Nat.le_of_ble_eq_true rfl⟩) ⟨fun a U g mk q => by obtain ⟨q0, qP, qK⟩ := q; exact ⟨q0, qP, va_K.moved (u := U) (U := U.calling g mk a) (Vm.Alike.refl U.vm) qK⟩, va_recv hK hP (ci := 14) (q0 := 0) rfl rfl, fun U hU hW => ⟨rfl, by rw [hU]; exact hPc, va_K.moved hW.alike hKc⟩⟩ rfl rfl hl.1 rfl (lv_room (Nat.le_of_ble_eq_true rfl)) dX12_act_7 ⟨Nat.le_of_ble_eq_true rfl, Nat.le_of_ble_eq_true rfl⟩).run (fun r_1 hw_2 => ?_)
  refine qi_as (y := 0) (hw_2) ?_
  refine lv_if_eq (tgt := 22) hx hb dX12_act_10 (by decide) (fun _ => ?_) (fun c_3 => absurd c_3 (by decide))
  refine lv_iconst (v := 0) hx hb dX12_act_22 (by decide) ?_
  rw [hQ]
  exact W.iret (v := 0) hx hb hr (fun t ht hW => ⟨⟨0, (), rfl, rfl, trivial⟩, hS.F ht⟩) hS.2.2 dX12_act_23

theorem kc_mImage_0 : ∀ w ∈ wsX120, w ∈ wsX12_image := by decide +kernel
theorem kc_mImage_1 : (.fieldLink RX12 282 "MistHeapsModel" "hasImage" "Z" : Cond) ∈ wsX12_image := by decide +kernel
theorem kc_mImage_2 : (.fieldLink RX12 9 "MistHeapsModel" "s" "[I" : Cond) ∈ wsX12_image := by decide +kernel
theorem kc_mImage_3 : (.fieldLink RX12 15 "MistHeapsModel" "image" "[I" : Cond) ∈ wsX12_image := by decide +kernel
set_option maxHeartbeats 4000000 in
set_option maxRecDepth 100000 in
theorem c_mImage (l : Launch) (dC : Nat → ClassId) (dI : Nat → Nat → Nat) (m0 aS aI aB aT aG aO aN aD aY : Nat) (cS : ClassId) (cI : ClassId) (fI : Nat → Int32) (sz : Nat) : Met l yX12_image wsX12_image ({ frames := 0, cells := 0, slots := 0, locals := 0 } : Room) (va_Pc [.ref m0] (fun U => U.heap.size = sz ∧ va_P (dC, dI) vwCl [(m0, .inr (14, [.int 0, .ref aS, .ref aI, .int 0, .int 0, .int 0, .int 0, .int 0, .int 0, .ref aB, .ref aT, .int 0, .int 0, .ref aG, .ref aO, .ref aN, .ref aD, .long 0, .ref aY, .int 0, .int 0, .int 0, .int 0])), (aS, .inl (cS, 901, .inl s0)), (aI, .inl (cI, 901, .inl fI))] U.heap ∧ va_K (dC, dI) vwCl [(cS, .int), (cI, .int)] U ∧ va_D (fun _ => True) [(m0, .inr (14, [.int 0, .ref aS, .ref aI, .int 0, .int 0, .int 0, .int 0, .int 0, .int 0, .ref aB, .ref aT, .int 0, .int 0, .ref aG, .ref aO, .ref aN, .ref aD, .long 0, .ref aY, .int 0, .int 0, .int 0, .int 0])), (aS, .inl (cS, 901, .inl s0)), (aI, .inl (cI, 901, .inl fI))])) (va_Qi (fun (r : Int32) (u : Unit) => match u with | () => r = 0) (fun (u : Unit) (t : State) => match u with | () => True) (va_A [(m0, .inr (14, [.int 0, .ref aS, .ref aI, .int 0, .int 0, .int 0, .int 0, .int 0, .int 0, .ref aB, .ref aT, .int 0, .int 0, .ref aG, .ref aO, .ref aN, .ref aD, .long 0, .ref aY, .int 0, .int 0, .int 0, .int 0])), (aS, .inl (cS, 901, .inl s0)), (aI, .inl (cI, 901, .inl fI))] sz)) 0 0 (va_A [(m0, .inr (14, [.int 0, .ref aS, .ref aI, .int 0, .int 0, .int 0, .int 0, .int 0, .int 0, .ref aB, .ref aT, .int 0, .int 0, .ref aG, .ref aO, .ref aN, .ref aD, .long 0, .ref aY, .int 0, .int 0, .int 0, .int 0])), (aS, .inl (cS, 901, .inl s0)), (aI, .inl (cI, 901, .inl fI))] sz) := by
  refine met_ofQ (cc := cX12_image) (maxL := 2) (ret := (some .int)) (by decide) rfl ?_
  intro p e s m args below meth c s₁ Q B hml hv hQ
  obtain ⟨rfl, hsz, hP, hK, hD0⟩ := hv
  have hx := B.exec
  have hb := B.bytes
  have hr := B.returns
  have hts := atoms_spec (ws := wsX12_image) B.pre
  have hown : s.vm.findClass RX12 = some m.cls := findClass_of_methodNamed B.named
  have hlocks := B.notSynchronized
  subst hsz
  have hD := hD0.self (sz := s.heap.size)
  generalize hAe : va_A [(m0, .inr (14, [.int 0, .ref aS, .ref aI, .int 0, .int 0, .int 0, .int 0, .int 0, .int 0, .ref aB, .ref aT, .int 0, .int 0, .ref aG, .ref aO, .ref aN, .ref aD, .long 0, .ref aY, .int 0, .int 0, .int 0, .int 0])), (aS, .inl (cS, 901, .inl s0)), (aI, .inl (cI, 901, .inl fI))] s.heap.size = A at hD hQ ⊢
  have hA : ∀ q : Nat, s.heap.size ≤ q → A q := fun q h => by rw [← hAe]; exact Or.inr h
  have hS : va_S A s.heap s.heap [] := va_S.rf
  have hl := lv_entry [.ref m0] (n := 2) (Nat.le_of_ble_eq_true rfl)
  rw [lg_entry_eq]
  generalize (lg_sl [.ref m0] ++ List.replicate (2 - (lg_sl [.ref m0]).length) Slot.unset).toArray = ls at hl ⊢
  generalize hag : ([.ref m0] : List Value).toArray = args at hts hQ ⊢
  have hl : lv_has ls 2 [(0, .ref m0)] := hl
  obtain ⟨H, hH⟩ : ∃ H : Heap, H = s.heap := ⟨_, rfl⟩
  rw [← hH] at hP
  rw [← hH]
  have hS : va_S A s.heap H [] := by rw [hH]; exact hS
  obtain ⟨locs, hlo⟩ : ∃ L : List Loc, L = [] := ⟨_, rfl⟩
  rw [← hlo] at hS
  rw [← hlo]
  clear hH hlo
  refine lv_iconst (v := 0) hx hb dX12_image_0 (by decide) ?_
  refine lv_istore_n (lv' := [(1, .int 0), (0, .ref m0)]) hx hb dX12_image_1 rfl hl (by decide) rfl (fun ls hl => ?_)
  have L2 : ∀ (n : Nat) (i : Nat) (f : Nat → Int32), 901 - i < n → i ≤ 901 → ∀ (H : Heap) (locs : List Loc), va_K (dC, dI) vwCl [(cS, .int), (cI, .int)] s → va_P (dC, dI) vwCl [(m0, .inr (14, [.int 0, .ref aS, .ref aI, .int 0, .int 0, .int 0, .int 0, .int 0, .int 0, .ref aB, .ref aT, .int 0, .int 0, .ref aG, .ref aO, .ref aN, .ref aD, .long 0, .ref aY, .int 0, .int 0, .int 0, .int 0])), (aS, .inl (cS, 901, .inl s0)), (aI, .inl (cI, 901, .inl f))] H → va_D A [(m0, .inr (14, [.int 0, .ref aS, .ref aI, .int 0, .int 0, .int 0, .int 0, .int 0, .int 0, .ref aB, .ref aT, .int 0, .int 0, .ref aG, .ref aO, .ref aN, .ref aD, .long 0, .ref aY, .int 0, .int 0, .int 0, .int 0])), (aS, .inl (cS, 901, .inl s0)), (aI, .inl (cI, 901, .inl f))] → va_S A s.heap H locs → ∀ (ls : Array Slot), lv_has ls 2 [(0, .ref m0), (1, .int (nI i))] → W p l e ({ frames := 0, cells := 0, slots := 0, locals := 0 } : Room) s m args below meth c H locs 0 0 Q (F0 m 2 ls []) := by
    intro n
    induction n with
    | zero => intro i f hm; exact absurd hm (Nat.not_lt_zero _)
    | succ n ih2 =>
      intro i f hm hi H locs hK hP hD hS ls hl
      refine lv_iload_n hx hb dX12_image_2 rfl (lv_at hl 1 rfl) ?_
      refine lv_sipush (v := 901) hx hb dX12_image_3 (by decide) ?_
      refine lv_icmp_ge (tgt := 27) hx hb dX12_image_6 (by decide) (fun c_1 => ?_) (fun c_1 => ?_)
      · skip
        have c_1 : 901 ≤ i := (nI_leI (a := 901) (b := i) (by omega) (by omega)).mp c_1
        refine lv_aload_n hx hb dX12_image_27 rfl (lv_at hl 0 rfl) ?_
        refine lv_iconst (v := 1) hx hb dX12_image_28 (by decide) ?_
        refine va_put (D := (dC, dI)) (ci := 14) (v := .int 1) (ty := .boolean) (C := RX12) (T := TX12) (N := 23) hx hb hts kc_mImage_0 tyX12 tyX12_ok nmX12 hown hK hP hD hS 0 rfl rfl 3 (by decide) (hts (.fieldLink RX12 282 "MistHeapsModel" "hasImage" "Z") kc_mImage_1) (fun _ h9 => h9) rfl (by decide +kernel) rfl rfl (Nat.le_of_ble_eq_true rfl) dX12_image_29 (fun H locs hP hD hS => ?_)
        have hP : va_P (dC, dI) vwCl [(m0, .inr (14, [.int 0, .ref aS, .ref aI, .int 1, .int 0, .int 0, .int 0, .int 0, .int 0, .ref aB, .ref aT, .int 0, .int 0, .ref aG, .ref aO, .ref aN, .ref aD, .long 0, .ref aY, .int 0, .int 0, .int 0, .int 0])), (aS, .inl (cS, 901, .inl s0)), (aI, .inl (cI, 901, .inl f))] H := hP
        have hD : va_D A [(m0, .inr (14, [.int 0, .ref aS, .ref aI, .int 1, .int 0, .int 0, .int 0, .int 0, .int 0, .ref aB, .ref aT, .int 0, .int 0, .ref aG, .ref aO, .ref aN, .ref aD, .long 0, .ref aY, .int 0, .int 0, .int 0, .int 0])), (aS, .inl (cS, 901, .inl s0)), (aI, .inl (cI, 901, .inl f))] := hD
        refine lv_aload_n hx hb dX12_image_32 rfl (lv_at hl 0 rfl) ?_
        refine va_get (D := (dC, dI)) (ci := 14) (v := .ref aS) (C := RX12) (T := TX12) (N := 23) hx hb hts kc_mImage_0 hown hK hP 0 rfl rfl 1 (by decide) (hts (.fieldLink RX12 9 "MistHeapsModel" "s" "[I") kc_mImage_2) (fun _ h9 => h9) rfl dX12_image_33 ?_
        refine lv_iconst (v := 0) hx hb dX12_image_36 (by decide) ?_
        refine va_iald hx hb hK hP 1 0 rfl rfl (vp_in_nI (n := 0) (N := 901) (by omega) (by omega)) dX12_image_37 ?_
        refine qi_as (y := 0) (rfl) ?_
        rw [hQ]
        exact W.iret (v := 0) hx hb hr (fun t ht hW => ⟨⟨0, (), rfl, rfl, trivial⟩, hS.F ht⟩) hS.2.2 dX12_image_38
      · skip
        have c_1 : ¬ 901 ≤ i := fun q => c_1 ((nI_leI (a := 901) (b := i) (by omega) (by omega)).mpr q)
        refine lv_aload_n hx hb dX12_image_9 rfl (lv_at hl 0 rfl) ?_
        refine va_get (D := (dC, dI)) (ci := 14) (v := .ref aI) (C := RX12) (T := TX12) (N := 23) hx hb hts kc_mImage_0 hown hK hP 0 rfl rfl 2 (by decide) (hts (.fieldLink RX12 15 "MistHeapsModel" "image" "[I") kc_mImage_3) (fun _ h9 => h9) rfl dX12_image_10 ?_
        refine lv_iload_n hx hb dX12_image_13 rfl (lv_at hl 1 rfl) ?_
        refine lv_aload_n hx hb dX12_image_14 rfl (lv_at hl 0 rfl) ?_
        refine va_get (D := (dC, dI)) (ci := 14) (v := .ref aS) (C := RX12) (T := TX12) (N := 23) hx hb hts kc_mImage_0 hown hK hP 0 rfl rfl 1 (by decide) (hts (.fieldLink RX12 9 "MistHeapsModel" "s" "[I") kc_mImage_2) (fun _ h9 => h9) rfl dX12_image_15 ?_
        refine lv_iload_n hx hb dX12_image_18 rfl (lv_at hl 1 rfl) ?_
        refine va_iald hx hb hK hP 1 0 rfl rfl (vp_in_nI (n := i) (N := 901) (by omega) (by omega)) dX12_image_19 ?_
        refine qi_as (y := s0 i) (by rw [nI_clamp (by omega)]) ?_
        refine va_iast hx hb hK hP hD hS 2 1 rfl rfl (vp_in_nI (n := i) (N := 901) (by omega) (by omega)) dX12_image_20 (fun H locs hP hD hS => ?_)
        rw [nI_clamp (n := i) (by omega)] at hP hD
        have hP : va_P (dC, dI) vwCl [(m0, .inr (14, [.int 0, .ref aS, .ref aI, .int 0, .int 0, .int 0, .int 0, .int 0, .int 0, .ref aB, .ref aT, .int 0, .int 0, .ref aG, .ref aO, .ref aN, .ref aD, .long 0, .ref aY, .int 0, .int 0, .int 0, .int 0])), (aS, .inl (cS, 901, .inl s0)), (aI, .inl (cI, 901, .inl (upd f i (s0 i))))] H := hP
        have hD : va_D A [(m0, .inr (14, [.int 0, .ref aS, .ref aI, .int 0, .int 0, .int 0, .int 0, .int 0, .int 0, .ref aB, .ref aT, .int 0, .int 0, .ref aG, .ref aO, .ref aN, .ref aD, .long 0, .ref aY, .int 0, .int 0, .int 0, .int 0])), (aS, .inl (cS, 901, .inl s0)), (aI, .inl (cI, 901, .inl (upd f i (s0 i))))] := hD
        refine lv_iinc (v := nI (i + 1)) (lv' := [(1, .int (nI (i + 1))), (0, .ref m0)]) hx hb dX12_image_21 hl (k := 1) rfl (nI_add i 1) (by decide) rfl (fun ls hl => ?_)
        refine lv_goto (tgt := 2) hx hb dX12_image_24 (by decide) ?_
        exact ih2 _ _ (by omega) (by omega) _ _ (hK.sub [0, 1] rfl) (hP.sub [0, 1, 2] rfl) (hD.sub [0, 1, 2] (by decide) rfl) hS ls (lv_sub hl [1, 0] rfl)
  exact L2 _ (0) _ (Nat.lt_succ_self _) (by omega) _ _ (hK.sub [0, 1] rfl) (hP.sub [0, 1, 2] rfl) (hD.sub [0, 1, 2] (by decide) rfl) hS ls (lv_sub hl [1, 0] rfl)

theorem kc_mHere0_0 : ∀ w ∈ wsX120, w ∈ wsX12_here := by decide +kernel
theorem kc_mHere0_1 : (.fieldLink RX12 59 "MistHeapsModel" "spot" "I" : Cond) ∈ wsX12_here := by decide +kernel
theorem kc_mHere0_2 : (.fieldLink RX12 62 "MistHeapsModel" "end" "I" : Cond) ∈ wsX12_here := by decide +kernel
set_option maxHeartbeats 4000000 in
set_option maxRecDepth 100000 in
theorem c_mHere0 (l : Launch) (dC : Nat → ClassId) (dI : Nat → Nat → Nat) (m0 aS aI aB aT aG aO aN aD aY : Nat) (cS : ClassId) : Met l yX12_here wsX12_here ({ frames := 0, cells := 0, slots := 0, locals := 0 } : Room) (va_Pc [.ref m0] (fun U => va_P (dC, dI) vwCl [(m0, .inr (14, [.int 0, .ref aS, .ref aI, .int 0, .int 0, .int 0, .int 0, .int 0, .int 0, .ref aB, .ref aT, .int 0, .int 0, .ref aG, .ref aO, .ref aN, .ref aD, .long 0, .ref aY, .int 0, .int 0, .int 0, .int 0])), (aS, .inl (cS, 901, .inl s0))] U.heap ∧ va_K (dC, dI) vwCl [(cS, .int)] U)) (vp_Si (fun r => r = -1)) 0 0 (fun _ => False) := by
  refine met_ofQ (cc := cX12_here) (maxL := 1) (ret := (some .int)) (by decide) rfl ?_
  intro p e s m args below meth c s₁ Q B hml hv hQ
  obtain ⟨rfl, hP, hK⟩ := hv
  have hx := B.exec
  have hb := B.bytes
  have hr := B.returns
  have hts := atoms_spec (ws := wsX12_here) B.pre
  have hown : s.vm.findClass RX12 = some m.cls := findClass_of_methodNamed B.named
  have hlocks := B.notSynchronized
  obtain ⟨A, hAe⟩ : ∃ A : Nat → Prop, A = fun _ => False := ⟨_, rfl⟩
  rw [← hAe] at hQ
  have hS : va_S A s.heap s.heap [] := va_S.rf
  have hl := lv_entry [.ref m0] (n := 1) (Nat.le_of_ble_eq_true rfl)
  rw [lg_entry_eq]
  generalize (lg_sl [.ref m0] ++ List.replicate (1 - (lg_sl [.ref m0]).length) Slot.unset).toArray = ls at hl ⊢
  generalize hag : ([.ref m0] : List Value).toArray = args at hts hQ ⊢
  have hl : lv_has ls 1 [(0, .ref m0)] := hl
  refine lv_aload_n hx hb dX12_here_0 rfl (lv_at hl 0 rfl) ?_
  refine va_get (D := (dC, dI)) (ci := 14) (v := .int 0) (C := RX12) (T := TX12) (N := 23) hx hb hts kc_mHere0_0 hown hK hP 0 rfl rfl 5 (by decide) (hts (.fieldLink RX12 59 "MistHeapsModel" "spot" "I") kc_mHere0_1) (fun _ h9 => h9) rfl dX12_here_1 ?_
  refine lv_aload_n hx hb dX12_here_4 rfl (lv_at hl 0 rfl) ?_
  refine va_get (D := (dC, dI)) (ci := 14) (v := .int 0) (C := RX12) (T := TX12) (N := 23) hx hb hts kc_mHere0_0 hown hK hP 0 rfl rfl 6 (by decide) (hts (.fieldLink RX12 62 "MistHeapsModel" "end" "I") kc_mHere0_2) (fun _ h9 => h9) rfl dX12_here_5 ?_
  refine lv_icmp_ge (tgt := 26) hx hb dX12_here_8 (by decide) (fun _ => ?_) (fun c_1 => absurd c_1 (by decide))
  refine lv_iconst (v := (-1)) hx hb dX12_here_26 (by decide) ?_
  rw [hQ]
  exact W.iret (v := (-1)) hx hb hr (fun t ht hW => ⟨(-1), rfl, rfl, by rw [ht]⟩) (fun q hq => absurd hq List.not_mem_nil) dX12_here_27
end
