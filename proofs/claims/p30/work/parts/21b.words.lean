
theorem in_wsL_law_r1 : ∀ w ∈ wsL_law_r1, w ∈ lw_tbl := fun w h => (goodIn_p wsL_law_r1 [97, 100] (by decide +kernel) (by decide +kernel) w h).1
theorem in_wsL_law_r2 : ∀ w ∈ wsL_law_r2, w ∈ lw_tbl := fun w h => (goodIn_p wsL_law_r2 [105] (by decide +kernel) (by decide +kernel) w h).1
theorem in_wsL_law_r3 : ∀ w ∈ wsL_law_r3, w ∈ lw_tbl := fun w h => (goodIn_p wsL_law_r3 [111, 220, 226] (by decide +kernel) (by decide +kernel) w h).1
theorem in_wsL_law_r4 : ∀ w ∈ wsL_law_r4, w ∈ lw_tbl := fun w h => (goodIn_p wsL_law_r4 [278, 306, 309] (by decide +kernel) (by decide +kernel) w h).1
theorem in_wsL_law_r5 : ∀ w ∈ wsL_law_r5, w ∈ lw_tbl := fun w h => (goodIn_p wsL_law_r5 [312, 1139, 353] (by decide +kernel) (by decide +kernel) w h).1
theorem in_wsL_law_r6 : ∀ w ∈ wsL_law_r6, w ∈ lw_tbl := fun w h => (goodIn_p wsL_law_r6 [1214, 1217, 357, 361] (by decide +kernel) (by decide +kernel) w h).1
theorem in_wsL_law_r7 : ∀ w ∈ wsL_law_r7, w ∈ lw_tbl := fun w h => (goodIn_p wsL_law_r7 [365, 427, 368, 376, 380] (by decide +kernel) (by decide +kernel) w h).1
theorem in_wsL_law_r8 : ∀ w ∈ wsL_law_r8, w ∈ lw_tbl := fun w h => (goodIn_p wsL_law_r8 [384, 390, 394, 397, 400, 405] (by decide +kernel) (by decide +kernel) w h).1
theorem in_wsL_law_r9 : ∀ w ∈ wsL_law_r9, w ∈ lw_tbl := fun w h => (goodIn_p wsL_law_r9 [408, 411, 414, 418, 431, 435] (by decide +kernel) (by decide +kernel) w h).1
theorem in_wsL_law_r10 : ∀ w ∈ wsL_law_r10, w ∈ lw_tbl := fun w h => (goodIn_p wsL_law_r10 [438, 442, 446, 521, 450, 454] (by decide +kernel) (by decide +kernel) w h).1
theorem in_wsL_law_r11 : ∀ w ∈ wsL_law_r11, w ∈ lw_tbl := fun w h => (goodIn_p wsL_law_r11 [458, 463, 467, 471, 478, 474] (by decide +kernel) (by decide +kernel) w h).1
theorem in_wsL_law_r12 : ∀ w ∈ wsL_law_r12, w ∈ lw_tbl := fun w h => (goodIn_p wsL_law_r12 [481, 484, 490, 493, 496, 499, 502] (by decide +kernel) (by decide +kernel) w h).1
theorem in_wsL_law_r13 : ∀ w ∈ wsL_law_r13, w ∈ lw_tbl := fun w h => (goodIn_p wsL_law_r13 [505, 508, 511, 515, 1221] (by decide +kernel) (by decide +kernel) w h).1
theorem in_wsL_law_r14 : ∀ w ∈ wsL_law_r14, w ∈ lw_tbl := fun w h => (goodIn_p wsL_law_r14 [1225, 1229, 1233, 1237, 1242, 1246] (by decide +kernel) (by decide +kernel) w h).1
theorem in_wsL_law_r15 : ∀ w ∈ wsL_law_r15, w ∈ lw_tbl := fun w h => (goodIn_p wsL_law_r15 [1252, 1256, 1268, 1260, 1264, 1273] (by decide +kernel) (by decide +kernel) w h).1