
theorem in_wsL_law_r16 : ∀ w ∈ wsL_law_r16, w ∈ lw_tbl := fun w h => (goodIn_p wsL_law_r16 [526, 530, 1281, 1285] (by decide +kernel) (by decide +kernel) w h).1
theorem in_wsL_law_r17 : ∀ w ∈ wsL_law_r17, w ∈ lw_tbl := fun w h => (goodIn_p wsL_law_r17 [537, 541, 1289, 1293, 1297] (by decide +kernel) (by decide +kernel) w h).1
theorem in_wsL_law_r18 : ∀ w ∈ wsL_law_r18, w ∈ lw_tbl := fun w h => (goodIn_p wsL_law_r18 [546, 549, 553, 556] (by decide +kernel) (by decide +kernel) w h).1
theorem in_wsL_law_r19 : ∀ w ∈ wsL_law_r19, w ∈ lw_tbl := fun w h => (goodIn_p wsL_law_r19 [561, 572, 583] (by decide +kernel) (by decide +kernel) w h).1
theorem in_wsL_law_r20 : ∀ w ∈ wsL_law_r20, w ∈ lw_tbl := fun w h => (goodIn_p wsL_law_r20 [594, 605, 616, 1301, 1304, 1308] (by decide +kernel) (by decide +kernel) w h).1
theorem in_wsL_law_r21 : ∀ w ∈ wsL_law_r21, w ∈ lw_tbl := fun w h => (goodIn_p wsL_law_r21 [1312, 628, 632, 636] (by decide +kernel) (by decide +kernel) w h).1
theorem in_wsL_law_r22 : ∀ w ∈ wsL_law_r22, w ∈ lw_tbl := fun w h => (goodIn_p wsL_law_r22 [640, 643, 646, 650, 654, 657, 683] (by decide +kernel) (by decide +kernel) w h).1
theorem in_wsL_law_r23 : ∀ w ∈ wsL_law_r23, w ∈ lw_tbl := fun w h => (goodIn_p wsL_law_r23 [665, 669, 673, 680] (by decide +kernel) (by decide +kernel) w h).1
theorem in_wsL_law_r24 : ∀ w ∈ wsL_law_r24, w ∈ lw_tbl := fun w h => (goodIn_p wsL_law_r24 [1316, 1320, 1324, 1328, 688] (by decide +kernel) (by decide +kernel) w h).1
theorem in_wsL_law_r25 : ∀ w ∈ wsL_law_r25, w ∈ lw_tbl := fun w h => (goodIn_p wsL_law_r25 [692, 697, 700, 704, 1332] (by decide +kernel) (by decide +kernel) w h).1