
theorem in_wsL_law_r26 : ∀ w ∈ wsL_law_r26, w ∈ lw_tbl := fun w h => (goodIn_p wsL_law_r26 [1336, 1340, 1343, 1346, 710, 1350] (by decide +kernel) (by decide +kernel) w h).1
theorem in_wsL_law_r27 : ∀ w ∈ wsL_law_r27, w ∈ lw_tbl := fun w h => (goodIn_p wsL_law_r27 [715, 719, 724, 729] (by decide +kernel) (by decide +kernel) w h).1
theorem in_wsL_law_r28 : ∀ w ∈ wsL_law_r28, w ∈ lw_tbl := fun w h => (goodIn_p wsL_law_r28 [736, 753, 743, 749, 757] (by decide +kernel) (by decide +kernel) w h).1
theorem in_wsL_law_r29 : ∀ w ∈ wsL_law_r29, w ∈ lw_tbl := fun w h => (goodIn_p wsL_law_r29 [761, 1355, 1359, 1363, 1367, 1370] (by decide +kernel) (by decide +kernel) w h).1
theorem in_wsL_law_r30 : ∀ w ∈ wsL_law_r30, w ∈ lw_tbl := fun w h => (goodIn_p wsL_law_r30 [1373, 1376, 1380, 1384, 765, 769] (by decide +kernel) (by decide +kernel) w h).1
theorem in_wsL_law_r31 : ∀ w ∈ wsL_law_r31, w ∈ lw_tbl := fun w h => (goodIn_p wsL_law_r31 [774, 1388, 778, 782, 1392, 786] (by decide +kernel) (by decide +kernel) w h).1
theorem in_wsL_law_r32 : ∀ w ∈ wsL_law_r32, w ∈ lw_tbl := fun w h => (goodIn_p wsL_law_r32 [1396, 790, 794, 800, 1400] (by decide +kernel) (by decide +kernel) w h).1
theorem in_wsL_law_r33 : ∀ w ∈ wsL_law_r33, w ∈ lw_tbl := fun w h => (goodIn_p wsL_law_r33 [805, 809, 1404, 1408, 814] (by decide +kernel) (by decide +kernel) w h).1