
theorem in_wsL_law_r34 : ∀ w ∈ wsL_law_r34, w ∈ lw_tbl := fun w h => (goodIn_p wsL_law_r34 [1412, 818, 822, 829, 833] (by decide +kernel) (by decide +kernel) w h).1
theorem in_wsL_law_r35 : ∀ w ∈ wsL_law_r35, w ∈ lw_tbl := fun w h => (goodIn_p wsL_law_r35 [838, 841, 845, 850, 853, 856, 859] (by decide +kernel) (by decide +kernel) w h).1
theorem in_wsL_law_r36 : ∀ w ∈ wsL_law_r36, w ∈ lw_tbl := fun w h => (goodIn_p wsL_law_r36 [1416, 1420, 1424, 1428, 1432, 1436] (by decide +kernel) (by decide +kernel) w h).1
theorem in_wsL_law_r37 : ∀ w ∈ wsL_law_r37, w ∈ lw_tbl := fun w h => (goodIn_p wsL_law_r37 [1440, 1443, 1446, 863, 867, 871] (by decide +kernel) (by decide +kernel) w h).1
theorem in_wsL_law_r38 : ∀ w ∈ wsL_law_r38, w ∈ lw_tbl := fun w h => (goodIn_p wsL_law_r38 [874, 879, 883, 1450, 1454, 1458] (by decide +kernel) (by decide +kernel) w h).1
theorem in_wsL_law_r39 : ∀ w ∈ wsL_law_r39, w ∈ lw_tbl := fun w h => (goodIn_p wsL_law_r39 [1461, 887, 1465, 891, 1469] (by decide +kernel) (by decide +kernel) w h).1
theorem in_wsL_law_r40 : ∀ w ∈ wsL_law_r40, w ∈ lw_tbl := fun w h => (goodIn_p wsL_law_r40 [896, 1473, 901, 1477, 905, 1481] (by decide +kernel) (by decide +kernel) w h).1
theorem in_wsL_law_r41 : ∀ w ∈ wsL_law_r41, w ∈ lw_tbl := fun w h => (goodIn_p wsL_law_r41 [909, 1485, 914, 918] (by decide +kernel) (by decide +kernel) w h).1