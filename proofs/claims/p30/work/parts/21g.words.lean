
theorem in_wsL_law_r49 : ∀ w ∈ wsL_law_r49, w ∈ lw_tbl := fun w h => (goodIn_p wsL_law_r49 [1520, 1082, 1087, 1090, 1095] (by decide +kernel) (by decide +kernel) w h).1
theorem in_wsL_law_r50 : ∀ w ∈ wsL_law_r50, w ∈ lw_tbl := fun w h => (goodIn_p wsL_law_r50 [1100, 1524, 1104, 1115] (by decide +kernel) (by decide +kernel) w h).1
theorem in_wsL_law_r51 : ∀ w ∈ wsL_law_r51, w ∈ lw_tbl := fun w h => (goodIn_p wsL_law_r51 [1528, 1121, 1125, 1532, 1130] (by decide +kernel) (by decide +kernel) w h).1
theorem in_wsL_law_r52 : ∀ w ∈ wsL_law_r52, w ∈ lw_tbl := fun w h => (goodIn_p wsL_law_r52 [1536, 1134, 1540] (by decide +kernel) (by decide +kernel) w h).1
set_option maxRecDepth 20000 in
theorem in_wsX110 : ∀ w ∈ wsX110, w ∈ lw_tbl := by decide +kernel