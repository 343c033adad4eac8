
theorem in_wsL_law_r42 : ∀ w ∈ wsL_law_r42, w ∈ lw_tbl := fun w h => (goodIn_p wsL_law_r42 [1025, 930, 934, 937, 946, 949] (by decide +kernel) (by decide +kernel) w h).1
theorem in_wsL_law_r43 : ∀ w ∈ wsL_law_r43, w ∈ lw_tbl := fun w h => (goodIn_p wsL_law_r43 [958, 962, 966, 970, 973] (by decide +kernel) (by decide +kernel) w h).1
theorem in_wsL_law_r44 : ∀ w ∈ wsL_law_r44, w ∈ lw_tbl := fun w h => (goodIn_p wsL_law_r44 [978, 981, 1003] (by decide +kernel) (by decide +kernel) w h).1
theorem in_wsL_law_r45 : ∀ w ∈ wsL_law_r45, w ∈ lw_tbl := fun w h => (goodIn_p wsL_law_r45 [926, 1018, 1049] (by decide +kernel) (by decide +kernel) w h).1
theorem in_wsL_law_r46 : ∀ w ∈ wsL_law_r46, w ∈ lw_tbl := fun w h => (goodIn_p wsL_law_r46 [1035, 1041, 1057, 1077] (by decide +kernel) (by decide +kernel) w h).1
theorem in_wsL_law_r47 : ∀ w ∈ wsL_law_r47, w ∈ lw_tbl := fun w h => (goodIn_p wsL_law_r47 [1067, 1489, 1493] (by decide +kernel) (by decide +kernel) w h).1
theorem in_wsL_law_r48 : ∀ w ∈ wsL_law_r48, w ∈ lw_tbl := fun w h => (goodIn_p wsL_law_r48 [1496, 1500, 1504, 1508, 1512, 1516] (by decide +kernel) (by decide +kernel) w h).1