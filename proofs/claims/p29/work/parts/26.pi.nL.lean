set_option maxRecDepth 20000 in
theorem wsL_in17 : ∀ w ∈ wsL_law_r17, w ∈ lw_tbl := fun w h => (goodIn_p wsL_law_r17 [482, 485, 489, 493, 497, 501] rfl (by decide +kernel) w h).1
set_option maxRecDepth 20000 in
theorem wsL_in18 : ∀ w ∈ wsL_law_r18, w ∈ lw_tbl := fun w h => (goodIn_p wsL_law_r18 [505, 509, 513, 516, 520, 524, 528] rfl (by decide +kernel) w h).1
