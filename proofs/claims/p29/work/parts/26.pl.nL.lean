set_option maxRecDepth 20000 in
theorem wsL_in23 : ∀ w ∈ wsL_law_r23, w ∈ lw_tbl := fun w h => (goodIn_p wsL_law_r23 [626] (by decide +kernel) (by decide +kernel) w h).1
