set_option maxRecDepth 20000 in
theorem wsL_law0_r9_in : ∀ w ∈ wsL_law0_r9, w ∈ lw_tbl := fun w h => (goodIn_p wsL_law0_r9 [375, 381, 517, 522, 526] (by decide +kernel) (by decide +kernel) w h).1
