set_option maxRecDepth 200000 in
theorem wsL_law_in_r5 : ∀ w ∈ wsL_law0_r5, w ∈ lw_tbl := fun w h => (goodIn_p wsL_law0_r5 [453, 449, 457] rfl (by decide +kernel) w h).1
set_option maxRecDepth 200000 in
theorem wsL_law_in_r20 : ∀ w ∈ wsL_law0_r20, w ∈ lw_tbl := fun w h => (goodIn_p wsL_law0_r20 [338, 402, 427, 436] rfl (by decide +kernel) w h).1
