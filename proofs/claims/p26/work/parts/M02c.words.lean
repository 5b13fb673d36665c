set_option maxRecDepth 20000 in
theorem lw4a : ∀ w ∈ wsL_law0_r4.take 4, w ∈ lw_tbl := fun w h => (goodIn_p (wsL_law0_r4.take 4) [553] (by decide +kernel) (by decide +kernel) w h).1
