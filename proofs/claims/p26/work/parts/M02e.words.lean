set_option maxRecDepth 20000 in
theorem lw4c : ∀ w ∈ ((wsL_law0_r4.drop 4).drop 3).take 3, w ∈ lw_tbl := fun w h => (goodIn_p (((wsL_law0_r4.drop 4).drop 3).take 3) [590] (by decide +kernel) (by decide +kernel) w h).1
