set_option maxRecDepth 20000 in
theorem lw11a : ∀ w ∈ wsL_law0_r11.take 11, w ∈ lw_tbl := fun w h => (goodIn_p (wsL_law0_r11.take 11) [657, 660, 664] (by decide +kernel) (by decide +kernel) w h).1
