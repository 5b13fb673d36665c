set_option maxRecDepth 20000 in
theorem lw11b : ∀ w ∈ (wsL_law0_r11.drop 11).take 4, w ∈ lw_tbl := fun w h => (goodIn_p ((wsL_law0_r11.drop 11).take 4) [213] (by decide +kernel) (by decide +kernel) w h).1
set_option maxRecDepth 20000 in
theorem lw11c : ∀ w ∈ ((wsL_law0_r11.drop 11).drop 4).take 3, w ∈ lw_tbl := fun w h => (goodIn_p (((wsL_law0_r11.drop 11).drop 4).take 3) [221] (by decide +kernel) (by decide +kernel) w h).1
