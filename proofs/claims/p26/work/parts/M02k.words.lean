set_option maxRecDepth 20000 in
theorem lw11d : ∀ w ∈ ((wsL_law0_r11.drop 11).drop 4).drop 3, w ∈ lw_tbl := fun w h => (goodIn_p (((wsL_law0_r11.drop 11).drop 4).drop 3) [217] (by decide +kernel) (by decide +kernel) w h).1
theorem lwi_11 : ∀ w ∈ wsL_law0_r11, w ∈ lw_tbl := mem_split 11 lw11a (mem_split 4 lw11b (mem_split 3 lw11c lw11d))
set_option maxRecDepth 20000 in
theorem lwi_12 : ∀ w ∈ wsL_law0_r12, w ∈ lw_tbl := fun w h => (goodIn_p wsL_law0_r12 [230, 309, 313, 317] (by decide +kernel) (by decide +kernel) w h).1
set_option maxRecDepth 20000 in
theorem lwi_13 : ∀ w ∈ wsL_law0_r13, w ∈ lw_tbl := fun w h => (goodIn_p wsL_law0_r13 [321, 325, 336, 340] (by decide +kernel) (by decide +kernel) w h).1
