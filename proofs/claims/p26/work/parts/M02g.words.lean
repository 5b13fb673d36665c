set_option maxRecDepth 20000 in
theorem lw4e : ∀ w ∈ (((wsL_law0_r4.drop 4).drop 3).drop 3).drop 3, w ∈ lw_tbl := fun w h => (goodIn_p ((((wsL_law0_r4.drop 4).drop 3).drop 3).drop 3) [596, 599, 496] (by decide +kernel) (by decide +kernel) w h).1
theorem lwi_4 : ∀ w ∈ wsL_law0_r4, w ∈ lw_tbl := mem_split 4 lw4a (mem_split 3 lw4b (mem_split 3 lw4c (mem_split 3 lw4d lw4e)))
set_option maxRecDepth 20000 in
theorem lwi_5 : ∀ w ∈ wsL_law0_r5, w ∈ lw_tbl := fun w h => (goodIn_p wsL_law0_r5 [499, 602, 560, 233, 564] (by decide +kernel) (by decide +kernel) w h).1
set_option maxRecDepth 20000 in
theorem lwi_6 : ∀ w ∈ wsL_law0_r6, w ∈ lw_tbl := fun w h => (goodIn_p wsL_law0_r6 [568, 396, 360, 573, 426] (by decide +kernel) (by decide +kernel) w h).1
set_option maxRecDepth 20000 in
theorem lwi_7 : ∀ w ∈ wsL_law0_r7, w ∈ lw_tbl := fun w h => (goodIn_p wsL_law0_r7 [418, 577, 332, 584, 438] (by decide +kernel) (by decide +kernel) w h).1
