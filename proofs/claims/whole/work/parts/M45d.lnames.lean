/-! The words of the last method: in pieces, for the memory of one row. -/
set_option maxRecDepth 20000 in
theorem gdg_0 : GoodIn wsL_law ((wsX6_digest.drop 0).take 40) := goodIn_r _ [807, 288, 808, 809, 308, 77, 452, 453, 441, 442, 443, 5, 444, 445, 446, 447, 448, 449, 450, 451, 454, 455, 456, 457, 81, 82, 458, 459, 460, 461, 355, 356, 357, 358, 462, 463, 464, 465, 375, 376] (by decide +kernel) (by decide +kernel)
set_option maxRecDepth 20000 in
theorem gdg_1 : GoodIn wsL_law ((wsX6_digest.drop 40).take 40) := goodIn_r _ [377, 371, 372, 373, 374, 378, 379, 380, 466, 467, 468, 469, 810, 811, 812, 813, 814, 559, 560, 561, 562, 563, 564, 565, 566, 567, 568, 569, 570, 571, 506, 507, 508, 509, 470, 471, 472, 473, 474, 475] (by decide +kernel) (by decide +kernel)
set_option maxRecDepth 20000 in
theorem gdg_2 : GoodIn wsL_law ((wsX6_digest.drop 80).take 40) := goodIn_r _ [476, 477, 478, 479, 480, 481, 815, 816, 817, 818, 494, 495, 496, 497, 498, 499, 500, 501, 502, 503, 504, 505, 759, 760, 761, 762, 727, 728, 729, 526, 527, 528, 529, 825, 826, 827, 828, 829, 830, 831] (by decide +kernel) (by decide +kernel)
set_option maxRecDepth 20000 in
theorem gdg_3 : GoodIn wsL_law ((wsX6_digest.drop 120).take 40) := goodIn_r _ [832, 833, 834, 835, 836, 837, 838, 839, 840] (by decide +kernel) (by decide +kernel)
theorem gdg_cut {big ws : List Cond} {k : Nat} (h1 : GoodIn big (ws.take k)) (h2 : GoodIn big (ws.drop k)) : GoodIn big ws := by
  have h := goodIn_app h1 h2
  rw [List.take_append_drop] at h
  exact h
theorem gdg_end : GoodIn wsL_law (wsX6_digest.drop 160) := goodIn_of _ (by decide +kernel)
theorem gdh_3 : GoodIn wsL_law (wsX6_digest.drop 120) := by
  refine gdg_cut (k := 40) gdg_3 ?_
  rw [List.drop_drop]
  exact gdg_end
theorem gdh_2 : GoodIn wsL_law (wsX6_digest.drop 80) := by
  refine gdg_cut (k := 40) gdg_2 ?_
  rw [List.drop_drop]
  exact gdh_3
theorem gdh_1 : GoodIn wsL_law (wsX6_digest.drop 40) := by
  refine gdg_cut (k := 40) gdg_1 ?_
  rw [List.drop_drop]
  exact gdh_2
theorem ggL_law_X6_digest : GoodIn wsL_law wsX6_digest := gdg_cut (k := 40) gdg_0 gdh_1
