def wq_wsL_drops : List Cond := .codeWith yL_drops cL_drops 3 (some .int) [(0, 5, 6, 74)] :: ((wsL_drops_r1 ++ (wsL_drops_r2 ++ (wsL_drops_r3 ++ (wsL_drops_r4 ++ (wsL_drops_r5 ++ (wsL_drops_r6 ++ (wsL_drops_r7 ++ wsL_drops_r8))))))) ++ wsX50 ++ wsX30 ++ wsX00 ++ wsX10 ++ wsX20)
set_option maxRecDepth 20000 in
theorem gp_L_acts_L_drops_0 : GoodIn wsL_acts ((wq_wsL_drops.drop 0).take 60) := goodIn_r _ [251, 194, 2, 252, 253, 254, 16, 255, 21, 213, 20, 200, 201, 202, 203, 204, 28, 29, 30, 31, 32, 33, 34, 35, 36, 37, 38, 39, 40, 41, 42, 43, 44, 45, 46, 47, 48, 49, 50, 51, 52, 53, 54, 55, 56, 57, 58, 59, 60, 61, 62, 63, 64, 256, 257, 258, 259, 112, 113, 114] (by decide +kernel) (by decide +kernel)
set_option maxRecDepth 20000 in
theorem gp_L_acts_L_drops_1 : GoodIn wsL_acts ((wq_wsL_drops.drop 60).take 60) := goodIn_r _ [115, 260, 261, 262, 263, 264, 105, 99, 106, 69, 70, 71, 72, 73, 65, 66, 67, 68, 74, 75, 76, 77, 78, 79, 80, 81, 82, 83, 84, 85, 86, 87, 88, 89, 90, 91, 92, 93, 94, 95, 96, 97, 98, 100, 101, 102, 103, 104, 107, 108, 109, 110, 111, 116, 117, 118, 119, 120, 121, 122] (by decide +kernel) (by decide +kernel)
set_option maxRecDepth 20000 in
theorem gp_L_acts_L_drops_2 : GoodIn wsL_acts ((wq_wsL_drops.drop 120).take 60) := goodIn_r _ [123, 124, 125, 126, 127, 128, 129, 130, 131, 132, 133, 134, 135, 136, 137, 138, 139, 140, 141, 142, 143, 144, 145, 146, 147, 148, 149, 150, 151, 152, 153, 154, 155, 156, 157, 158, 159, 160, 161, 162, 163, 164, 165, 166, 167, 168, 169, 170, 171, 172, 173, 174, 175, 176, 177, 178, 179, 180, 181, 182] (by decide +kernel) (by decide +kernel)
set_option maxRecDepth 20000 in
theorem gp_L_acts_L_drops_3 : GoodIn wsL_acts ((wq_wsL_drops.drop 180).take 60) := goodIn_r _ [183, 184, 185, 186, 187, 188, 189, 190, 284, 285, 286, 287, 288, 289, 290, 291, 292, 293, 294, 295, 296, 297, 298, 299, 300, 301, 302, 303, 304, 305, 306, 307, 308, 309, 310, 311, 312, 313, 314, 315] (by decide +kernel) (by decide +kernel)
theorem gp_L_acts_L_drops_e : GoodIn wsL_acts (wq_wsL_drops.drop 240) := goodIn_of _ (by decide +kernel)
theorem gh_L_acts_L_drops_3 : GoodIn wsL_acts (wq_wsL_drops.drop 180) := by
  refine gdg_cut (k := 60) gp_L_acts_L_drops_3 ?_
  rw [List.drop_drop]
  exact gp_L_acts_L_drops_e
theorem gh_L_acts_L_drops_2 : GoodIn wsL_acts (wq_wsL_drops.drop 120) := by
  refine gdg_cut (k := 60) gp_L_acts_L_drops_2 ?_
  rw [List.drop_drop]
  exact gh_L_acts_L_drops_3
theorem gh_L_acts_L_drops_1 : GoodIn wsL_acts (wq_wsL_drops.drop 60) := by
  refine gdg_cut (k := 60) gp_L_acts_L_drops_1 ?_
  rw [List.drop_drop]
  exact gh_L_acts_L_drops_2
theorem gh_L_acts_L_drops_0 : GoodIn wsL_acts wq_wsL_drops := gdg_cut (k := 60) gp_L_acts_L_drops_0 gh_L_acts_L_drops_1
set_option maxRecDepth 20000 in
theorem ggL_acts_L_drops : GoodIn wsL_acts wsL_drops := goodIn_ca gh_L_acts_L_drops_0 (goodIn_sub (fun _ h => List.mem_cons_of_mem _ (List.mem_append_left _ (List.mem_append_right _ h))) (by decide +kernel))
