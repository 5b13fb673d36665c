def wq_wsL_ends : List Cond := .codeWith yL_ends cL_ends 4 (some .int) [(0, 6, 7, 74)] :: ((wsL_ends_r1 ++ (wsL_ends_r2 ++ (wsL_ends_r3 ++ (wsL_ends_r4 ++ (wsL_ends_r5 ++ (wsL_ends_r6 ++ (wsL_ends_r7 ++ wsL_ends_r8))))))) ++ wsX50 ++ wsX30 ++ wsX00 ++ wsX10 ++ wsX20)
set_option maxRecDepth 20000 in
theorem gp_L_acts_L_ends_0 : GoodIn wsL_acts ((wq_wsL_ends.drop 0).take 60) := goodIn_r _ [208, 194, 2, 209, 210, 211, 16, 212, 21, 213, 20, 200, 201, 202, 203, 204, 28, 29, 30, 31, 32, 33, 34, 35, 36, 37, 38, 39, 40, 41, 42, 43, 44, 45, 46, 47, 48, 49, 50, 51, 52, 53, 54, 55, 56, 57, 58, 59, 60, 61, 62, 63, 64, 214, 215, 216, 217, 112, 113, 114] (by decide +kernel) (by decide +kernel)
set_option maxRecDepth 20000 in
theorem gp_L_acts_L_ends_1 : GoodIn wsL_acts ((wq_wsL_ends.drop 60).take 60) := goodIn_r _ [115, 218, 219, 220, 221, 69, 70, 71, 72, 73, 65, 66, 67, 68, 74, 75, 76, 77, 78, 79, 80, 81, 82, 83, 84, 85, 86, 87, 88, 89, 90, 91, 92, 93, 94, 95, 96, 97, 98, 99, 100, 101, 102, 103, 104, 105, 106, 107, 108, 109, 110, 111, 116, 117, 118, 119, 120, 121, 122, 123] (by decide +kernel) (by decide +kernel)
set_option maxRecDepth 20000 in
theorem gp_L_acts_L_ends_2 : GoodIn wsL_acts ((wq_wsL_ends.drop 120).take 60) := goodIn_r _ [124, 125, 126, 127, 128, 129, 130, 131, 132, 133, 134, 135, 136, 137, 138, 139, 140, 141, 142, 143, 144, 145, 146, 147, 148, 149, 150, 151, 152, 153, 154, 155, 156, 157, 158, 159, 160, 161, 162, 163, 164, 165, 166, 167, 168, 169, 170, 171, 172, 173, 174, 175, 176, 177, 178, 179, 180, 181, 182, 183] (by decide +kernel) (by decide +kernel)
set_option maxRecDepth 20000 in
theorem gp_L_acts_L_ends_3 : GoodIn wsL_acts ((wq_wsL_ends.drop 180).take 60) := goodIn_r _ [184, 185, 186, 187, 188, 189, 190, 284, 285, 286, 287, 288, 289, 290, 291, 292, 293, 294, 295, 296, 297, 298, 299, 300, 301, 302, 303, 304, 305, 306, 307, 308, 309, 310, 311, 312, 313, 314, 315] (by decide +kernel) (by decide +kernel)
theorem gp_L_acts_L_ends_e : GoodIn wsL_acts (wq_wsL_ends.drop 240) := goodIn_of _ (by decide +kernel)
theorem gh_L_acts_L_ends_3 : GoodIn wsL_acts (wq_wsL_ends.drop 180) := by
  refine gdg_cut (k := 60) gp_L_acts_L_ends_3 ?_
  rw [List.drop_drop]
  exact gp_L_acts_L_ends_e
theorem gh_L_acts_L_ends_2 : GoodIn wsL_acts (wq_wsL_ends.drop 120) := by
  refine gdg_cut (k := 60) gp_L_acts_L_ends_2 ?_
  rw [List.drop_drop]
  exact gh_L_acts_L_ends_3
theorem gh_L_acts_L_ends_1 : GoodIn wsL_acts (wq_wsL_ends.drop 60) := by
  refine gdg_cut (k := 60) gp_L_acts_L_ends_1 ?_
  rw [List.drop_drop]
  exact gh_L_acts_L_ends_2
theorem gh_L_acts_L_ends_0 : GoodIn wsL_acts wq_wsL_ends := gdg_cut (k := 60) gp_L_acts_L_ends_0 gh_L_acts_L_ends_1
set_option maxRecDepth 20000 in
theorem ggL_acts_L_ends : GoodIn wsL_acts wsL_ends := goodIn_ca gh_L_acts_L_ends_0 (goodIn_sub (fun _ h => List.mem_cons_of_mem _ (List.mem_append_left _ (List.mem_append_right _ h))) (by decide +kernel))
