def wq_wsL_adds : List Cond := .codeWith yL_adds cL_adds 7 (some .int) [(0, 11, 12, 74), (0, 11, 17, 76), (0, 11, 22, 78)] :: ((wsL_adds_r1 ++ (wsL_adds_r2 ++ (wsL_adds_r3 ++ (wsL_adds_r4 ++ (wsL_adds_r5 ++ (wsL_adds_r6 ++ (wsL_adds_r7 ++ (wsL_adds_r8 ++ wsL_adds_r9)))))))) ++ wsX50 ++ wsX30 ++ wsX00 ++ wsX10 ++ wsX20)
set_option maxRecDepth 20000 in
theorem gp_L_acts_L_adds_0 : GoodIn wsL_acts ((wq_wsL_adds.drop 0).take 60) := goodIn_r _ [267, 194, 12, 268, 2, 3, 269, 270, 271, 272, 16, 273, 274, 275, 21, 213, 20, 200, 201, 202, 203, 204, 23, 24, 25, 26, 27, 229, 230, 231, 232, 233, 234, 235, 236, 237, 28, 29, 30, 31, 32, 33, 34, 35, 36, 37, 38, 39, 40, 41, 42, 43, 44, 45, 46, 47, 48, 49, 50, 51] (by decide +kernel) (by decide +kernel)
set_option maxRecDepth 20000 in
theorem gp_L_acts_L_adds_1 : GoodIn wsL_acts ((wq_wsL_adds.drop 60).take 60) := goodIn_r _ [52, 53, 54, 55, 56, 57, 58, 59, 60, 61, 62, 63, 64, 276, 277, 278, 279, 260, 261, 262, 263, 264, 105, 99, 106, 280, 281, 282, 283, 112, 113, 114, 115, 238, 239, 240, 241, 69, 70, 71, 72, 73, 65, 66, 67, 68, 74, 75, 76, 77, 78, 79, 80, 81, 82, 83, 84, 85, 86, 87] (by decide +kernel) (by decide +kernel)
set_option maxRecDepth 20000 in
theorem gp_L_acts_L_adds_2 : GoodIn wsL_acts ((wq_wsL_adds.drop 120).take 60) := goodIn_r _ [88, 89, 90, 91, 92, 93, 94, 95, 96, 97, 98, 100, 101, 102, 103, 104, 107, 108, 109, 110, 111, 116, 117, 118, 119, 120, 121, 122, 123, 124, 125, 126, 127, 128, 129, 130, 131, 132, 133, 134, 135, 136, 137, 138, 139, 140, 141, 142, 143, 144, 145, 146, 147, 148, 149, 150, 151, 152, 153, 154] (by decide +kernel) (by decide +kernel)
set_option maxRecDepth 20000 in
theorem gp_L_acts_L_adds_3 : GoodIn wsL_acts ((wq_wsL_adds.drop 180).take 60) := goodIn_r _ [155, 156, 157, 158, 159, 160, 161, 162, 163, 164, 165, 166, 167, 168, 169, 170, 171, 172, 173, 174, 175, 176, 177, 178, 179, 180, 181, 182, 183, 184, 185, 186, 187, 188, 189, 190, 284, 285, 286, 287, 288, 289, 290, 291, 292, 293, 294, 295, 296, 297, 298, 299, 300, 301, 302, 303, 304, 305, 306, 307] (by decide +kernel) (by decide +kernel)
set_option maxRecDepth 20000 in
theorem gp_L_acts_L_adds_4 : GoodIn wsL_acts ((wq_wsL_adds.drop 240).take 60) := goodIn_r _ [308, 309, 310, 311, 312, 313, 314, 315] (by decide +kernel) (by decide +kernel)
theorem gp_L_acts_L_adds_e : GoodIn wsL_acts (wq_wsL_adds.drop 300) := goodIn_of _ (by decide +kernel)
theorem gh_L_acts_L_adds_4 : GoodIn wsL_acts (wq_wsL_adds.drop 240) := by
  refine gdg_cut (k := 60) gp_L_acts_L_adds_4 ?_
  rw [List.drop_drop]
  exact gp_L_acts_L_adds_e
theorem gh_L_acts_L_adds_3 : GoodIn wsL_acts (wq_wsL_adds.drop 180) := by
  refine gdg_cut (k := 60) gp_L_acts_L_adds_3 ?_
  rw [List.drop_drop]
  exact gh_L_acts_L_adds_4
theorem gh_L_acts_L_adds_2 : GoodIn wsL_acts (wq_wsL_adds.drop 120) := by
  refine gdg_cut (k := 60) gp_L_acts_L_adds_2 ?_
  rw [List.drop_drop]
  exact gh_L_acts_L_adds_3
theorem gh_L_acts_L_adds_1 : GoodIn wsL_acts (wq_wsL_adds.drop 60) := by
  refine gdg_cut (k := 60) gp_L_acts_L_adds_1 ?_
  rw [List.drop_drop]
  exact gh_L_acts_L_adds_2
theorem gh_L_acts_L_adds_0 : GoodIn wsL_acts wq_wsL_adds := gdg_cut (k := 60) gp_L_acts_L_adds_0 gh_L_acts_L_adds_1
set_option maxRecDepth 20000 in
theorem ggL_acts_L_adds : GoodIn wsL_acts wsL_adds := goodIn_ca (goodIn_ca (goodIn_ca gh_L_acts_L_adds_0 (goodIn_sub (fun _ h => List.mem_cons_of_mem _ (List.mem_append_right _ h)) (by decide +kernel))) (goodIn_sub (fun _ h => List.mem_cons_of_mem _ (List.mem_append_left _ (List.mem_append_right _ h))) (by decide +kernel))) (goodIn_sub (fun _ h => List.mem_cons_of_mem _ (List.mem_append_left _ (List.mem_append_left _ (List.mem_append_right _ h)))) (by decide +kernel))
