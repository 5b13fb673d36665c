def wq_wsL_wordOf : List Cond := .codeWith yL_wordOf cL_wordOf 4 (some .int) [(0, 6, 7, 74), (0, 6, 11, 76)] :: ((wsL_wordOf_r1 ++ (wsL_wordOf_r2 ++ (wsL_wordOf_r3 ++ wsL_wordOf_r4))) ++ wsX50 ++ wsX30 ++ wsX10)
set_option maxRecDepth 20000 in
theorem gp_L_isSo_L_wordOf_0 : GoodIn wsL_isSo ((wq_wsL_wordOf.drop 0).take 60) := goodIn_r _ [121, 93, 28, 1, 29, 122, 123, 124, 33, 125, 44, 45, 98, 99, 100, 101, 102, 35, 36, 37, 38, 39, 126, 127, 128, 129, 46, 130, 131, 132, 69, 133, 134, 135, 136, 137, 54, 138, 139, 62, 63, 64, 65, 56, 140, 141, 142, 143, 144, 145, 146, 147, 148, 149, 150, 151, 152, 153, 154, 155] (by decide +kernel) (by decide +kernel)
set_option maxRecDepth 20000 in
theorem gp_L_isSo_L_wordOf_1 : GoodIn wsL_isSo ((wq_wsL_wordOf.drop 60).take 60) := goodIn_r _ [156, 157, 158, 159, 160, 161, 61, 115, 77, 78, 79, 80, 162, 163, 164, 165, 193, 194, 195, 196, 197, 198, 199, 200, 201, 202, 203, 204, 205, 206, 207, 208, 209, 210, 211, 212, 213, 214] (by decide +kernel) (by decide +kernel)
theorem gp_L_isSo_L_wordOf_e : GoodIn wsL_isSo (wq_wsL_wordOf.drop 120) := goodIn_of _ (by decide +kernel)
theorem gh_L_isSo_L_wordOf_1 : GoodIn wsL_isSo (wq_wsL_wordOf.drop 60) := by
  refine gdg_cut (k := 60) gp_L_isSo_L_wordOf_1 ?_
  rw [List.drop_drop]
  exact gp_L_isSo_L_wordOf_e
theorem gh_L_isSo_L_wordOf_0 : GoodIn wsL_isSo wq_wsL_wordOf := gdg_cut (k := 60) gp_L_isSo_L_wordOf_0 gh_L_isSo_L_wordOf_1
set_option maxRecDepth 20000 in
theorem ggL_isSo_L_wordOf : GoodIn wsL_isSo wsL_wordOf := goodIn_ca (goodIn_ca gh_L_isSo_L_wordOf_0 (goodIn_sub (fun _ h => List.mem_cons_of_mem _ (List.mem_append_right _ h)) (by decide +kernel))) (goodIn_sub (fun _ h => List.mem_cons_of_mem _ (List.mem_append_left _ (List.mem_append_right _ h))) (by decide +kernel))
