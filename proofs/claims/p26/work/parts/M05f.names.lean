def wq_wsL_isSo : List Cond := .code yL_isSo cL_isSo 23 (some .boolean) :: ((wsL_isSo_r1 ++ (wsL_isSo_r2 ++ (wsL_isSo_r3 ++ (wsL_isSo_r4 ++ (wsL_isSo_r5 ++ (wsL_isSo_r6 ++ (wsL_isSo_r7 ++ wsL_isSo_r8))))))) ++ wsX50 ++ wsX30 ++ wsX10 ++ wsX40)
set_option maxRecDepth 20000 in
theorem gp_L_law_L_isSo_00 : GoodIn wsL_law (wq_wsL_isSo.take 1) := fun w h => by
  have e : wq_wsL_isSo.take 1 = [Cond.code yL_isSo cL_isSo 23 (some .boolean)] := rfl
  rw [e] at h
  rcases List.mem_cons.mp h with rfl | h
  · exact ⟨List.mem_of_getElem? (l := wsL_law) (i := 78) rfl, good_of_word rfl⟩
  · cases h
set_option maxRecDepth 20000 in
theorem gp_L_law_L_isSo_01 : GoodIn wsL_law ((wq_wsL_isSo.drop 1).take 59) := goodIn_r _ [6, 79, 80, 74, 81, 3, 82, 83, 84, 85, 86, 87, 88, 89, 90, 91, 92, 93, 94, 95, 96, 97, 98, 99, 100, 101, 102, 103, 5, 104, 105, 106, 2, 107, 108, 109, 110, 111, 112, 113, 114, 115, 116, 16, 117, 20, 118, 119, 25, 120, 121, 122, 123, 15, 124, 125, 126, 127, 128] (by decide +kernel) (by decide +kernel)
set_option maxRecDepth 20000 in
theorem gp_L_law_L_isSo_1 : GoodIn wsL_law ((wq_wsL_isSo.drop 60).take 60) := goodIn_r _ [129, 40, 130, 131, 132, 133, 134, 135, 136, 19, 137, 138, 139, 140, 141, 142, 143, 144, 145, 146, 52, 147, 148, 149, 150, 151, 152, 153, 154, 47, 155, 156, 157, 158, 159, 160, 161, 162, 163, 164, 165, 166, 167, 168, 169, 170, 171, 48, 172, 173, 174, 175, 176, 177, 178, 179, 180, 181, 182, 183] (by decide +kernel) (by decide +kernel)
set_option maxRecDepth 20000 in
theorem gp_L_law_L_isSo_2 : GoodIn wsL_law ((wq_wsL_isSo.drop 120).take 60) := goodIn_r _ [184, 185, 186, 187, 188, 189, 190, 191, 192, 193, 194, 195, 196, 197, 54, 198, 199, 200, 201, 35, 202, 203, 204, 205, 36, 37, 38, 206, 207, 208, 209, 210, 211, 212, 213, 214, 215, 216, 217, 218, 219, 220, 221, 222, 223, 224, 225, 226, 227, 228, 229, 230, 231, 232, 233, 234, 235, 53, 236, 237] (by decide +kernel) (by decide +kernel)
set_option maxRecDepth 20000 in
theorem gp_L_law_L_isSo_3 : GoodIn wsL_law ((wq_wsL_isSo.drop 180).take 60) := goodIn_r _ [238, 239, 240, 241, 242, 243, 244, 245, 246, 247, 248, 249, 250, 454, 455, 456, 457, 458, 459, 460, 461, 462, 463, 464, 465, 466, 467, 468, 469, 470, 471, 472, 473, 474, 475, 476, 477, 478] (by decide +kernel) (by decide +kernel)
theorem gp_L_law_L_isSo_e : GoodIn wsL_law (wq_wsL_isSo.drop 240) := goodIn_of _ (by decide +kernel)
theorem gh_L_law_L_isSo_3 : GoodIn wsL_law (wq_wsL_isSo.drop 180) := by
  refine gdg_cut (k := 60) gp_L_law_L_isSo_3 ?_
  rw [List.drop_drop]
  exact gp_L_law_L_isSo_e
theorem gh_L_law_L_isSo_2 : GoodIn wsL_law (wq_wsL_isSo.drop 120) := by
  refine gdg_cut (k := 60) gp_L_law_L_isSo_2 ?_
  rw [List.drop_drop]
  exact gh_L_law_L_isSo_3
theorem gh_L_law_L_isSo_1 : GoodIn wsL_law (wq_wsL_isSo.drop 60) := by
  refine gdg_cut (k := 60) gp_L_law_L_isSo_1 ?_
  rw [List.drop_drop]
  exact gh_L_law_L_isSo_2
theorem gh_L_law_L_isSo_00 : GoodIn wsL_law (wq_wsL_isSo.drop 1) := by
  refine gdg_cut (k := 59) gp_L_law_L_isSo_01 ?_
  rw [List.drop_drop]
  exact gh_L_law_L_isSo_1
theorem gh_L_law_L_isSo_0 : GoodIn wsL_law wq_wsL_isSo := gdg_cut (k := 1) gp_L_law_L_isSo_00 gh_L_law_L_isSo_00
set_option maxRecDepth 20000 in
theorem ggL_law_L_isSo : GoodIn wsL_law wsL_isSo := goodIn_ca (goodIn_ca gh_L_law_L_isSo_0 (goodIn_sub (fun _ h => List.mem_append_left _ (List.mem_append_left _ (List.mem_append_right _ h))) (by decide +kernel))) (goodIn_sub (fun _ h => List.mem_append_left _ (List.mem_append_right _ h)) (by decide +kernel))
