def wq_wsL_acts : List Cond := .code yL_acts cL_acts 16 (some .boolean) :: ((wsL_acts_r1 ++ (wsL_acts_r2 ++ (wsL_acts_r3 ++ (wsL_acts_r4 ++ (wsL_acts_r5 ++ (wsL_acts_r6 ++ (wsL_acts_r7 ++ (wsL_acts_r8 ++ (wsL_acts_r9 ++ (wsL_acts_r10 ++ (wsL_acts_r11 ++ wsL_acts_r12))))))))))) ++ wsX50 ++ wsX30 ++ wsX00 ++ wsX10 ++ wsX20)
set_option maxRecDepth 20000 in
theorem gp_L_law_L_acts_00 : GoodIn wsL_law (wq_wsL_acts.take 1) := fun w h => by
  have e : wq_wsL_acts.take 1 = [Cond.code yL_acts cL_acts 16 (some .boolean)] := rfl
  rw [e] at h
  rcases List.mem_cons.mp h with rfl | h
  · exact ⟨List.mem_of_getElem? (l := wsL_law) (i := 257) rfl, good_of_word rfl⟩
  · cases h
set_option maxRecDepth 20000 in
theorem gp_L_law_L_acts_01 : GoodIn wsL_law ((wq_wsL_acts.drop 1).take 59) := goodIn_r _ [258, 6, 5, 259, 260, 74, 261, 4, 262, 263, 264, 103, 265, 266, 267, 2, 268, 269, 270, 30, 16, 271, 108, 109, 110, 111, 112, 272, 273, 274, 29, 275, 276, 277, 278, 279, 280, 71, 281, 282, 283, 284, 285, 286, 287, 15, 288, 47, 289, 290, 291, 292, 48, 293, 294, 295, 296, 125, 34] (by decide +kernel) (by decide +kernel)
set_option maxRecDepth 20000 in
theorem gp_L_law_L_acts_1 : GoodIn wsL_law ((wq_wsL_acts.drop 60).take 60) := goodIn_r _ [35, 36, 37, 38, 40, 151, 152, 153, 154, 297, 298, 299, 300, 20, 301, 302, 303, 19, 304, 305, 55, 306, 138, 307, 308, 309, 310, 311, 312, 59, 313, 314, 315, 316, 317, 58, 318, 319, 320, 321, 322, 323, 324, 325, 326, 327, 328, 329, 330, 203, 204, 205, 130, 131, 132, 133, 206, 207, 208, 331] (by decide +kernel) (by decide +kernel)
set_option maxRecDepth 20000 in
theorem gp_L_law_L_acts_2 : GoodIn wsL_law ((wq_wsL_acts.drop 120).take 60) := goodIn_r _ [332, 333, 334, 335, 336, 337, 338, 339, 340, 210, 211, 212, 341, 342, 343, 344, 345, 169, 170, 171, 346, 214, 215, 216, 347, 348, 349, 350, 351, 127, 128, 129, 352, 353, 354, 355, 356, 357, 358, 359, 360, 52, 361, 362, 363, 364, 365, 366, 367, 54, 368, 369, 370, 371, 372, 373, 374, 375, 143, 144] (by decide +kernel) (by decide +kernel)
set_option maxRecDepth 20000 in
theorem gp_L_law_L_acts_3 : GoodIn wsL_law ((wq_wsL_acts.drop 180).take 60) := goodIn_r _ [145, 146, 376, 377, 378, 379, 53, 139, 140, 141, 142, 380, 381, 382, 158, 383, 384, 385, 386, 387, 163, 164, 165, 166, 167, 168, 388, 389, 390, 391, 392, 393, 394, 117, 217, 218, 219, 220, 395, 396, 397, 398, 399, 400, 401, 402, 403, 404, 405, 406, 407, 408, 409, 410, 411, 412, 413, 414, 415, 416] (by decide +kernel) (by decide +kernel)
set_option maxRecDepth 20000 in
theorem gp_L_law_L_acts_4 : GoodIn wsL_law ((wq_wsL_acts.drop 240).take 60) := goodIn_r _ [417, 418, 202, 91, 92, 93, 94, 95, 96, 419, 420, 421, 422, 423, 424, 425, 426, 427, 428, 429, 430, 431, 432, 433, 434, 435, 436, 437, 438, 439, 440, 441, 442, 443, 444, 445, 446, 447, 448, 449, 450, 451, 452, 453, 454, 455, 456, 457, 458, 459, 460, 461, 462, 463, 464, 465, 466, 467, 468, 479] (by decide +kernel) (by decide +kernel)
set_option maxRecDepth 20000 in
theorem gp_L_law_L_acts_5 : GoodIn wsL_law ((wq_wsL_acts.drop 300).take 60) := goodIn_r _ [480, 469, 470, 471, 472, 473, 474, 475, 481, 482, 483, 484, 485, 486, 487, 488] (by decide +kernel) (by decide +kernel)
theorem gp_L_law_L_acts_e : GoodIn wsL_law (wq_wsL_acts.drop 360) := goodIn_of _ (by decide +kernel)
theorem gh_L_law_L_acts_5 : GoodIn wsL_law (wq_wsL_acts.drop 300) := by
  refine gdg_cut (k := 60) gp_L_law_L_acts_5 ?_
  rw [List.drop_drop]
  exact gp_L_law_L_acts_e
theorem gh_L_law_L_acts_4 : GoodIn wsL_law (wq_wsL_acts.drop 240) := by
  refine gdg_cut (k := 60) gp_L_law_L_acts_4 ?_
  rw [List.drop_drop]
  exact gh_L_law_L_acts_5
theorem gh_L_law_L_acts_3 : GoodIn wsL_law (wq_wsL_acts.drop 180) := by
  refine gdg_cut (k := 60) gp_L_law_L_acts_3 ?_
  rw [List.drop_drop]
  exact gh_L_law_L_acts_4
theorem gh_L_law_L_acts_2 : GoodIn wsL_law (wq_wsL_acts.drop 120) := by
  refine gdg_cut (k := 60) gp_L_law_L_acts_2 ?_
  rw [List.drop_drop]
  exact gh_L_law_L_acts_3
theorem gh_L_law_L_acts_1 : GoodIn wsL_law (wq_wsL_acts.drop 60) := by
  refine gdg_cut (k := 60) gp_L_law_L_acts_1 ?_
  rw [List.drop_drop]
  exact gh_L_law_L_acts_2
theorem gh_L_law_L_acts_00 : GoodIn wsL_law (wq_wsL_acts.drop 1) := by
  refine gdg_cut (k := 59) gp_L_law_L_acts_01 ?_
  rw [List.drop_drop]
  exact gh_L_law_L_acts_1
theorem gh_L_law_L_acts_0 : GoodIn wsL_law wq_wsL_acts := gdg_cut (k := 1) gp_L_law_L_acts_00 gh_L_law_L_acts_00
set_option maxRecDepth 20000 in
theorem ggL_law_L_acts : GoodIn wsL_law wsL_acts := goodIn_ca (goodIn_ca (goodIn_ca gh_L_law_L_acts_0 (goodIn_sub (fun _ h => List.mem_append_left _ (List.mem_append_left _ (List.mem_append_right _ h))) (by decide +kernel))) (goodIn_sub (fun _ h => List.mem_append_left _ (List.mem_append_right _ h)) (by decide +kernel))) (goodIn_sub (fun _ h => List.mem_append_right _ h) (by decide +kernel))
