set_option maxRecDepth 20000 in
theorem ggL_wholeOf_X5_whole : GoodIn wsL_wholeOf wsX5_whole := goodIn_ca (goodIn_r _ [7, 8, 9, 6, 10, 11, 12, 13, 14, 15, 16, 17, 18, 19, 20, 21, 22, 23, 24, 25, 26, 27, 28, 29, 30, 31, 32, 33, 34, 35, 36, 37, 38, 39, 40, 41, 42, 43, 44, 45, 46, 47, 48, 49, 50, 51, 52, 53, 54, 55, 56, 57, 58, 59, 60, 61, 62, 63, 64, 65, 66, 67, 68, 69, 70, 71, 72, 73, 74, 75, 76, 77, 78, 79, 80, 81, 82, 83, 84, 85, 86, 87] (by decide +kernel) (by decide +kernel)) (goodIn_sub (fun _ h => List.mem_cons_of_mem _ (List.mem_append_right _ h)) (by decide +kernel))
set_option maxRecDepth 20000 in
theorem gL_wholeOf_X5_whole : GoodIn wsL_wholeOf (wsV RL 107 RX5 yX5_whole wsX5_whole) := goodIn_app (goodIn_of _ (by decide +kernel)) ggL_wholeOf_X5_whole
theorem dL_wholeOf_0 : decode cL_wholeOf 0 = .ok (.aload_n 0, 1) := by decide +kernel
theorem dL_wholeOf_1 : decode cL_wholeOf 1 = .ok (.iload_n 1, 1) := by decide +kernel
theorem dL_wholeOf_2 : decode cL_wholeOf 2 = .ok (.invokevirtual 107, 3) := by decide +kernel
theorem dL_wholeOf_5 : decode cL_wholeOf 5 = .ok (.ireturn, 1) := by decide +kernel
theorem dL_wholeOf_6 : decode cL_wholeOf 6 = .ok (.astore_n 2, 1) := by decide +kernel
theorem dL_wholeOf_7 : decode cL_wholeOf 7 = .ok (.ldc 67, 2) := by decide +kernel
theorem dL_wholeOf_9 : decode cL_wholeOf 9 = .ok (.ireturn, 1) := by decide +kernel
set_option maxRecDepth 20000 in
theorem ggL_shareOf_X5_share : GoodIn wsL_shareOf wsX5_share := goodIn_ca (goodIn_r _ [7, 8, 9, 10, 6, 11, 12, 13, 14, 15, 16, 17, 18, 19, 20, 21, 22, 23, 24, 25, 26, 27, 28, 29, 30, 31, 32, 33, 34] (by decide +kernel) (by decide +kernel)) (goodIn_sub (fun _ h => List.mem_cons_of_mem _ (List.mem_append_right _ h)) (by decide +kernel))
set_option maxRecDepth 20000 in
theorem gL_shareOf_X5_share : GoodIn wsL_shareOf (wsV RL 110 RX5 yX5_share wsX5_share) := goodIn_app (goodIn_of _ (by decide +kernel)) ggL_shareOf_X5_share
theorem dL_shareOf_0 : decode cL_shareOf 0 = .ok (.aload_n 0, 1) := by decide +kernel
theorem dL_shareOf_1 : decode cL_shareOf 1 = .ok (.iload_n 1, 1) := by decide +kernel
theorem dL_shareOf_2 : decode cL_shareOf 2 = .ok (.invokevirtual 110, 3) := by decide +kernel
theorem dL_shareOf_5 : decode cL_shareOf 5 = .ok (.ireturn, 1) := by decide +kernel
theorem dL_shareOf_6 : decode cL_shareOf 6 = .ok (.astore_n 2, 1) := by decide +kernel
theorem dL_shareOf_7 : decode cL_shareOf 7 = .ok (.ldc 54, 2) := by decide +kernel
theorem dL_shareOf_9 : decode cL_shareOf 9 = .ok (.ireturn, 1) := by decide +kernel
set_option maxRecDepth 20000 in
theorem ggL_isSo_L_lay : GoodIn wsL_isSo wsL_lay := goodIn_r _ [5, 6, 7, 8, 4, 9, 10, 11, 12, 13, 14, 15, 16, 17, 18, 19, 20, 21, 22, 23, 24] (by decide +kernel) (by decide +kernel)
set_option maxRecDepth 20000 in
theorem gL_isSo_L_lay : GoodIn wsL_isSo (va_wsS RL 113 yL_lay wsL_lay) := goodIn_app (goodIn_of _ (by decide +kernel)) ggL_isSo_L_lay
set_option maxRecDepth 20000 in
theorem ggL_isSo_L_wholeOf : GoodIn wsL_isSo wsL_wholeOf := goodIn_ca (goodIn_r _ [27, 28, 29, 30, 31, 32, 33, 34, 35, 36, 37, 38, 39, 40, 41, 42, 43, 44, 45, 46, 47, 48, 49, 50, 51, 52, 53, 54, 55, 56, 57, 58, 59, 60, 61, 62, 63, 64, 65, 66, 67, 68, 69, 70, 71, 72, 73, 74, 75, 76, 77, 78, 79, 80, 81, 82, 83, 84, 85, 86, 87, 88, 89, 193, 194, 195, 196, 197, 198, 199, 200, 201, 202, 203, 204, 205, 206, 207, 208, 209, 210, 211, 212, 213, 214, 215, 216, 217] (by decide +kernel) (by decide +kernel)) (goodIn_sub (fun _ h => List.mem_cons_of_mem _ (List.mem_append_left _ (List.mem_append_right _ h))) (by decide +kernel))
set_option maxRecDepth 20000 in
theorem gL_isSo_L_wholeOf : GoodIn wsL_isSo (va_wsS RL 117 yL_wholeOf wsL_wholeOf) := goodIn_app (goodIn_of _ (by decide +kernel)) ggL_isSo_L_wholeOf
set_option maxRecDepth 20000 in
theorem ggL_isSo_L_shareOf : GoodIn wsL_isSo wsL_shareOf := goodIn_ca (goodIn_r _ [92, 93, 1, 94, 95, 96, 33, 97, 44, 98, 99, 100, 101, 102, 103, 104, 105, 54, 106, 107, 193, 194, 195, 196, 197, 198, 199, 200, 201, 202, 203, 204, 205, 206, 207] (by decide +kernel) (by decide +kernel)) (goodIn_sub (fun _ h => List.mem_cons_of_mem _ (List.mem_append_right _ h)) (by decide +kernel))
set_option maxRecDepth 20000 in
theorem gL_isSo_L_shareOf : GoodIn wsL_isSo (va_wsS RL 120 yL_shareOf wsL_shareOf) := goodIn_app (goodIn_of _ (by decide +kernel)) ggL_isSo_L_shareOf
set_option maxRecDepth 20000 in
theorem ggL_isSo_L_closes : GoodIn wsL_isSo wsL_closes := goodIn_r _ [12] (by decide +kernel) (by decide +kernel)
set_option maxRecDepth 20000 in
theorem gL_isSo_L_closes : GoodIn wsL_isSo (va_wsS RL 19 yL_closes wsL_closes) := goodIn_app (goodIn_of _ (by decide +kernel)) ggL_isSo_L_closes
set_option maxRecDepth 20000 in
theorem ggL_isSo_L_lineOf : GoodIn wsL_isSo wsL_lineOf := goodIn_ca (goodIn_ca (goodIn_r _ [110, 93, 28, 1, 29, 111, 112, 113, 33, 114, 46, 47, 98, 99, 100, 101, 102, 35, 36, 37, 38, 39, 115, 77, 78, 69, 79, 80, 193, 194, 195, 196, 197, 198, 208, 209, 210, 211, 212, 213, 214] (by decide +kernel) (by decide +kernel)) (goodIn_sub (fun _ h => List.mem_cons_of_mem _ (List.mem_append_right _ h)) (by decide +kernel))) (goodIn_sub (fun _ h => List.mem_cons_of_mem _ (List.mem_append_left _ (List.mem_append_right _ h))) (by decide +kernel))
set_option maxRecDepth 20000 in
theorem gL_isSo_L_lineOf : GoodIn wsL_isSo (va_wsS RL 123 yL_lineOf wsL_lineOf) := goodIn_app (goodIn_of _ (by decide +kernel)) ggL_isSo_L_lineOf
set_option maxRecDepth 20000 in
theorem ggL_isSo_L_natural : GoodIn wsL_isSo wsL_natural := goodIn_r _ [15, 16, 17, 4, 18, 19, 20, 21] (by decide +kernel) (by decide +kernel)
set_option maxRecDepth 20000 in
theorem gL_isSo_L_natural : GoodIn wsL_isSo (va_wsS RL 23 yL_natural wsL_natural) := goodIn_app (goodIn_of _ (by decide +kernel)) ggL_isSo_L_natural
set_option maxRecDepth 20000 in
theorem ggL_isSo_L_empty : GoodIn wsL_isSo wsL_empty := goodIn_r _ [118, 13, 14, 4, 15, 16, 17, 18, 19, 20, 21] (by decide +kernel) (by decide +kernel)
set_option maxRecDepth 20000 in
theorem gL_isSo_L_empty : GoodIn wsL_isSo (va_wsS RL 34 yL_empty wsL_empty) := goodIn_app (goodIn_of _ (by decide +kernel)) ggL_isSo_L_empty
