theorem dX5_line_12 : decode cX5_line 12 = .ok (.iconst 0, 1) := by decide +kernel
theorem dX5_line_13 : decode cX5_line 13 = .ok (.bipush 11, 2) := by decide +kernel
theorem dX5_line_15 : decode cX5_line 15 = .ok (.invokestatic 51, 3) := by decide +kernel
theorem dX5_line_18 : decode cX5_line 18 = .ok (.aload_n 0, 1) := by decide +kernel
theorem dX5_line_19 : decode cX5_line 19 = .ok (.getfield 19, 3) := by decide +kernel
theorem dX5_line_22 : decode cX5_line 22 = .ok (.iload_n 1, 1) := by decide +kernel
theorem dX5_line_23 : decode cX5_line 23 = .ok (.iload_n 2, 1) := by decide +kernel
theorem dX5_line_24 : decode cX5_line 24 = .ok (.invokevirtual 124, 3) := by decide +kernel
theorem dX5_line_27 : decode cX5_line 27 = .ok (.ireturn, 1) := by decide +kernel
set_option maxRecDepth 20000 in
theorem ggX5_page_X5_checkIndex : GoodIn wsX5_page wsX5_checkIndex := goodIn_ca (goodIn_r _ [6, 7, 8] (by decide +kernel) (by decide +kernel)) (goodIn_sub (fun _ h => List.mem_cons_of_mem _ (List.mem_append_left _ (List.mem_append_right _ h))) (by decide +kernel))
set_option maxRecDepth 20000 in
theorem gX5_page_X5_checkIndex : GoodIn wsX5_page (va_wsS RX5 47 yX5_checkIndex wsX5_checkIndex) := goodIn_app (goodIn_of _ (by decide +kernel)) ggX5_page_X5_checkIndex
set_option maxRecDepth 20000 in
theorem ggX5_page_X5_checkRange : GoodIn wsX5_page wsX5_checkRange := goodIn_ca (goodIn_r _ [11, 12, 13] (by decide +kernel) (by decide +kernel)) (goodIn_sub (fun _ h => List.mem_cons_of_mem _ (List.mem_append_right _ h)) (by decide +kernel))
set_option maxRecDepth 20000 in
theorem gX5_page_X5_checkRange : GoodIn wsX5_page (va_wsS RX5 51 yX5_checkRange wsX5_checkRange) := goodIn_app (goodIn_of _ (by decide +kernel)) ggX5_page_X5_checkRange
set_option maxRecDepth 20000 in
theorem ggX5_page_X1_pageValue : GoodIn wsX5_page wsX1_pageValue := goodIn_r _ [18, 19, 26, 27, 28, 29, 30, 31, 32] (by decide +kernel) (by decide +kernel)
set_option maxRecDepth 20000 in
theorem gX5_page_X1_pageValue : GoodIn wsX5_page (wsV RX5 130 RX1 yX1_pageValue wsX1_pageValue) := goodIn_app (goodIn_of _ (by decide +kernel)) ggX5_page_X1_pageValue
theorem dX5_page_0 : decode cX5_page 0 = .ok (.iload_n 1, 1) := by decide +kernel
theorem dX5_page_1 : decode cX5_page 1 = .ok (.aload_n 0, 1) := by decide +kernel
theorem dX5_page_2 : decode cX5_page 2 = .ok (.getfield 19, 3) := by decide +kernel
theorem dX5_page_5 : decode cX5_page 5 = .ok (.getfield 127, 3) := by decide +kernel
theorem dX5_page_8 : decode cX5_page 8 = .ok (.invokestatic 47, 3) := by decide +kernel
theorem dX5_page_11 : decode cX5_page 11 = .ok (.iload_n 2, 1) := by decide +kernel
theorem dX5_page_12 : decode cX5_page 12 = .ok (.iconst 0, 1) := by decide +kernel
theorem dX5_page_13 : decode cX5_page 13 = .ok (.iconst 5, 1) := by decide +kernel
theorem dX5_page_14 : decode cX5_page 14 = .ok (.invokestatic 51, 3) := by decide +kernel
theorem dX5_page_17 : decode cX5_page 17 = .ok (.aload_n 0, 1) := by decide +kernel
theorem dX5_page_18 : decode cX5_page 18 = .ok (.getfield 19, 3) := by decide +kernel
theorem dX5_page_21 : decode cX5_page 21 = .ok (.iload_n 1, 1) := by decide +kernel
theorem dX5_page_22 : decode cX5_page 22 = .ok (.iload_n 2, 1) := by decide +kernel
theorem dX5_page_23 : decode cX5_page 23 = .ok (.invokevirtual 130, 3) := by decide +kernel
theorem dX5_page_26 : decode cX5_page 26 = .ok (.ireturn, 1) := by decide +kernel
set_option maxRecDepth 20000 in
theorem ggX5_whole_X5_checkRange : GoodIn wsX5_whole wsX5_checkRange := goodIn_ca (goodIn_r _ [4, 5, 6] (by decide +kernel) (by decide +kernel)) (goodIn_sub (fun _ h => List.mem_cons_of_mem _ (List.mem_append_right _ h)) (by decide +kernel))
set_option maxRecDepth 20000 in
theorem gX5_whole_X5_checkRange : GoodIn wsX5_whole (va_wsS RX5 51 yX5_checkRange wsX5_checkRange) := goodIn_app (goodIn_of _ (by decide +kernel)) ggX5_whole_X5_checkRange
set_option maxRecDepth 20000 in
theorem ggX5_whole_X5_wholeValue : GoodIn wsX5_whole wsX5_wholeValue := goodIn_r _ [10, 11, 12, 13, 14, 15, 16, 17, 18, 19, 20, 21, 22, 23, 24, 25, 26, 27, 28, 29, 30, 31, 32, 33, 34, 35, 36, 37, 38, 39, 40, 41, 42, 43, 44, 45, 46, 47, 48, 49, 50, 51, 52, 53, 54, 55, 56, 57, 58, 59, 60, 61, 62, 63, 64, 65, 66, 67, 68, 69, 70, 71, 72, 73, 74, 75, 76, 77, 78, 79, 80, 81] (by decide +kernel) (by decide +kernel)
set_option maxRecDepth 20000 in
theorem gX5_whole_X5_wholeValue : GoodIn wsX5_whole (wsV RX5 133 RX5 yX5_wholeValue wsX5_wholeValue) := goodIn_app (goodIn_of _ (by decide +kernel)) ggX5_whole_X5_wholeValue
theorem dX5_whole_0 : decode cX5_whole 0 = .ok (.iload_n 1, 1) := by decide +kernel
theorem dX5_whole_1 : decode cX5_whole 1 = .ok (.iconst 0, 1) := by decide +kernel
theorem dX5_whole_2 : decode cX5_whole 2 = .ok (.bipush 13, 2) := by decide +kernel
theorem dX5_whole_4 : decode cX5_whole 4 = .ok (.invokestatic 51, 3) := by decide +kernel
theorem dX5_whole_7 : decode cX5_whole 7 = .ok (.aload_n 0, 1) := by decide +kernel
theorem dX5_whole_8 : decode cX5_whole 8 = .ok (.iload_n 1, 1) := by decide +kernel
theorem dX5_whole_9 : decode cX5_whole 9 = .ok (.invokevirtual 133, 3) := by decide +kernel
theorem dX5_whole_12 : decode cX5_whole 12 = .ok (.ireturn, 1) := by decide +kernel
set_option maxRecDepth 20000 in
theorem ggX5_share_X5_checkIndex : GoodIn wsX5_share wsX5_checkIndex := goodIn_ca (goodIn_r _ [5, 6, 7] (by decide +kernel) (by decide +kernel)) (goodIn_sub (fun _ h => List.mem_cons_of_mem _ (List.mem_append_right _ h)) (by decide +kernel))
set_option maxRecDepth 20000 in
theorem gX5_share_X5_checkIndex : GoodIn wsX5_share (va_wsS RX5 47 yX5_checkIndex wsX5_checkIndex) := goodIn_app (goodIn_of _ (by decide +kernel)) ggX5_share_X5_checkIndex
set_option maxRecDepth 20000 in
theorem ggX5_share_X3_shareOf : GoodIn wsX5_share wsX3_shareOf := goodIn_r _ [12, 13, 20, 21, 22, 23, 24, 25, 26, 27, 28] (by decide +kernel) (by decide +kernel)
set_option maxRecDepth 20000 in
theorem gX5_share_X3_shareOf : GoodIn wsX5_share (wsV RX5 111 RX3 yX3_shareOf wsX3_shareOf) := goodIn_app (goodIn_of _ (by decide +kernel)) ggX5_share_X3_shareOf
theorem dX5_share_0 : decode cX5_share 0 = .ok (.iload_n 1, 1) := by decide +kernel
theorem dX5_share_1 : decode cX5_share 1 = .ok (.bipush 8, 2) := by decide +kernel
theorem dX5_share_3 : decode cX5_share 3 = .ok (.invokestatic 47, 3) := by decide +kernel
theorem dX5_share_6 : decode cX5_share 6 = .ok (.aload_n 0, 1) := by decide +kernel
theorem dX5_share_7 : decode cX5_share 7 = .ok (.getfield 10, 3) := by decide +kernel
theorem dX5_share_10 : decode cX5_share 10 = .ok (.iload_n 1, 1) := by decide +kernel
theorem dX5_share_11 : decode cX5_share 11 = .ok (.invokevirtual 111, 3) := by decide +kernel
theorem dX5_share_14 : decode cX5_share 14 = .ok (.ireturn, 1) := by decide +kernel
set_option maxRecDepth 20000 in
theorem ggX5_unevenness_X1_squaresOfEmpty : GoodIn wsX5_unevenness wsX1_squaresOfEmpty := goodIn_r _ [6, 7, 8, 9, 10, 5, 11, 12, 19, 20, 21, 22, 23, 24, 25] (by decide +kernel) (by decide +kernel)
set_option maxRecDepth 20000 in
theorem gX5_unevenness_X1_squaresOfEmpty : GoodIn wsX5_unevenness (wsV RX5 136 RX1 yX1_squaresOfEmpty wsX1_squaresOfEmpty) := goodIn_app (goodIn_of _ (by decide +kernel)) ggX5_unevenness_X1_squaresOfEmpty
theorem dX5_unevenness_0 : decode cX5_unevenness 0 = .ok (.aload_n 0, 1) := by decide +kernel
theorem dX5_unevenness_1 : decode cX5_unevenness 1 = .ok (.getfield 19, 3) := by decide +kernel
theorem dX5_unevenness_4 : decode cX5_unevenness 4 = .ok (.invokevirtual 136, 3) := by decide +kernel
theorem dX5_unevenness_7 : decode cX5_unevenness 7 = .ok (.ireturn, 1) := by decide +kernel
set_option maxRecDepth 20000 in
theorem ggX5_meanEmpty_X1_sumOf : GoodIn wsX5_meanEmpty wsX1_sumOf := goodIn_r _ [7, 8, 9, 10, 11, 6, 12, 13, 20, 21, 22, 23, 24, 25, 26] (by decide +kernel) (by decide +kernel)
set_option maxRecDepth 20000 in
theorem gX5_meanEmpty_X1_sumOf : GoodIn wsX5_meanEmpty (wsV RX5 140 RX1 yX1_sumOf wsX1_sumOf) := goodIn_app (goodIn_of _ (by decide +kernel)) ggX5_meanEmpty_X1_sumOf
theorem dX5_meanEmpty_0 : decode cX5_meanEmpty 0 = .ok (.aload_n 0, 1) := by decide +kernel
theorem dX5_meanEmpty_1 : decode cX5_meanEmpty 1 = .ok (.getfield 19, 3) := by decide +kernel
theorem dX5_meanEmpty_4 : decode cX5_meanEmpty 4 = .ok (.getfield 121, 3) := by decide +kernel
theorem dX5_meanEmpty_7 : decode cX5_meanEmpty 7 = .ok (.ifCond .gt 5, 3) := by decide +kernel
theorem dX5_meanEmpty_10 : decode cX5_meanEmpty 10 = .ok (.dconst 0, 1) := by decide +kernel
theorem dX5_meanEmpty_11 : decode cX5_meanEmpty 11 = .ok (.dreturn, 1) := by decide +kernel
theorem dX5_meanEmpty_12 : decode cX5_meanEmpty 12 = .ok (.aload_n 0, 1) := by decide +kernel
theorem dX5_meanEmpty_13 : decode cX5_meanEmpty 13 = .ok (.getfield 19, 3) := by decide +kernel
theorem dX5_meanEmpty_16 : decode cX5_meanEmpty 16 = .ok (.bipush 11, 2) := by decide +kernel
theorem dX5_meanEmpty_18 : decode cX5_meanEmpty 18 = .ok (.invokevirtual 140, 3) := by decide +kernel
theorem dX5_meanEmpty_21 : decode cX5_meanEmpty 21 = .ok (.i2d, 1) := by decide +kernel
theorem dX5_meanEmpty_22 : decode cX5_meanEmpty 22 = .ok (.aload_n 0, 1) := by decide +kernel
theorem dX5_meanEmpty_23 : decode cX5_meanEmpty 23 = .ok (.getfield 19, 3) := by decide +kernel
theorem dX5_meanEmpty_26 : decode cX5_meanEmpty 26 = .ok (.getfield 121, 3) := by decide +kernel
theorem dX5_meanEmpty_29 : decode cX5_meanEmpty 29 = .ok (.i2d, 1) := by decide +kernel
theorem dX5_meanEmpty_30 : decode cX5_meanEmpty 30 = .ok (.ddiv, 1) := by decide +kernel
theorem dX5_meanEmpty_31 : decode cX5_meanEmpty 31 = .ok (.dreturn, 1) := by decide +kernel
set_option maxRecDepth 20000 in
theorem ggX5_linesWith_X5_checkRange : GoodIn wsX5_linesWith wsX5_checkRange := goodIn_ca (goodIn_r _ [6, 7, 8] (by decide +kernel) (by decide +kernel)) (goodIn_sub (fun _ h => List.mem_cons_of_mem _ (List.mem_append_right _ h)) (by decide +kernel))
set_option maxRecDepth 20000 in
theorem gX5_linesWith_X5_checkRange : GoodIn wsX5_linesWith (va_wsS RX5 51 yX5_checkRange wsX5_checkRange) := goodIn_app (goodIn_of _ (by decide +kernel)) ggX5_linesWith_X5_checkRange
set_option maxRecDepth 20000 in
theorem ggX5_linesWith_X5_tryMeasure : GoodIn wsX5_linesWith wsX5_tryMeasure := goodIn_r _ [12, 1, 13, 14, 15, 16, 17, 18, 19, 20, 21, 22, 23, 24, 25, 26, 27, 28, 29, 30, 31, 32, 33, 34, 35, 36, 37, 38, 39, 40, 41, 42, 43, 44, 45, 46, 47, 48, 49, 50, 51, 52, 53, 54, 55, 56, 57, 58, 59, 60, 61, 62, 63, 64, 65, 66, 67, 68, 69, 5, 70, 71, 72, 73, 74, 75, 76, 77, 78, 79, 80, 81, 82, 83, 84, 85, 86, 87, 88, 89, 90, 91, 92, 93, 94, 95, 96, 97, 98, 99, 100, 101, 102, 103, 104, 105, 106, 107, 108, 109, 110, 111, 112, 113, 114, 115, 116, 117, 118, 119, 120, 121, 122, 123, 124, 125, 126, 127, 128, 129, 130, 131, 132, 133, 134, 135, 136, 137, 138, 139, 140, 141, 142, 143, 144, 145, 146, 147, 148, 149, 150, 151, 159, 160, 161, 162, 163, 164, 165, 166, 167, 152, 153, 154, 155, 156, 157, 158, 168, 169, 170, 171, 172, 173, 174, 175] (by decide +kernel) (by decide +kernel)
set_option maxRecDepth 20000 in
theorem gX5_linesWith_X5_tryMeasure : GoodIn wsX5_linesWith (wsV RX5 143 RX5 yX5_tryMeasure wsX5_tryMeasure) := goodIn_app (goodIn_of _ (by decide +kernel)) ggX5_linesWith_X5_tryMeasure
theorem dX5_linesWith_0 : decode cX5_linesWith 0 = .ok (.iload_n 1, 1) := by decide +kernel
theorem dX5_linesWith_1 : decode cX5_linesWith 1 = .ok (.bipush 20, 2) := by decide +kernel
theorem dX5_linesWith_3 : decode cX5_linesWith 3 = .ok (.sipush 200, 3) := by decide +kernel
theorem dX5_linesWith_6 : decode cX5_linesWith 6 = .ok (.invokestatic 51, 3) := by decide +kernel
theorem dX5_linesWith_9 : decode cX5_linesWith 9 = .ok (.aload_n 0, 1) := by decide +kernel
theorem dX5_linesWith_10 : decode cX5_linesWith 10 = .ok (.iload_n 1, 1) := by decide +kernel
theorem dX5_linesWith_11 : decode cX5_linesWith 11 = .ok (.invokevirtual 143, 3) := by decide +kernel
theorem dX5_linesWith_14 : decode cX5_linesWith 14 = .ok (.aload_n 0, 1) := by decide +kernel
theorem dX5_linesWith_15 : decode cX5_linesWith 15 = .ok (.getfield 23, 3) := by decide +kernel
theorem dX5_linesWith_18 : decode cX5_linesWith 18 = .ok (.getfield 121, 3) := by decide +kernel
theorem dX5_linesWith_21 : decode cX5_linesWith 21 = .ok (.ireturn, 1) := by decide +kernel
set_option maxRecDepth 20000 in
theorem ggX5_measureFor_X5_checkRange : GoodIn wsX5_measureFor wsX5_checkRange := goodIn_ca (goodIn_r _ [6, 7, 8] (by decide +kernel) (by decide +kernel)) (goodIn_sub (fun _ h => List.mem_cons_of_mem _ (List.mem_append_right _ h)) (by decide +kernel))
set_option maxRecDepth 20000 in
theorem gX5_measureFor_X5_checkRange : GoodIn wsX5_measureFor (va_wsS RX5 51 yX5_checkRange wsX5_checkRange) := goodIn_app (goodIn_of _ (by decide +kernel)) ggX5_measureFor_X5_checkRange
set_option maxRecDepth 20000 in
theorem ggX5_measureFor_X5_tryMeasure : GoodIn wsX5_measureFor wsX5_tryMeasure := goodIn_r _ [12, 1, 13, 14, 15, 16, 17, 18, 19, 20, 21, 22, 23, 24, 25, 26, 27, 28, 29, 30, 31, 32, 33, 34, 35, 36, 37, 38, 39, 40, 41, 42, 43, 44, 45, 46, 47, 48, 49, 50, 51, 52, 53, 54, 55, 56, 57, 58, 59, 60, 61, 62, 63, 64, 65, 66, 67, 68, 69, 5, 70, 71, 72, 73, 74, 75, 76, 77, 78, 79, 80, 81, 82, 83, 84, 85, 86, 87, 88, 89, 90, 91, 92, 93, 94, 95, 96, 97, 98, 99, 100, 101, 102, 103, 104, 105, 106, 107, 108, 109, 110, 111, 112, 113, 114, 115, 116, 117, 118, 119, 120, 121, 122, 123, 124, 125, 126, 127, 128, 129, 130, 131, 132, 133, 134, 135, 136, 137, 138, 139, 140, 141, 142, 143, 144, 145, 146, 147, 148, 149, 150, 151, 159, 160, 161, 162, 163, 164, 165, 166, 167, 152, 153, 154, 155, 156, 157, 158, 168, 169, 170, 171, 172, 173, 174, 175] (by decide +kernel) (by decide +kernel)
set_option maxRecDepth 20000 in
theorem gX5_measureFor_X5_tryMeasure : GoodIn wsX5_measureFor (wsV RX5 143 RX5 yX5_tryMeasure wsX5_tryMeasure) := goodIn_app (goodIn_of _ (by decide +kernel)) ggX5_measureFor_X5_tryMeasure
theorem dX5_measureFor_0 : decode cX5_measureFor 0 = .ok (.iload_n 1, 1) := by decide +kernel
theorem dX5_measureFor_1 : decode cX5_measureFor 1 = .ok (.iconst 1, 1) := by decide +kernel
theorem dX5_measureFor_2 : decode cX5_measureFor 2 = .ok (.bipush 60, 2) := by decide +kernel
theorem dX5_measureFor_4 : decode cX5_measureFor 4 = .ok (.invokestatic 51, 3) := by decide +kernel
theorem dX5_measureFor_7 : decode cX5_measureFor 7 = .ok (.bipush 20, 2) := by decide +kernel
theorem dX5_measureFor_9 : decode cX5_measureFor 9 = .ok (.istore_n 2, 1) := by decide +kernel
theorem dX5_measureFor_10 : decode cX5_measureFor 10 = .ok (.iload_n 2, 1) := by decide +kernel
theorem dX5_measureFor_11 : decode cX5_measureFor 11 = .ok (.sipush 200, 3) := by decide +kernel
theorem dX5_measureFor_14 : decode cX5_measureFor 14 = .ok (.if_icmp .gt 27, 3) := by decide +kernel
theorem dX5_measureFor_17 : decode cX5_measureFor 17 = .ok (.aload_n 0, 1) := by decide +kernel
theorem dX5_measureFor_18 : decode cX5_measureFor 18 = .ok (.iload_n 2, 1) := by decide +kernel
theorem dX5_measureFor_19 : decode cX5_measureFor 19 = .ok (.invokevirtual 143, 3) := by decide +kernel
theorem dX5_measureFor_22 : decode cX5_measureFor 22 = .ok (.aload_n 0, 1) := by decide +kernel
theorem dX5_measureFor_23 : decode cX5_measureFor 23 = .ok (.getfield 23, 3) := by decide +kernel
theorem dX5_measureFor_26 : decode cX5_measureFor 26 = .ok (.getfield 121, 3) := by decide +kernel
theorem dX5_measureFor_29 : decode cX5_measureFor 29 = .ok (.iload_n 1, 1) := by decide +kernel
theorem dX5_measureFor_30 : decode cX5_measureFor 30 = .ok (.if_icmp .gt 5, 3) := by decide +kernel
theorem dX5_measureFor_33 : decode cX5_measureFor 33 = .ok (.iload_n 2, 1) := by decide +kernel
theorem dX5_measureFor_34 : decode cX5_measureFor 34 = .ok (.ireturn, 1) := by decide +kernel
theorem dX5_measureFor_35 : decode cX5_measureFor 35 = .ok (.iinc 2 1, 3) := by decide +kernel
theorem dX5_measureFor_38 : decode cX5_measureFor 38 = .ok (.goto (-28), 3) := by decide +kernel
theorem dX5_measureFor_41 : decode cX5_measureFor 41 = .ok (.iconst (-1), 1) := by decide +kernel
theorem dX5_measureFor_42 : decode cX5_measureFor 42 = .ok (.ireturn, 1) := by decide +kernel
set_option maxRecDepth 20000 in
theorem ggX5_linesUnlent_X3_setting : GoodIn wsX5_linesUnlent wsX3_setting := goodIn_r _ [8, 9, 150, 151, 152, 153, 154, 155, 156, 157, 158] (by decide +kernel) (by decide +kernel)
set_option maxRecDepth 20000 in
theorem gX5_linesUnlent_X3_setting : GoodIn wsX5_linesUnlent (wsV RX5 105 RX3 yX3_setting wsX3_setting) := goodIn_app (goodIn_of _ (by decide +kernel)) ggX5_linesUnlent_X3_setting
set_option maxRecDepth 20000 in
theorem ggX5_linesUnlent_X1_arrange : GoodIn wsX5_linesUnlent wsX1_arrange := goodIn_r _ [14, 15, 16, 17, 18, 19, 20, 21, 22, 23, 24, 25, 26, 13, 27, 28, 29, 30, 31, 32, 33, 34, 35, 36, 37, 38, 39, 40, 41, 42, 43, 44, 45, 46, 47, 48, 49, 7, 50, 51, 52, 53, 54, 55, 56, 57, 58, 59, 60, 61, 62, 63, 64, 65, 66, 67, 68, 69, 70, 71, 72, 73, 74, 75, 76, 77, 78, 79, 80, 81, 82, 83, 84, 85, 86, 87, 88, 89, 90, 91, 92, 93, 94, 95, 96, 97, 98, 99, 100, 101, 102, 103, 104, 105, 106, 107, 108, 109, 110, 111, 112, 113, 114, 115, 116, 117, 118, 119, 120, 121, 122, 123, 124, 125, 126, 127, 128, 129, 130, 131, 132, 133, 134, 135, 136, 150, 151, 152, 153, 154, 155, 156, 157, 158, 143, 144, 145, 146, 147, 148, 149, 159, 160, 161, 162, 163, 164, 165, 166] (by decide +kernel) (by decide +kernel)
set_option maxRecDepth 20000 in
theorem gX5_linesUnlent_X1_arrange : GoodIn wsX5_linesUnlent (wsV RX5 146 RX1 yX1_arrange wsX1_arrange) := goodIn_app (goodIn_of _ (by decide +kernel)) ggX5_linesUnlent_X1_arrange
theorem dX5_linesUnlent_0 : decode cX5_linesUnlent 0 = .ok (.aload_n 0, 1) := by decide +kernel
theorem dX5_linesUnlent_1 : decode cX5_linesUnlent 1 = .ok (.getfield 23, 3) := by decide +kernel
theorem dX5_linesUnlent_4 : decode cX5_linesUnlent 4 = .ok (.aload_n 0, 1) := by decide +kernel
theorem dX5_linesUnlent_5 : decode cX5_linesUnlent 5 = .ok (.getfield 10, 3) := by decide +kernel
theorem dX5_linesUnlent_8 : decode cX5_linesUnlent 8 = .ok (.aload_n 0, 1) := by decide +kernel
theorem dX5_linesUnlent_9 : decode cX5_linesUnlent 9 = .ok (.getfield 10, 3) := by decide +kernel
theorem dX5_linesUnlent_12 : decode cX5_linesUnlent 12 = .ok (.iconst 0, 1) := by decide +kernel
theorem dX5_linesUnlent_13 : decode cX5_linesUnlent 13 = .ok (.invokevirtual 105, 3) := by decide +kernel
theorem dX5_linesUnlent_16 : decode cX5_linesUnlent 16 = .ok (.iconst 0, 1) := by decide +kernel
theorem dX5_linesUnlent_17 : decode cX5_linesUnlent 17 = .ok (.iconst 0, 1) := by decide +kernel
theorem dX5_linesUnlent_18 : decode cX5_linesUnlent 18 = .ok (.invokevirtual 146, 3) := by decide +kernel
theorem dX5_linesUnlent_21 : decode cX5_linesUnlent 21 = .ok (.aload_n 0, 1) := by decide +kernel
theorem dX5_linesUnlent_22 : decode cX5_linesUnlent 22 = .ok (.getfield 23, 3) := by decide +kernel
theorem dX5_linesUnlent_25 : decode cX5_linesUnlent 25 = .ok (.getfield 121, 3) := by decide +kernel
theorem dX5_linesUnlent_28 : decode cX5_linesUnlent 28 = .ok (.ireturn, 1) := by decide +kernel
set_option maxRecDepth 20000 in
theorem ggX5_evenest_X5_checkRange : GoodIn wsX5_evenest wsX5_checkRange := goodIn_ca (goodIn_r _ [13, 14, 15] (by decide +kernel) (by decide +kernel)) (goodIn_sub (fun _ h => List.mem_cons_of_mem _ (List.mem_append_right _ h)) (by decide +kernel))
set_option maxRecDepth 20000 in
theorem gX5_evenest_X5_checkRange : GoodIn wsX5_evenest (va_wsS RX5 51 yX5_checkRange wsX5_checkRange) := goodIn_app (goodIn_of _ (by decide +kernel)) ggX5_evenest_X5_checkRange
set_option maxRecDepth 20000 in
theorem ggX5_evenest_X3_setting : GoodIn wsX5_evenest wsX3_setting := goodIn_r _ [20, 21, 157, 158, 159, 160, 161, 162, 163, 164, 165] (by decide +kernel) (by decide +kernel)
set_option maxRecDepth 20000 in
theorem gX5_evenest_X3_setting : GoodIn wsX5_evenest (wsV RX5 105 RX3 yX3_setting wsX3_setting) := goodIn_app (goodIn_of _ (by decide +kernel)) ggX5_evenest_X3_setting
set_option maxRecDepth 20000 in
theorem ggX5_evenest_X5_tryMeasure : GoodIn wsX5_evenest wsX5_tryMeasure := goodIn_r _ [25, 9, 1, 16, 17, 18, 19, 20, 21, 26, 27, 28, 29, 30, 31, 32, 33, 34, 35, 36, 37, 38, 39, 40, 41, 42, 43, 44, 45, 46, 47, 48, 49, 50, 51, 52, 3, 4, 5, 53, 54, 55, 56, 7, 8, 57, 58, 59, 60, 61, 62, 63, 64, 65, 66, 67, 68, 69, 70, 12, 71, 72, 73, 74, 75, 76, 77, 78, 79, 80, 81, 82, 83, 84, 85, 86, 87, 88, 89, 90, 91, 92, 93, 94, 95, 96, 97, 98, 99, 100, 101, 102, 103, 104, 105, 106, 107, 108, 109, 110, 111, 112, 113, 114, 115, 116, 117, 118, 119, 120, 121, 122, 123, 124, 125, 126, 127, 128, 129, 130, 131, 132, 133, 134, 135, 136, 137, 138, 139, 140, 141, 142, 143, 144, 145, 146, 151, 152, 153, 154, 155, 156, 157, 158, 159, 160, 161, 162, 163, 164, 165, 166, 167, 168, 169, 170, 171, 172, 173, 174, 175, 176, 177, 178, 179, 180] (by decide +kernel) (by decide +kernel)
set_option maxRecDepth 20000 in
theorem gX5_evenest_X5_tryMeasure : GoodIn wsX5_evenest (wsV RX5 143 RX5 yX5_tryMeasure wsX5_tryMeasure) := goodIn_app (goodIn_of _ (by decide +kernel)) ggX5_evenest_X5_tryMeasure
set_option maxRecDepth 20000 in
theorem ggX5_evenest_X1_squaresOfEmpty : GoodIn wsX5_evenest wsX1_squaresOfEmpty := goodIn_r _ [150, 37, 134, 135, 136, 29, 137, 117, 166, 167, 168, 169, 170, 171, 172] (by decide +kernel) (by decide +kernel)
set_option maxRecDepth 20000 in
theorem gX5_evenest_X1_squaresOfEmpty : GoodIn wsX5_evenest (wsV RX5 136 RX1 yX1_squaresOfEmpty wsX1_squaresOfEmpty) := goodIn_app (goodIn_of _ (by decide +kernel)) ggX5_evenest_X1_squaresOfEmpty
theorem dX5_evenest_0 : decode cX5_evenest 0 = .ok (.iload_n 1, 1) := by decide +kernel
theorem dX5_evenest_1 : decode cX5_evenest 1 = .ok (.iconst 0, 1) := by decide +kernel
theorem dX5_evenest_2 : decode cX5_evenest 2 = .ok (.bipush 20, 2) := by decide +kernel
theorem dX5_evenest_4 : decode cX5_evenest 4 = .ok (.invokestatic 51, 3) := by decide +kernel
theorem dX5_evenest_7 : decode cX5_evenest 7 = .ok (.aload_n 0, 1) := by decide +kernel
theorem dX5_evenest_8 : decode cX5_evenest 8 = .ok (.getfield 10, 3) := by decide +kernel
theorem dX5_evenest_11 : decode cX5_evenest 11 = .ok (.iconst 0, 1) := by decide +kernel
theorem dX5_evenest_12 : decode cX5_evenest 12 = .ok (.invokevirtual 105, 3) := by decide +kernel
theorem dX5_evenest_15 : decode cX5_evenest 15 = .ok (.istore_n 2, 1) := by decide +kernel
theorem dX5_evenest_16 : decode cX5_evenest 16 = .ok (.sipush 200, 3) := by decide +kernel
theorem dX5_evenest_19 : decode cX5_evenest 19 = .ok (.iload_n 2, 1) := by decide +kernel
theorem dX5_evenest_20 : decode cX5_evenest 20 = .ok (.iload_n 1, 1) := by decide +kernel
theorem dX5_evenest_21 : decode cX5_evenest 21 = .ok (.iadd, 1) := by decide +kernel
theorem dX5_evenest_22 : decode cX5_evenest 22 = .ok (.invokestatic 150, 3) := by decide +kernel
theorem dX5_evenest_25 : decode cX5_evenest 25 = .ok (.istore_n 3, 1) := by decide +kernel
theorem dX5_evenest_26 : decode cX5_evenest 26 = .ok (.iconst (-1), 1) := by decide +kernel
theorem dX5_evenest_27 : decode cX5_evenest 27 = .ok (.istore 4, 2) := by decide +kernel
theorem dX5_evenest_29 : decode cX5_evenest 29 = .ok (.iconst 0, 1) := by decide +kernel
theorem dX5_evenest_30 : decode cX5_evenest 30 = .ok (.istore 5, 2) := by decide +kernel
theorem dX5_evenest_32 : decode cX5_evenest 32 = .ok (.bipush 20, 2) := by decide +kernel
theorem dX5_evenest_34 : decode cX5_evenest 34 = .ok (.iload_n 2, 1) := by decide +kernel
theorem dX5_evenest_35 : decode cX5_evenest 35 = .ok (.iload_n 1, 1) := by decide +kernel
theorem dX5_evenest_36 : decode cX5_evenest 36 = .ok (.isub, 1) := by decide +kernel
theorem dX5_evenest_37 : decode cX5_evenest 37 = .ok (.invokestatic 155, 3) := by decide +kernel
theorem dX5_evenest_40 : decode cX5_evenest 40 = .ok (.istore 6, 2) := by decide +kernel
theorem dX5_evenest_42 : decode cX5_evenest 42 = .ok (.iload 6, 2) := by decide +kernel
theorem dX5_evenest_44 : decode cX5_evenest 44 = .ok (.iload_n 3, 1) := by decide +kernel
theorem dX5_evenest_45 : decode cX5_evenest 45 = .ok (.if_icmp .gt 45, 3) := by decide +kernel
theorem dX5_evenest_48 : decode cX5_evenest 48 = .ok (.aload_n 0, 1) := by decide +kernel
theorem dX5_evenest_49 : decode cX5_evenest 49 = .ok (.iload 6, 2) := by decide +kernel
theorem dX5_evenest_51 : decode cX5_evenest 51 = .ok (.invokevirtual 143, 3) := by decide +kernel
theorem dX5_evenest_54 : decode cX5_evenest 54 = .ok (.aload_n 0, 1) := by decide +kernel
theorem dX5_evenest_55 : decode cX5_evenest 55 = .ok (.getfield 23, 3) := by decide +kernel
theorem dX5_evenest_58 : decode cX5_evenest 58 = .ok (.invokevirtual 136, 3) := by decide +kernel
theorem dX5_evenest_61 : decode cX5_evenest 61 = .ok (.istore 7, 2) := by decide +kernel
theorem dX5_evenest_63 : decode cX5_evenest 63 = .ok (.iload 4, 2) := by decide +kernel
theorem dX5_evenest_65 : decode cX5_evenest 65 = .ok (.iconst (-1), 1) := by decide +kernel
theorem dX5_evenest_66 : decode cX5_evenest 66 = .ok (.if_icmp .eq 10, 3) := by decide +kernel
theorem dX5_evenest_69 : decode cX5_evenest 69 = .ok (.iload 7, 2) := by decide +kernel
theorem dX5_evenest_71 : decode cX5_evenest 71 = .ok (.iload 5, 2) := by decide +kernel
theorem dX5_evenest_73 : decode cX5_evenest 73 = .ok (.if_icmp .ge 11, 3) := by decide +kernel
theorem dX5_evenest_76 : decode cX5_evenest 76 = .ok (.iload 7, 2) := by decide +kernel
theorem dX5_evenest_78 : decode cX5_evenest 78 = .ok (.istore 5, 2) := by decide +kernel
theorem dX5_evenest_80 : decode cX5_evenest 80 = .ok (.iload 6, 2) := by decide +kernel
theorem dX5_evenest_82 : decode cX5_evenest 82 = .ok (.istore 4, 2) := by decide +kernel
theorem dX5_evenest_84 : decode cX5_evenest 84 = .ok (.iinc 6 1, 3) := by decide +kernel
theorem dX5_evenest_87 : decode cX5_evenest 87 = .ok (.goto (-45), 3) := by decide +kernel
theorem dX5_evenest_90 : decode cX5_evenest 90 = .ok (.iload 4, 2) := by decide +kernel
theorem dX5_evenest_92 : decode cX5_evenest 92 = .ok (.ireturn, 1) := by decide +kernel
set_option maxRecDepth 20000 in
theorem ggX5_type_X5_checkRange : GoodIn wsX5_type wsX5_checkRange := goodIn_ca (goodIn_r _ [8, 9, 10] (by decide +kernel) (by decide +kernel)) (goodIn_sub (fun _ h => List.mem_cons_of_mem _ (List.mem_append_right _ h)) (by decide +kernel))
set_option maxRecDepth 20000 in
theorem gX5_type_X5_checkRange : GoodIn wsX5_type (va_wsS RX5 51 yX5_checkRange wsX5_checkRange) := goodIn_app (goodIn_of _ (by decide +kernel)) ggX5_type_X5_checkRange
set_option maxRecDepth 20000 in
theorem ggX5_type_X4_append : GoodIn wsX5_type wsX4_append := goodIn_r _ [15, 16, 17, 24, 25, 26] (by decide +kernel) (by decide +kernel)
set_option maxRecDepth 20000 in
theorem gX5_type_X4_append : GoodIn wsX5_type (wsV RX5 163 RX4 yX4_append wsX4_append) := goodIn_app (goodIn_of _ (by decide +kernel)) ggX5_type_X4_append
theorem dX5_type_0 : decode cX5_type 0 = .ok (.iload_n 1, 1) := by decide +kernel
theorem dX5_type_1 : decode cX5_type 1 = .ok (.iconst 0, 1) := by decide +kernel
theorem dX5_type_2 : decode cX5_type 2 = .ok (.bipush 127, 2) := by decide +kernel
theorem dX5_type_4 : decode cX5_type 4 = .ok (.invokestatic 51, 3) := by decide +kernel
theorem dX5_type_7 : decode cX5_type 7 = .ok (.aload_n 0, 1) := by decide +kernel
theorem dX5_type_8 : decode cX5_type 8 = .ok (.getfield 29, 3) := by decide +kernel
theorem dX5_type_11 : decode cX5_type 11 = .ok (.getfield 158, 3) := by decide +kernel
theorem dX5_type_14 : decode cX5_type 14 = .ok (.sipush 200, 3) := by decide +kernel
theorem dX5_type_17 : decode cX5_type 17 = .ok (.if_icmp .lt 13, 3) := by decide +kernel
theorem dX5_type_20 : decode cX5_type 20 = .ok (.new 58, 3) := by decide +kernel
theorem dX5_type_23 : decode cX5_type 23 = .ok (.dup, 1) := by decide +kernel
theorem dX5_type_24 : decode cX5_type 24 = .ok (.ldc 161, 2) := by decide +kernel
theorem dX5_type_26 : decode cX5_type 26 = .ok (.invokespecial 62, 3) := by decide +kernel
theorem dX5_type_29 : decode cX5_type 29 = .ok (.athrow, 1) := by decide +kernel
theorem dX5_type_30 : decode cX5_type 30 = .ok (.aload_n 0, 1) := by decide +kernel
theorem dX5_type_31 : decode cX5_type 31 = .ok (.getfield 29, 3) := by decide +kernel
theorem dX5_type_34 : decode cX5_type 34 = .ok (.iload_n 1, 1) := by decide +kernel
theorem dX5_type_35 : decode cX5_type 35 = .ok (.invokevirtual 163, 3) := by decide +kernel
theorem dX5_type_38 : decode cX5_type 38 = .ok (.aload_n 0, 1) := by decide +kernel
theorem dX5_type_39 : decode cX5_type 39 = .ok (.getfield 29, 3) := by decide +kernel
theorem dX5_type_42 : decode cX5_type 42 = .ok (.getfield 158, 3) := by decide +kernel
theorem dX5_type_45 : decode cX5_type 45 = .ok (.ireturn, 1) := by decide +kernel
theorem dX5_clearText_0 : decode cX5_clearText 0 = .ok (.aload_n 0, 1) := by decide +kernel
theorem dX5_clearText_1 : decode cX5_clearText 1 = .ok (.getfield 29, 3) := by decide +kernel
theorem dX5_clearText_4 : decode cX5_clearText 4 = .ok (.getfield 158, 3) := by decide +kernel
theorem dX5_clearText_7 : decode cX5_clearText 7 = .ok (.istore_n 1, 1) := by decide +kernel
theorem dX5_clearText_8 : decode cX5_clearText 8 = .ok (.aload_n 0, 1) := by decide +kernel
theorem dX5_clearText_9 : decode cX5_clearText 9 = .ok (.getfield 29, 3) := by decide +kernel
theorem dX5_clearText_12 : decode cX5_clearText 12 = .ok (.iconst 0, 1) := by decide +kernel
theorem dX5_clearText_13 : decode cX5_clearText 13 = .ok (.putfield 158, 3) := by decide +kernel
theorem dX5_clearText_16 : decode cX5_clearText 16 = .ok (.iload_n 1, 1) := by decide +kernel
theorem dX5_clearText_17 : decode cX5_clearText 17 = .ok (.ireturn, 1) := by decide +kernel
set_option maxRecDepth 20000 in
theorem ggX5_readWords_X4_readInto : GoodIn wsX5_readWords wsX4_readInto := goodIn_r _ [10, 11, 12, 13, 14, 15, 16, 17, 9, 18, 19, 20, 21, 22, 23, 24, 25, 26, 27, 28, 29, 30, 31, 32, 33, 34, 35, 36, 37, 38, 39, 40, 41, 42, 43, 44, 45, 46, 47, 48, 49, 50, 51, 52, 53, 54, 55, 56, 57, 58, 59, 60, 61, 62, 63, 64, 65, 66, 67, 68, 69, 70, 71, 72, 73, 74, 75, 76, 77, 78, 79, 228, 229, 230, 231, 232, 233, 234, 235, 236, 237, 238, 239] (by decide +kernel) (by decide +kernel)
set_option maxRecDepth 20000 in
theorem gX5_readWords_X4_readInto : GoodIn wsX5_readWords (wsV RX5 166 RX4 yX4_readInto wsX4_readInto) := goodIn_app (goodIn_of _ (by decide +kernel)) ggX5_readWords_X4_readInto
set_option maxRecDepth 20000 in
theorem ggX5_readWords_X0_save : GoodIn wsX5_readWords wsX0_save := goodIn_r _ [84, 85, 86, 87, 88, 83, 89, 90, 91, 92, 93, 94, 95, 96, 97, 26, 98, 99, 43, 44, 45, 46, 100, 101, 102, 103, 104, 28, 42, 29, 30, 31, 32, 33, 240, 241, 228, 229, 230, 231, 232, 233, 234, 235, 236] (by decide +kernel) (by decide +kernel)
set_option maxRecDepth 20000 in
theorem gX5_readWords_X0_save : GoodIn wsX5_readWords (wsV RX5 65 RX0 yX0_save wsX0_save) := goodIn_app (goodIn_of _ (by decide +kernel)) ggX5_readWords_X0_save
set_option maxRecDepth 20000 in
theorem ggX5_readWords_X3_takeWords : GoodIn wsX5_readWords wsX3_takeWords := goodIn_r _ [104, 28, 42, 43, 44, 45, 46, 29, 30, 31, 32, 33, 228, 229, 230, 231, 232, 233, 234, 235, 236] (by decide +kernel) (by decide +kernel)
set_option maxRecDepth 20000 in
theorem gX5_readWords_X3_takeWords : GoodIn wsX5_readWords (wsV RX5 170 RX3 yX3_takeWords wsX3_takeWords) := goodIn_app (goodIn_of _ (by decide +kernel)) ggX5_readWords_X3_takeWords
set_option maxRecDepth 20000 in
theorem ggX5_readWords_X5_setLines : GoodIn wsX5_readWords wsX5_setLines := goodIn_r _ [109, 110, 4, 111, 112, 113, 26, 114, 99, 115, 116, 117, 118, 119, 120, 121, 122, 44, 45, 46, 123, 124, 125, 126, 127, 128, 129, 130, 131, 132, 133, 134, 135, 136, 137, 138, 139, 40, 140, 141, 142, 143, 144, 39, 41, 145, 146, 147, 148, 149, 30, 31, 32, 54, 55, 56, 57, 28, 150, 48, 151, 152, 153, 154, 155, 156, 157, 158, 159, 160, 161, 162, 69, 70, 71, 163, 164, 165, 166, 167, 168, 169, 170, 100, 171, 172, 173, 174, 175, 176, 177, 178, 179, 180, 181, 182, 33, 183, 184, 185, 186, 187, 188, 189, 190, 191, 192, 193, 194, 195, 196, 197, 198, 199, 200, 201, 202, 203, 204, 205, 206, 207, 208, 209, 210, 211, 212, 213, 214, 215, 216, 217, 218, 219, 220, 221, 222, 223, 224, 225, 226, 227, 228, 229, 230, 231, 232, 233, 234, 235, 236, 242, 243, 244, 245, 246, 247, 248, 249, 250, 251, 252, 253, 254, 255, 256] (by decide +kernel) (by decide +kernel)
set_option maxRecDepth 20000 in
theorem gX5_readWords_X5_setLines : GoodIn wsX5_readWords (wsV RX5 80 RX5 yX5_setLines wsX5_setLines) := goodIn_app (goodIn_of _ (by decide +kernel)) ggX5_readWords_X5_setLines
theorem dX5_readWords_0 : decode cX5_readWords 0 = .ok (.aload_n 0, 1) := by decide +kernel
theorem dX5_readWords_1 : decode cX5_readWords 1 = .ok (.getfield 29, 3) := by decide +kernel
theorem dX5_readWords_4 : decode cX5_readWords 4 = .ok (.aload_n 0, 1) := by decide +kernel
theorem dX5_readWords_5 : decode cX5_readWords 5 = .ok (.getfield 33, 3) := by decide +kernel
theorem dX5_readWords_8 : decode cX5_readWords 8 = .ok (.invokevirtual 166, 3) := by decide +kernel
theorem dX5_readWords_11 : decode cX5_readWords 11 = .ok (.istore_n 1, 1) := by decide +kernel
theorem dX5_readWords_12 : decode cX5_readWords 12 = .ok (.iload_n 1, 1) := by decide +kernel
theorem dX5_readWords_13 : decode cX5_readWords 13 = .ok (.iconst (-1), 1) := by decide +kernel
theorem dX5_readWords_14 : decode cX5_readWords 14 = .ok (.if_icmp .eq 8, 3) := by decide +kernel
theorem dX5_readWords_17 : decode cX5_readWords 17 = .ok (.bipush (-10), 2) := by decide +kernel
theorem dX5_readWords_19 : decode cX5_readWords 19 = .ok (.iload_n 1, 1) := by decide +kernel
theorem dX5_readWords_20 : decode cX5_readWords 20 = .ok (.isub, 1) := by decide +kernel
theorem dX5_readWords_21 : decode cX5_readWords 21 = .ok (.ireturn, 1) := by decide +kernel
theorem dX5_readWords_22 : decode cX5_readWords 22 = .ok (.aload_n 0, 1) := by decide +kernel
theorem dX5_readWords_23 : decode cX5_readWords 23 = .ok (.getfield 39, 3) := by decide +kernel
theorem dX5_readWords_26 : decode cX5_readWords 26 = .ok (.aload_n 0, 1) := by decide +kernel
theorem dX5_readWords_27 : decode cX5_readWords 27 = .ok (.getfield 10, 3) := by decide +kernel
theorem dX5_readWords_30 : decode cX5_readWords 30 = .ok (.invokevirtual 65, 3) := by decide +kernel
theorem dX5_readWords_33 : decode cX5_readWords 33 = .ok (.aload_n 0, 1) := by decide +kernel
theorem dX5_readWords_34 : decode cX5_readWords 34 = .ok (.getfield 10, 3) := by decide +kernel
theorem dX5_readWords_37 : decode cX5_readWords 37 = .ok (.aload_n 0, 1) := by decide +kernel
theorem dX5_readWords_38 : decode cX5_readWords 38 = .ok (.getfield 33, 3) := by decide +kernel
theorem dX5_readWords_41 : decode cX5_readWords 41 = .ok (.invokevirtual 170, 3) := by decide +kernel
theorem dX5_readWords_44 : decode cX5_readWords 44 = .ok (.aload_n 0, 1) := by decide +kernel
theorem dX5_readWords_45 : decode cX5_readWords 45 = .ok (.invokevirtual 80, 3) := by decide +kernel
theorem dX5_readWords_48 : decode cX5_readWords 48 = .ok (.aload_n 0, 1) := by decide +kernel
theorem dX5_readWords_49 : decode cX5_readWords 49 = .ok (.getfield 10, 3) := by decide +kernel
theorem dX5_readWords_52 : decode cX5_readWords 52 = .ok (.getfield 43, 3) := by decide +kernel
theorem dX5_readWords_55 : decode cX5_readWords 55 = .ok (.ireturn, 1) := by decide +kernel
set_option maxRecDepth 20000 in
theorem ggX5_lineByte_X5_checkIndex : GoodIn wsX5_lineByte wsX5_checkIndex := goodIn_ca (goodIn_r _ [8, 9, 10] (by decide +kernel) (by decide +kernel)) (goodIn_sub (fun _ h => List.mem_cons_of_mem _ (List.mem_append_right _ h)) (by decide +kernel))
set_option maxRecDepth 20000 in
theorem gX5_lineByte_X5_checkIndex : GoodIn wsX5_lineByte (va_wsS RX5 47 yX5_checkIndex wsX5_checkIndex) := goodIn_app (goodIn_of _ (by decide +kernel)) ggX5_lineByte_X5_checkIndex
set_option maxRecDepth 20000 in
theorem ggX5_lineByte_X5_writtenByte : GoodIn wsX5_lineByte wsX5_writtenByte := goodIn_r _ [14, 3, 15, 16, 17, 18, 19, 20, 21, 22, 23, 24, 25, 26, 27, 28, 29, 30, 31, 32, 33, 34, 35, 36, 37, 38, 39, 40, 41, 42, 43, 44, 45, 46, 47, 48, 49, 50, 51, 52, 7, 53, 54, 55, 56, 57, 58, 59, 60, 61, 62, 63, 64, 65, 66, 67, 68, 69, 70, 71, 72, 73, 74, 75, 76] (by decide +kernel) (by decide +kernel)
set_option maxRecDepth 20000 in
theorem gX5_lineByte_X5_writtenByte : GoodIn wsX5_lineByte (wsV RX5 178 RX5 yX5_writtenByte wsX5_writtenByte) := goodIn_app (goodIn_of _ (by decide +kernel)) ggX5_lineByte_X5_writtenByte
theorem dX5_lineByte_0 : decode cX5_lineByte 0 = .ok (.iload_n 1, 1) := by decide +kernel
theorem dX5_lineByte_1 : decode cX5_lineByte 1 = .ok (.aload_n 0, 1) := by decide +kernel
theorem dX5_lineByte_2 : decode cX5_lineByte 2 = .ok (.getfield 19, 3) := by decide +kernel
theorem dX5_lineByte_5 : decode cX5_lineByte 5 = .ok (.getfield 121, 3) := by decide +kernel
theorem dX5_lineByte_8 : decode cX5_lineByte 8 = .ok (.invokestatic 47, 3) := by decide +kernel
theorem dX5_lineByte_11 : decode cX5_lineByte 11 = .ok (.iload_n 2, 1) := by decide +kernel
theorem dX5_lineByte_12 : decode cX5_lineByte 12 = .ok (.ifCond .ge 13, 3) := by decide +kernel
theorem dX5_lineByte_15 : decode cX5_lineByte 15 = .ok (.new 173, 3) := by decide +kernel
theorem dX5_lineByte_18 : decode cX5_lineByte 18 = .ok (.dup, 1) := by decide +kernel
theorem dX5_lineByte_19 : decode cX5_lineByte 19 = .ok (.ldc 175, 2) := by decide +kernel
theorem dX5_lineByte_21 : decode cX5_lineByte 21 = .ok (.invokespecial 177, 3) := by decide +kernel
theorem dX5_lineByte_24 : decode cX5_lineByte 24 = .ok (.athrow, 1) := by decide +kernel
theorem dX5_lineByte_25 : decode cX5_lineByte 25 = .ok (.aload_n 0, 1) := by decide +kernel
theorem dX5_lineByte_26 : decode cX5_lineByte 26 = .ok (.iload_n 1, 1) := by decide +kernel
theorem dX5_lineByte_27 : decode cX5_lineByte 27 = .ok (.iload_n 2, 1) := by decide +kernel
theorem dX5_lineByte_28 : decode cX5_lineByte 28 = .ok (.invokevirtual 178, 3) := by decide +kernel
theorem dX5_lineByte_31 : decode cX5_lineByte 31 = .ok (.ireturn, 1) := by decide +kernel
set_option maxRecDepth 20000 in
theorem ggX5_undo_X0_restore : GoodIn wsX5_undo wsX0_restore := goodIn_r _ [10, 11, 12, 13, 14, 9, 15, 16, 17, 18, 19, 20, 21, 22, 23, 24, 25, 26, 27, 28, 29, 30, 31, 32, 33, 34, 35, 36, 37, 38, 172, 173, 174, 175, 176, 177, 178, 179, 180, 181, 182] (by decide +kernel) (by decide +kernel)
set_option maxRecDepth 20000 in
theorem gX5_undo_X0_restore : GoodIn wsX5_undo (wsV RX5 184 RX0 yX0_restore wsX0_restore) := goodIn_app (goodIn_of _ (by decide +kernel)) ggX5_undo_X0_restore
set_option maxRecDepth 20000 in
theorem ggX5_undo_X5_setLines : GoodIn wsX5_undo wsX5_setLines := goodIn_r _ [43, 44, 5, 45, 46, 47, 20, 48, 22, 49, 50, 51, 52, 53, 54, 55, 56, 24, 25, 26, 57, 58, 59, 60, 61, 62, 63, 64, 65, 66, 67, 68, 69, 70, 71, 72, 73, 74, 75, 76, 77, 78, 79, 80, 81, 82, 83, 84, 85, 86, 35, 36, 37, 87, 88, 89, 90, 32, 91, 42, 92, 93, 94, 95, 96, 97, 98, 99, 100, 101, 102, 103, 104, 105, 106, 107, 108, 109, 110, 111, 112, 113, 114, 27, 115, 116, 117, 118, 119, 120, 121, 122, 123, 124, 125, 126, 38, 127, 128, 129, 130, 131, 132, 133, 134, 135, 136, 137, 138, 139, 140, 141, 142, 143, 144, 145, 146, 147, 148, 149, 150, 151, 152, 153, 154, 155, 156, 157, 158, 159, 160, 161, 162, 163, 164, 165, 166, 167, 168, 169, 170, 171, 174, 175, 176, 177, 178, 179, 180, 181, 182, 183, 184, 185, 186, 187, 188, 189, 190, 191, 192, 193, 194, 195, 196, 197] (by decide +kernel) (by decide +kernel)
set_option maxRecDepth 20000 in
theorem gX5_undo_X5_setLines : GoodIn wsX5_undo (wsV RX5 80 RX5 yX5_setLines wsX5_setLines) := goodIn_app (goodIn_of _ (by decide +kernel)) ggX5_undo_X5_setLines
theorem dX5_undo_0 : decode cX5_undo 0 = .ok (.aload_n 0, 1) := by decide +kernel
theorem dX5_undo_1 : decode cX5_undo 1 = .ok (.getfield 39, 3) := by decide +kernel
theorem dX5_undo_4 : decode cX5_undo 4 = .ok (.getfield 181, 3) := by decide +kernel
theorem dX5_undo_7 : decode cX5_undo 7 = .ok (.ifCond .gt 13, 3) := by decide +kernel
theorem dX5_undo_10 : decode cX5_undo 10 = .ok (.new 58, 3) := by decide +kernel
theorem dX5_undo_13 : decode cX5_undo 13 = .ok (.dup, 1) := by decide +kernel
theorem dX5_undo_14 : decode cX5_undo 14 = .ok (.ldc 182, 2) := by decide +kernel
theorem dX5_undo_16 : decode cX5_undo 16 = .ok (.invokespecial 62, 3) := by decide +kernel
theorem dX5_undo_19 : decode cX5_undo 19 = .ok (.athrow, 1) := by decide +kernel
theorem dX5_undo_20 : decode cX5_undo 20 = .ok (.aload_n 0, 1) := by decide +kernel
theorem dX5_undo_21 : decode cX5_undo 21 = .ok (.getfield 39, 3) := by decide +kernel
theorem dX5_undo_24 : decode cX5_undo 24 = .ok (.aload_n 0, 1) := by decide +kernel
theorem dX5_undo_25 : decode cX5_undo 25 = .ok (.getfield 10, 3) := by decide +kernel
theorem dX5_undo_28 : decode cX5_undo 28 = .ok (.invokevirtual 184, 3) := by decide +kernel
theorem dX5_undo_31 : decode cX5_undo 31 = .ok (.aload_n 0, 1) := by decide +kernel
theorem dX5_undo_32 : decode cX5_undo 32 = .ok (.invokevirtual 80, 3) := by decide +kernel
theorem dX5_undo_35 : decode cX5_undo 35 = .ok (.aload_n 0, 1) := by decide +kernel
theorem dX5_undo_36 : decode cX5_undo 36 = .ok (.getfield 39, 3) := by decide +kernel
theorem dX5_undo_39 : decode cX5_undo 39 = .ok (.getfield 181, 3) := by decide +kernel
theorem dX5_undo_42 : decode cX5_undo 42 = .ok (.ireturn, 1) := by decide +kernel
set_option maxRecDepth 20000 in
theorem ggX5_digest_X5_mix : GoodIn wsX5_digest wsX5_mix := goodIn_r _ [8, 9] (by decide +kernel) (by decide +kernel)
set_option maxRecDepth 20000 in
theorem gX5_digest_X5_mix : GoodIn wsX5_digest (va_wsS RX5 189 yX5_mix wsX5_mix) := goodIn_app (goodIn_of _ (by decide +kernel)) ggX5_digest_X5_mix
set_option maxRecDepth 20000 in
theorem ggX5_digest_X5_wholeValue : GoodIn wsX5_digest wsX5_wholeValue := goodIn_r _ [13, 4, 14, 15, 16, 17, 18, 19, 20, 21, 22, 23, 24, 25, 26, 27, 28, 29, 30, 31, 32, 33, 34, 35, 36, 37, 38, 39, 40, 41, 42, 43, 44, 45, 46, 47, 48, 49, 50, 51, 52, 53, 54, 55, 56, 57, 58, 149, 150, 151, 152, 153, 154, 157, 158, 159, 160, 161, 162, 163, 164, 165, 166, 167, 168, 169, 170, 171, 172, 173, 174, 175] (by decide +kernel) (by decide +kernel)
set_option maxRecDepth 20000 in
theorem gX5_digest_X5_wholeValue : GoodIn wsX5_digest (wsV RX5 133 RX5 yX5_wholeValue wsX5_wholeValue) := goodIn_app (goodIn_of _ (by decide +kernel)) ggX5_digest_X5_wholeValue
set_option maxRecDepth 20000 in
theorem ggX5_digest_X3_shareOf : GoodIn wsX5_digest wsX3_shareOf := goodIn_r _ [62, 63, 157, 158, 159, 160, 161, 162, 163, 164, 165] (by decide +kernel) (by decide +kernel)
set_option maxRecDepth 20000 in
theorem gX5_digest_X3_shareOf : GoodIn wsX5_digest (wsV RX5 111 RX3 yX3_shareOf wsX3_shareOf) := goodIn_app (goodIn_of _ (by decide +kernel)) ggX5_digest_X3_shareOf
set_option maxRecDepth 20000 in
theorem ggX5_digest_X5_mixWords : GoodIn wsX5_digest wsX5_mixWords := goodIn_r _ [67, 4, 14, 68, 69, 70, 7, 71, 15, 72, 73, 74, 38, 75, 76, 77, 78, 79, 23, 80, 81, 31, 32, 33, 34, 25, 82, 83, 84, 85, 86, 87, 88, 89, 90, 91, 92, 93, 94, 95, 96, 97, 98, 99, 100, 101, 102, 103, 30, 104, 46, 47, 48, 49, 105, 106, 107, 108, 5, 6, 8, 9, 149, 150, 151, 152, 153, 154, 157, 158, 159, 160, 161, 162, 163, 164, 165, 166, 167, 168, 169, 170, 171, 172] (by decide +kernel) (by decide +kernel)
set_option maxRecDepth 20000 in
theorem gX5_digest_X5_mixWords : GoodIn wsX5_digest (wsV RX5 193 RX5 yX5_mixWords wsX5_mixWords) := goodIn_app (goodIn_of _ (by decide +kernel)) ggX5_digest_X5_mixWords
set_option maxRecDepth 20000 in
theorem ggX5_digest_X5_mixLines : GoodIn wsX5_digest wsX5_mixLines := goodIn_r _ [112, 15, 16, 104, 46, 47, 38, 48, 49, 5, 6, 7, 8, 9, 113, 114, 115, 116, 117, 118, 119, 120, 4, 121, 122, 123, 23, 124, 125, 93, 94, 95, 87, 31, 32, 33, 34, 25, 126, 97, 98, 99, 88, 127, 78, 79, 80, 81, 128, 129, 130, 131, 132, 133, 134, 135, 136, 137, 138, 139, 149, 150, 151, 152, 153, 154, 166, 167, 168, 169, 170, 171, 172, 157, 158, 159, 160, 161, 162, 163, 164, 165] (by decide +kernel) (by decide +kernel)
set_option maxRecDepth 20000 in
theorem gX5_digest_X5_mixLines : GoodIn wsX5_digest (wsV RX5 197 RX5 yX5_mixLines wsX5_mixLines) := goodIn_app (goodIn_of _ (by decide +kernel)) ggX5_digest_X5_mixLines
set_option maxRecDepth 20000 in
theorem ggX5_digest_X5_mixPages : GoodIn wsX5_digest wsX5_mixPages := goodIn_r _ [143, 15, 17, 144, 145, 146, 38, 147, 148, 5, 6, 7, 8, 9, 149, 150, 151, 152, 153, 154, 166, 167, 168, 169, 170, 171, 172] (by decide +kernel) (by decide +kernel)
set_option maxRecDepth 20000 in
theorem gX5_digest_X5_mixPages : GoodIn wsX5_digest (wsV RX5 200 RX5 yX5_mixPages wsX5_mixPages) := goodIn_app (goodIn_of _ (by decide +kernel)) ggX5_digest_X5_mixPages
theorem dX5_digest_0 : decode cX5_digest 0 = .ok (.ldc2_w 187, 3) := by decide +kernel
theorem dX5_digest_3 : decode cX5_digest 3 = .ok (.aload_n 0, 1) := by decide +kernel
theorem dX5_digest_4 : decode cX5_digest 4 = .ok (.getfield 39, 3) := by decide +kernel
theorem dX5_digest_7 : decode cX5_digest 7 = .ok (.getfield 181, 3) := by decide +kernel
theorem dX5_digest_10 : decode cX5_digest 10 = .ok (.invokestatic 189, 3) := by decide +kernel
theorem dX5_digest_13 : decode cX5_digest 13 = .ok (.lstore_n 1, 1) := by decide +kernel
theorem dX5_digest_14 : decode cX5_digest 14 = .ok (.iconst 0, 1) := by decide +kernel
theorem dX5_digest_15 : decode cX5_digest 15 = .ok (.istore_n 3, 1) := by decide +kernel
theorem dX5_digest_16 : decode cX5_digest 16 = .ok (.iload_n 3, 1) := by decide +kernel
theorem dX5_digest_17 : decode cX5_digest 17 = .ok (.bipush 14, 2) := by decide +kernel
theorem dX5_digest_19 : decode cX5_digest 19 = .ok (.if_icmp .ge 19, 3) := by decide +kernel
theorem dX5_digest_22 : decode cX5_digest 22 = .ok (.lload_n 1, 1) := by decide +kernel
theorem dX5_digest_23 : decode cX5_digest 23 = .ok (.aload_n 0, 1) := by decide +kernel
theorem dX5_digest_24 : decode cX5_digest 24 = .ok (.iload_n 3, 1) := by decide +kernel
theorem dX5_digest_25 : decode cX5_digest 25 = .ok (.invokevirtual 133, 3) := by decide +kernel
theorem dX5_digest_28 : decode cX5_digest 28 = .ok (.invokestatic 189, 3) := by decide +kernel
theorem dX5_digest_31 : decode cX5_digest 31 = .ok (.lstore_n 1, 1) := by decide +kernel
theorem dX5_digest_32 : decode cX5_digest 32 = .ok (.iinc 3 1, 3) := by decide +kernel
theorem dX5_digest_35 : decode cX5_digest 35 = .ok (.goto (-19), 3) := by decide +kernel
theorem dX5_digest_38 : decode cX5_digest 38 = .ok (.iconst 0, 1) := by decide +kernel
theorem dX5_digest_39 : decode cX5_digest 39 = .ok (.istore_n 3, 1) := by decide +kernel
theorem dX5_digest_40 : decode cX5_digest 40 = .ok (.iload_n 3, 1) := by decide +kernel
theorem dX5_digest_41 : decode cX5_digest 41 = .ok (.bipush 8, 2) := by decide +kernel
theorem dX5_digest_43 : decode cX5_digest 43 = .ok (.if_icmp .ge 22, 3) := by decide +kernel
theorem dX5_digest_46 : decode cX5_digest 46 = .ok (.lload_n 1, 1) := by decide +kernel
theorem dX5_digest_47 : decode cX5_digest 47 = .ok (.aload_n 0, 1) := by decide +kernel
theorem dX5_digest_48 : decode cX5_digest 48 = .ok (.getfield 10, 3) := by decide +kernel
theorem dX5_digest_51 : decode cX5_digest 51 = .ok (.iload_n 3, 1) := by decide +kernel
theorem dX5_digest_52 : decode cX5_digest 52 = .ok (.invokevirtual 111, 3) := by decide +kernel
theorem dX5_digest_55 : decode cX5_digest 55 = .ok (.invokestatic 189, 3) := by decide +kernel
theorem dX5_digest_58 : decode cX5_digest 58 = .ok (.lstore_n 1, 1) := by decide +kernel
