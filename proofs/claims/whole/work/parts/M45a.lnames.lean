set_option maxRecDepth 20000 in
theorem gL_page_X5_page : GoodIn wsL_page (wsV RL 44 RX5 yX5_page wsX5_page) := goodIn_app (goodIn_of _ (by decide +kernel)) ggL_page_X5_page
theorem dL_page_0 : decode cL_page 0 = .ok (.aload_n 3, 1) := by decide +kernel
theorem dL_page_1 : decode cL_page 1 = .ok (.iconst 0, 1) := by decide +kernel
theorem dL_page_2 : decode cL_page 2 = .ok (.aload_n 0, 1) := by decide +kernel
theorem dL_page_3 : decode cL_page 3 = .ok (.iload_n 1, 1) := by decide +kernel
theorem dL_page_4 : decode cL_page 4 = .ok (.iload_n 2, 1) := by decide +kernel
theorem dL_page_5 : decode cL_page 5 = .ok (.invokevirtual 44, 3) := by decide +kernel
theorem dL_page_8 : decode cL_page 8 = .ok (.i2l, 1) := by decide +kernel
theorem dL_page_9 : decode cL_page 9 = .ok (.lastore, 1) := by decide +kernel
theorem dL_page_10 : decode cL_page 10 = .ok (.goto 11, 3) := by decide +kernel
theorem dL_page_13 : decode cL_page 13 = .ok (.astore 4, 2) := by decide +kernel
theorem dL_page_15 : decode cL_page 15 = .ok (.iconst 1, 1) := by decide +kernel
theorem dL_page_16 : decode cL_page 16 = .ok (.ireturn, 1) := by decide +kernel
theorem dL_page_17 : decode cL_page 17 = .ok (.astore 4, 2) := by decide +kernel
theorem dL_page_19 : decode cL_page 19 = .ok (.iconst 2, 1) := by decide +kernel
theorem dL_page_20 : decode cL_page 20 = .ok (.ireturn, 1) := by decide +kernel
theorem dL_page_21 : decode cL_page 21 = .ok (.iconst 0, 1) := by decide +kernel
theorem dL_page_22 : decode cL_page 22 = .ok (.ireturn, 1) := by decide +kernel
set_option maxRecDepth 20000 in
theorem ggL_whole_X5_whole : GoodIn wsL_whole wsX5_whole := goodIn_ca (goodIn_r _ [6, 7, 8, 5, 9, 10, 11, 12, 13, 14, 15, 16, 17, 18, 19, 20, 21, 22, 23, 24, 25, 26, 27, 28, 29, 30, 31, 32, 33, 34, 35, 36, 37, 38, 39, 40, 41, 42, 43, 44, 45, 46, 47, 48, 49, 50, 51, 52, 53, 54, 55, 56, 57, 58, 59, 60, 61, 62, 63, 64, 65, 66, 67, 68, 69, 70, 71, 72, 73, 74, 75, 76, 77, 78, 79, 80, 81, 82, 83, 84, 85, 86] (by decide +kernel) (by decide +kernel)) (goodIn_sub (fun _ h => List.mem_cons_of_mem _ (List.mem_append_right _ h)) (by decide +kernel))
set_option maxRecDepth 20000 in
theorem gL_whole_X5_whole : GoodIn wsL_whole (wsV RL 47 RX5 yX5_whole wsX5_whole) := goodIn_app (goodIn_of _ (by decide +kernel)) ggL_whole_X5_whole
theorem dL_whole_0 : decode cL_whole 0 = .ok (.aload_n 2, 1) := by decide +kernel
theorem dL_whole_1 : decode cL_whole 1 = .ok (.iconst 0, 1) := by decide +kernel
theorem dL_whole_2 : decode cL_whole 2 = .ok (.aload_n 0, 1) := by decide +kernel
theorem dL_whole_3 : decode cL_whole 3 = .ok (.iload_n 1, 1) := by decide +kernel
theorem dL_whole_4 : decode cL_whole 4 = .ok (.invokevirtual 47, 3) := by decide +kernel
theorem dL_whole_7 : decode cL_whole 7 = .ok (.i2l, 1) := by decide +kernel
theorem dL_whole_8 : decode cL_whole 8 = .ok (.lastore, 1) := by decide +kernel
theorem dL_whole_9 : decode cL_whole 9 = .ok (.goto 6, 3) := by decide +kernel
theorem dL_whole_12 : decode cL_whole 12 = .ok (.astore_n 3, 1) := by decide +kernel
theorem dL_whole_13 : decode cL_whole 13 = .ok (.iconst 1, 1) := by decide +kernel
theorem dL_whole_14 : decode cL_whole 14 = .ok (.ireturn, 1) := by decide +kernel
theorem dL_whole_15 : decode cL_whole 15 = .ok (.iconst 0, 1) := by decide +kernel
theorem dL_whole_16 : decode cL_whole 16 = .ok (.ireturn, 1) := by decide +kernel
set_option maxRecDepth 20000 in
theorem ggL_share_X5_share : GoodIn wsL_share wsX5_share := goodIn_ca (goodIn_r _ [6, 7, 8, 9, 5, 10, 11, 12, 13, 14, 15, 16, 17, 18, 19, 20, 21, 22, 23, 24, 25, 26, 27, 28, 29, 30, 31, 32, 33] (by decide +kernel) (by decide +kernel)) (goodIn_sub (fun _ h => List.mem_cons_of_mem _ (List.mem_append_right _ h)) (by decide +kernel))
set_option maxRecDepth 20000 in
theorem gL_share_X5_share : GoodIn wsL_share (wsV RL 50 RX5 yX5_share wsX5_share) := goodIn_app (goodIn_of _ (by decide +kernel)) ggL_share_X5_share
theorem dL_share_0 : decode cL_share 0 = .ok (.aload_n 2, 1) := by decide +kernel
theorem dL_share_1 : decode cL_share 1 = .ok (.iconst 0, 1) := by decide +kernel
theorem dL_share_2 : decode cL_share 2 = .ok (.aload_n 0, 1) := by decide +kernel
theorem dL_share_3 : decode cL_share 3 = .ok (.iload_n 1, 1) := by decide +kernel
theorem dL_share_4 : decode cL_share 4 = .ok (.invokevirtual 50, 3) := by decide +kernel
theorem dL_share_7 : decode cL_share 7 = .ok (.i2l, 1) := by decide +kernel
theorem dL_share_8 : decode cL_share 8 = .ok (.lastore, 1) := by decide +kernel
theorem dL_share_9 : decode cL_share 9 = .ok (.goto 6, 3) := by decide +kernel
theorem dL_share_12 : decode cL_share 12 = .ok (.astore_n 3, 1) := by decide +kernel
theorem dL_share_13 : decode cL_share 13 = .ok (.iconst 1, 1) := by decide +kernel
theorem dL_share_14 : decode cL_share 14 = .ok (.ireturn, 1) := by decide +kernel
theorem dL_share_15 : decode cL_share 15 = .ok (.iconst 0, 1) := by decide +kernel
theorem dL_share_16 : decode cL_share 16 = .ok (.ireturn, 1) := by decide +kernel
set_option maxRecDepth 20000 in
theorem ggL_linesWith_X5_linesWith : GoodIn wsL_linesWith wsX5_linesWith := goodIn_ca (goodIn_r _ [6, 7, 8, 9, 10, 5, 11, 12, 13, 14, 15, 16, 17, 18, 19, 20, 21, 22, 23, 24, 25, 26, 27, 28, 29, 30, 31, 32, 33, 34, 35, 36, 37, 38, 39, 40, 41, 42, 43, 44, 45, 46, 47, 48, 49, 50, 51, 52, 53, 54, 55, 56, 57, 58, 59, 60, 61, 62, 63, 64, 65, 66, 67, 68, 69, 70, 71, 72, 73, 74, 75, 76, 77, 78, 79, 80, 81, 82, 83, 84, 85, 86, 87, 88, 89, 90, 91, 92, 93, 94, 95, 96, 97, 98, 99, 100, 101, 102, 103, 104, 105, 106, 107, 108, 109, 110, 111, 112, 113, 114, 115, 116, 117, 118, 119, 120, 121, 122, 123, 124, 125, 126, 127, 128, 129, 130, 131, 132, 133, 134, 135, 136, 137, 138, 139, 140, 141, 142, 143, 144, 145, 146, 147, 148, 149, 150, 151, 152, 153, 154, 155, 156, 157, 158, 159, 160, 161, 162, 163, 164, 165, 166, 167, 168, 169, 170, 171, 172, 173, 174, 175, 176, 177, 178, 179, 180] (by decide +kernel) (by decide +kernel)) (goodIn_sub (fun _ h => List.mem_cons_of_mem _ (List.mem_append_right _ h)) (by decide +kernel))
set_option maxRecDepth 20000 in
theorem gL_linesWith_X5_linesWith : GoodIn wsL_linesWith (wsV RL 53 RX5 yX5_linesWith wsX5_linesWith) := goodIn_app (goodIn_of _ (by decide +kernel)) ggL_linesWith_X5_linesWith
theorem dL_linesWith_0 : decode cL_linesWith 0 = .ok (.aload_n 2, 1) := by decide +kernel
theorem dL_linesWith_1 : decode cL_linesWith 1 = .ok (.iconst 0, 1) := by decide +kernel
theorem dL_linesWith_2 : decode cL_linesWith 2 = .ok (.aload_n 0, 1) := by decide +kernel
theorem dL_linesWith_3 : decode cL_linesWith 3 = .ok (.iload_n 1, 1) := by decide +kernel
theorem dL_linesWith_4 : decode cL_linesWith 4 = .ok (.invokevirtual 53, 3) := by decide +kernel
theorem dL_linesWith_7 : decode cL_linesWith 7 = .ok (.i2l, 1) := by decide +kernel
theorem dL_linesWith_8 : decode cL_linesWith 8 = .ok (.lastore, 1) := by decide +kernel
theorem dL_linesWith_9 : decode cL_linesWith 9 = .ok (.goto 6, 3) := by decide +kernel
theorem dL_linesWith_12 : decode cL_linesWith 12 = .ok (.astore_n 3, 1) := by decide +kernel
theorem dL_linesWith_13 : decode cL_linesWith 13 = .ok (.iconst 1, 1) := by decide +kernel
theorem dL_linesWith_14 : decode cL_linesWith 14 = .ok (.ireturn, 1) := by decide +kernel
theorem dL_linesWith_15 : decode cL_linesWith 15 = .ok (.iconst 0, 1) := by decide +kernel
theorem dL_linesWith_16 : decode cL_linesWith 16 = .ok (.ireturn, 1) := by decide +kernel
set_option maxRecDepth 20000 in
theorem ggL_measureFor_X5_measureFor : GoodIn wsL_measureFor wsX5_measureFor := goodIn_ca (goodIn_r _ [6, 7, 8, 9, 10, 5, 11, 12, 13, 14, 15, 16, 17, 18, 19, 20, 21, 22, 23, 24, 25, 26, 27, 28, 29, 30, 31, 32, 33, 34, 35, 36, 37, 38, 39, 40, 41, 42, 43, 44, 45, 46, 47, 48, 49, 50, 51, 52, 53, 54, 55, 56, 57, 58, 59, 60, 61, 62, 63, 64, 65, 66, 67, 68, 69, 70, 71, 72, 73, 74, 75, 76, 77, 78, 79, 80, 81, 82, 83, 84, 85, 86, 87, 88, 89, 90, 91, 92, 93, 94, 95, 96, 97, 98, 99, 100, 101, 102, 103, 104, 105, 106, 107, 108, 109, 110, 111, 112, 113, 114, 115, 116, 117, 118, 119, 120, 121, 122, 123, 124, 125, 126, 127, 128, 129, 130, 131, 132, 133, 134, 135, 136, 137, 138, 139, 140, 141, 142, 143, 144, 145, 146, 147, 148, 149, 150, 151, 152, 153, 154, 155, 156, 157, 158, 159, 160, 161, 162, 163, 164, 165, 166, 167, 168, 169, 170, 171, 172, 173, 174, 175, 176, 177, 178, 179, 180] (by decide +kernel) (by decide +kernel)) (goodIn_sub (fun _ h => List.mem_cons_of_mem _ (List.mem_append_right _ h)) (by decide +kernel))
set_option maxRecDepth 20000 in
theorem gL_measureFor_X5_measureFor : GoodIn wsL_measureFor (wsV RL 56 RX5 yX5_measureFor wsX5_measureFor) := goodIn_app (goodIn_of _ (by decide +kernel)) ggL_measureFor_X5_measureFor
theorem dL_measureFor_0 : decode cL_measureFor 0 = .ok (.aload_n 2, 1) := by decide +kernel
theorem dL_measureFor_1 : decode cL_measureFor 1 = .ok (.iconst 0, 1) := by decide +kernel
theorem dL_measureFor_2 : decode cL_measureFor 2 = .ok (.aload_n 0, 1) := by decide +kernel
theorem dL_measureFor_3 : decode cL_measureFor 3 = .ok (.iload_n 1, 1) := by decide +kernel
theorem dL_measureFor_4 : decode cL_measureFor 4 = .ok (.invokevirtual 56, 3) := by decide +kernel
theorem dL_measureFor_7 : decode cL_measureFor 7 = .ok (.i2l, 1) := by decide +kernel
theorem dL_measureFor_8 : decode cL_measureFor 8 = .ok (.lastore, 1) := by decide +kernel
theorem dL_measureFor_9 : decode cL_measureFor 9 = .ok (.goto 6, 3) := by decide +kernel
theorem dL_measureFor_12 : decode cL_measureFor 12 = .ok (.astore_n 3, 1) := by decide +kernel
theorem dL_measureFor_13 : decode cL_measureFor 13 = .ok (.iconst 1, 1) := by decide +kernel
theorem dL_measureFor_14 : decode cL_measureFor 14 = .ok (.ireturn, 1) := by decide +kernel
theorem dL_measureFor_15 : decode cL_measureFor 15 = .ok (.iconst 0, 1) := by decide +kernel
theorem dL_measureFor_16 : decode cL_measureFor 16 = .ok (.ireturn, 1) := by decide +kernel
set_option maxRecDepth 20000 in
theorem ggL_evenest_X5_evenest : GoodIn wsL_evenest wsX5_evenest := goodIn_ca (goodIn_r _ [6, 7, 8, 9, 10, 11, 12, 13, 14, 15, 16, 17, 5, 18, 19, 20, 21, 22, 23, 24, 25, 26, 27, 28, 29, 30, 31, 32, 33, 34, 35, 36, 37, 38, 39, 40, 41, 42, 43, 44, 45, 46, 47, 48, 49, 50, 51, 52, 53, 54, 55, 56, 57, 58, 59, 60, 61, 62, 63, 64, 65, 66, 67, 68, 69, 70, 71, 72, 73, 74, 75, 76, 77, 78, 79, 80, 81, 82, 83, 84, 85, 86, 87, 88, 89, 90, 91, 92, 93, 94, 95, 96, 97, 98, 99, 100, 101, 102, 103, 104, 105, 106, 107, 108, 109, 110, 111, 112, 113, 114, 115, 116, 117, 118, 119, 120, 121, 122, 123, 124, 125, 126, 127, 128, 129, 130, 131, 132, 133, 134, 135, 136, 137, 138, 139, 140, 141, 142, 143, 144, 145, 146, 147, 148, 149, 150, 151, 152, 153, 154, 155, 156, 157, 158, 159, 160, 161, 162, 163, 164, 165, 166, 167, 168, 169, 170, 171, 172, 173, 174, 175, 176, 177, 178, 179, 180, 181, 182, 183, 184, 185] (by decide +kernel) (by decide +kernel)) (goodIn_sub (fun _ h => List.mem_cons_of_mem _ (List.mem_append_right _ h)) (by decide +kernel))
set_option maxRecDepth 20000 in
theorem gL_evenest_X5_evenest : GoodIn wsL_evenest (wsV RL 59 RX5 yX5_evenest wsX5_evenest) := goodIn_app (goodIn_of _ (by decide +kernel)) ggL_evenest_X5_evenest
theorem dL_evenest_0 : decode cL_evenest 0 = .ok (.aload_n 2, 1) := by decide +kernel
theorem dL_evenest_1 : decode cL_evenest 1 = .ok (.iconst 0, 1) := by decide +kernel
theorem dL_evenest_2 : decode cL_evenest 2 = .ok (.aload_n 0, 1) := by decide +kernel
theorem dL_evenest_3 : decode cL_evenest 3 = .ok (.iload_n 1, 1) := by decide +kernel
theorem dL_evenest_4 : decode cL_evenest 4 = .ok (.invokevirtual 59, 3) := by decide +kernel
theorem dL_evenest_7 : decode cL_evenest 7 = .ok (.i2l, 1) := by decide +kernel
theorem dL_evenest_8 : decode cL_evenest 8 = .ok (.lastore, 1) := by decide +kernel
theorem dL_evenest_9 : decode cL_evenest 9 = .ok (.goto 6, 3) := by decide +kernel
theorem dL_evenest_12 : decode cL_evenest 12 = .ok (.astore_n 3, 1) := by decide +kernel
theorem dL_evenest_13 : decode cL_evenest 13 = .ok (.iconst 1, 1) := by decide +kernel
theorem dL_evenest_14 : decode cL_evenest 14 = .ok (.ireturn, 1) := by decide +kernel
theorem dL_evenest_15 : decode cL_evenest 15 = .ok (.iconst 0, 1) := by decide +kernel
theorem dL_evenest_16 : decode cL_evenest 16 = .ok (.ireturn, 1) := by decide +kernel
set_option maxRecDepth 20000 in
theorem ggL_type_X5_type : GoodIn wsL_type wsX5_type := goodIn_ca (goodIn_ca (goodIn_r _ [7, 8, 9, 10, 11, 12, 13, 6, 14, 15, 16, 17, 18, 19, 20, 21, 22, 23, 24, 25, 26, 27, 28, 29, 30, 31, 32] (by decide +kernel) (by decide +kernel)) (goodIn_sub (fun _ h => List.mem_cons_of_mem _ (List.mem_append_left _ (List.mem_append_right _ h))) (by decide +kernel))) (goodIn_sub (fun _ h => List.mem_cons_of_mem _ (List.mem_append_right _ h)) (by decide +kernel))
set_option maxRecDepth 20000 in
theorem gL_type_X5_type : GoodIn wsL_type (wsV RL 62 RX5 yX5_type wsX5_type) := goodIn_app (goodIn_of _ (by decide +kernel)) ggL_type_X5_type
theorem dL_type_0 : decode cL_type 0 = .ok (.aload_n 2, 1) := by decide +kernel
theorem dL_type_1 : decode cL_type 1 = .ok (.iconst 0, 1) := by decide +kernel
theorem dL_type_2 : decode cL_type 2 = .ok (.aload_n 0, 1) := by decide +kernel
theorem dL_type_3 : decode cL_type 3 = .ok (.iload_n 1, 1) := by decide +kernel
theorem dL_type_4 : decode cL_type 4 = .ok (.invokevirtual 62, 3) := by decide +kernel
theorem dL_type_7 : decode cL_type 7 = .ok (.i2l, 1) := by decide +kernel
theorem dL_type_8 : decode cL_type 8 = .ok (.lastore, 1) := by decide +kernel
theorem dL_type_9 : decode cL_type 9 = .ok (.goto 9, 3) := by decide +kernel
theorem dL_type_12 : decode cL_type 12 = .ok (.astore_n 3, 1) := by decide +kernel
theorem dL_type_13 : decode cL_type 13 = .ok (.iconst 1, 1) := by decide +kernel
theorem dL_type_14 : decode cL_type 14 = .ok (.ireturn, 1) := by decide +kernel
theorem dL_type_15 : decode cL_type 15 = .ok (.astore_n 3, 1) := by decide +kernel
theorem dL_type_16 : decode cL_type 16 = .ok (.iconst 2, 1) := by decide +kernel
theorem dL_type_17 : decode cL_type 17 = .ok (.ireturn, 1) := by decide +kernel
theorem dL_type_18 : decode cL_type 18 = .ok (.iconst 0, 1) := by decide +kernel
theorem dL_type_19 : decode cL_type 19 = .ok (.ireturn, 1) := by decide +kernel
set_option maxRecDepth 20000 in
theorem ggL_lineByte_X5_lineByte : GoodIn wsL_lineByte wsX5_lineByte := goodIn_ca (goodIn_ca (goodIn_r _ [7, 8, 9, 10, 11, 12, 13, 6, 14, 15, 16, 17, 18, 19, 20, 21, 22, 23, 24, 25, 26, 27, 28, 29, 30, 31, 32, 33, 34, 35, 36, 37, 38, 39, 40, 41, 42, 43, 44, 45, 46, 47, 48, 49, 50, 51, 52, 53, 54, 55, 56, 57, 58, 59, 60, 61, 62, 63, 64, 65, 66, 67, 68, 69, 70, 71, 72, 73, 74, 75, 76, 77, 78, 79, 80, 81, 82] (by decide +kernel) (by decide +kernel)) (goodIn_sub (fun _ h => List.mem_cons_of_mem _ (List.mem_append_left _ (List.mem_append_right _ h))) (by decide +kernel))) (goodIn_sub (fun _ h => List.mem_cons_of_mem _ (List.mem_append_right _ h)) (by decide +kernel))
set_option maxRecDepth 20000 in
theorem gL_lineByte_X5_lineByte : GoodIn wsL_lineByte (wsV RL 65 RX5 yX5_lineByte wsX5_lineByte) := goodIn_app (goodIn_of _ (by decide +kernel)) ggL_lineByte_X5_lineByte
theorem dL_lineByte_0 : decode cL_lineByte 0 = .ok (.aload_n 3, 1) := by decide +kernel
theorem dL_lineByte_1 : decode cL_lineByte 1 = .ok (.iconst 0, 1) := by decide +kernel
theorem dL_lineByte_2 : decode cL_lineByte 2 = .ok (.aload_n 0, 1) := by decide +kernel
theorem dL_lineByte_3 : decode cL_lineByte 3 = .ok (.iload_n 1, 1) := by decide +kernel
theorem dL_lineByte_4 : decode cL_lineByte 4 = .ok (.iload_n 2, 1) := by decide +kernel
theorem dL_lineByte_5 : decode cL_lineByte 5 = .ok (.invokevirtual 65, 3) := by decide +kernel
theorem dL_lineByte_8 : decode cL_lineByte 8 = .ok (.i2l, 1) := by decide +kernel
theorem dL_lineByte_9 : decode cL_lineByte 9 = .ok (.lastore, 1) := by decide +kernel
theorem dL_lineByte_10 : decode cL_lineByte 10 = .ok (.goto 11, 3) := by decide +kernel
theorem dL_lineByte_13 : decode cL_lineByte 13 = .ok (.astore 4, 2) := by decide +kernel
theorem dL_lineByte_15 : decode cL_lineByte 15 = .ok (.iconst 1, 1) := by decide +kernel
theorem dL_lineByte_16 : decode cL_lineByte 16 = .ok (.ireturn, 1) := by decide +kernel
theorem dL_lineByte_17 : decode cL_lineByte 17 = .ok (.astore 4, 2) := by decide +kernel
theorem dL_lineByte_19 : decode cL_lineByte 19 = .ok (.iconst 2, 1) := by decide +kernel
theorem dL_lineByte_20 : decode cL_lineByte 20 = .ok (.ireturn, 1) := by decide +kernel
theorem dL_lineByte_21 : decode cL_lineByte 21 = .ok (.iconst 0, 1) := by decide +kernel
theorem dL_lineByte_22 : decode cL_lineByte 22 = .ok (.ireturn, 1) := by decide +kernel
set_option maxRecDepth 20000 in
theorem ggL_undo_X5_undo : GoodIn wsL_undo wsX5_undo := goodIn_ca (goodIn_r _ [6, 7, 8, 9, 10, 11, 12, 13, 14, 15, 16, 17, 18, 19, 20, 21, 22, 23, 24, 25, 26, 27, 28, 29, 30, 31, 32, 33, 34, 35, 36, 37, 38, 39, 40, 41, 42, 43, 44, 45, 46, 47, 5, 48, 49, 50, 51, 52, 53, 54, 55, 56, 57, 58, 59, 60, 61, 62, 63, 64, 65, 66, 67, 68, 69, 70, 71, 72, 73, 74, 75, 76, 77, 78, 79, 80, 81, 82, 83, 84, 85, 86, 87, 88, 89, 90, 91, 92, 93, 94, 95, 96, 97, 98, 99, 100, 101, 102, 103, 104, 105, 106, 107, 108, 109, 110, 111, 112, 113, 114, 115, 116, 117, 118, 119, 120, 121, 122, 123, 124, 125, 126, 127, 128, 129, 130, 131, 132, 133, 134, 135, 136, 137, 138, 139, 140, 141, 142, 143, 144, 145, 146, 147, 148, 149, 150, 151, 152, 153, 154, 155, 156, 157, 158, 159, 160, 161, 162, 163, 164, 165, 166, 167, 168, 169, 170, 171, 172, 173, 174, 175, 176, 177, 178, 179, 180, 181, 182, 183, 184, 185, 186, 187, 188, 189, 190, 191, 192, 193, 194, 195, 196, 197, 198, 199, 200, 201, 202] (by decide +kernel) (by decide +kernel)) (goodIn_sub (fun _ h => List.mem_cons_of_mem _ (List.mem_append_right _ h)) (by decide +kernel))
set_option maxRecDepth 20000 in
theorem gL_undo_X5_undo : GoodIn wsL_undo (wsV RL 68 RX5 yX5_undo wsX5_undo) := goodIn_app (goodIn_of _ (by decide +kernel)) ggL_undo_X5_undo
theorem dL_undo_0 : decode cL_undo 0 = .ok (.aload_n 1, 1) := by decide +kernel
theorem dL_undo_1 : decode cL_undo 1 = .ok (.iconst 0, 1) := by decide +kernel
theorem dL_undo_2 : decode cL_undo 2 = .ok (.aload_n 0, 1) := by decide +kernel
theorem dL_undo_3 : decode cL_undo 3 = .ok (.invokevirtual 68, 3) := by decide +kernel
theorem dL_undo_6 : decode cL_undo 6 = .ok (.i2l, 1) := by decide +kernel
theorem dL_undo_7 : decode cL_undo 7 = .ok (.lastore, 1) := by decide +kernel
theorem dL_undo_8 : decode cL_undo 8 = .ok (.goto 6, 3) := by decide +kernel
theorem dL_undo_11 : decode cL_undo 11 = .ok (.astore_n 2, 1) := by decide +kernel
theorem dL_undo_12 : decode cL_undo 12 = .ok (.iconst 1, 1) := by decide +kernel
theorem dL_undo_13 : decode cL_undo 13 = .ok (.ireturn, 1) := by decide +kernel
theorem dL_undo_14 : decode cL_undo 14 = .ok (.iconst 0, 1) := by decide +kernel
theorem dL_undo_15 : decode cL_undo 15 = .ok (.ireturn, 1) := by decide +kernel
set_option maxRecDepth 20000 in
theorem ggL_law_X5_init : GoodIn wsL_law wsX5_init := goodIn_r _ [9, 10, 11, 12, 13, 14, 15, 16, 17, 18, 19, 20, 21, 22, 23, 24, 25, 26, 27, 28, 29, 30, 31, 32, 33, 34, 35, 36, 37, 38, 39, 40, 41, 42, 43, 44, 45, 46, 47, 48, 49, 50, 51, 52, 53, 54, 55, 56, 57, 58, 59, 60, 61, 62, 63, 64, 65, 66, 67, 68, 69, 70, 71, 72, 841, 842, 843, 844, 845, 846, 847, 848, 849, 819, 820, 821, 822, 823, 824, 850, 851, 852, 853, 854, 855, 856, 857, 858, 859, 860, 861, 862, 863, 864, 865, 866, 867, 868, 869] (by decide +kernel) (by decide +kernel)
set_option maxRecDepth 20000 in
theorem gL_law_X5_init : GoodIn wsL_law (wsX5_init) := ggL_law_X5_init
set_option maxRecDepth 20000 in
theorem ggL_law_X6_init : GoodIn wsL_law wsX6_init := goodIn_r _ [75, 76, 11, 12, 34, 77, 78, 79, 80, 81, 82, 83, 84, 5, 85, 825, 826, 827, 828, 829, 830, 831, 832, 833, 834, 835, 836, 837, 838, 839, 840] (by decide +kernel) (by decide +kernel)
set_option maxRecDepth 20000 in
theorem gL_law_X6_init : GoodIn wsL_law (wsX6_init) := ggL_law_X6_init
set_option maxRecDepth 20000 in
theorem ggL_law_L_insert : GoodIn wsL_law wsL_insert := goodIn_ca (goodIn_ca (goodIn_ca (goodIn_r _ [89, 90, 91, 92, 93, 94, 95, 2, 96, 97, 98, 16, 99, 30, 100, 101, 102, 103, 104, 105, 106, 107, 108, 109, 110, 111, 112, 113, 114, 115, 116, 117, 118, 119, 120, 121, 29, 122, 123, 124, 125, 126, 127, 72, 128, 129, 130, 131, 132, 133, 134, 15, 135, 48, 136, 137, 138, 139, 49, 140, 141, 142, 143, 144, 35, 36, 37, 38, 39, 41, 145, 146, 147, 148, 149, 150, 151, 152, 153, 154, 155, 156, 157, 158, 159, 160, 161, 162, 163, 164, 165, 166, 167, 168, 169, 170, 171, 172, 20, 173, 174, 175, 176, 177, 178, 179, 19, 180, 181, 56, 182, 183, 184, 185, 186, 187, 188, 189, 60, 190, 191, 192, 193, 194, 59, 195, 196, 197, 198, 199, 200, 201, 202, 203, 204, 205, 206, 207, 208, 209, 210, 211, 212, 213, 214, 215, 216, 217, 218, 219, 220, 221, 222, 223, 224, 225, 226, 227, 228, 229, 230, 231, 232, 233, 234, 235, 236, 237, 238, 239, 240, 241, 242, 243, 244, 245, 246, 247, 248, 249, 250, 251, 252, 53, 253, 254, 255, 256, 257, 258, 259, 55, 260, 261, 262, 263, 264, 265, 266, 267, 268, 269, 270, 271, 272, 273, 274, 275, 54, 276, 277, 278, 279, 819, 820, 821, 822, 823, 824, 841, 842, 843, 844, 845, 846, 847, 848, 849, 860, 861, 850, 851, 852, 853, 854, 855, 856, 862, 863, 864, 865, 866, 867, 868, 869] (by decide +kernel) (by decide +kernel)) (goodIn_sub (fun _ h => List.mem_append_left _ (List.mem_append_left _ (List.mem_append_right _ h))) (by decide +kernel))) (goodIn_sub (fun _ h => List.mem_append_left _ (List.mem_append_right _ h)) (by decide +kernel))) (goodIn_sub (fun _ h => List.mem_append_right _ h) (by decide +kernel))
set_option maxRecDepth 20000 in
theorem gL_law_L_insert : GoodIn wsL_law (va_wsS RL 76 yL_insert wsL_insert) := goodIn_app (goodIn_of _ (by decide +kernel)) ggL_law_L_insert
set_option maxRecDepth 20000 in
theorem ggL_law_X6_insert : GoodIn wsL_law wsX6_insert := goodIn_r _ [283, 77, 284, 285, 286, 5, 287, 288, 83, 84, 85, 289, 290, 291, 292, 293, 294, 295, 79, 296, 297, 298, 299, 300, 301, 302, 303, 304, 305, 306, 307, 308, 78, 309, 310, 311, 312, 825, 826, 827, 828, 829, 830, 831, 832, 833, 834, 835, 836, 837, 838, 839, 840] (by decide +kernel) (by decide +kernel)
set_option maxRecDepth 20000 in
theorem gL_law_X6_insert : GoodIn wsL_law (wsV RL 81 RX6 yX6_insert wsX6_insert) := goodIn_app (goodIn_of _ (by decide +kernel)) ggL_law_X6_insert
set_option maxRecDepth 20000 in
theorem ggL_law_X6_thrown : GoodIn wsL_law wsX6_thrown := goodIn_r _ [316, 288, 825, 826, 827, 828, 829, 830, 831, 832, 833, 834, 835, 836, 837, 838, 839, 840] (by decide +kernel) (by decide +kernel)
set_option maxRecDepth 20000 in
theorem gL_law_X6_thrown : GoodIn wsL_law (wsV RL 82 RX6 yX6_thrown wsX6_thrown) := goodIn_app (goodIn_of _ (by decide +kernel)) ggL_law_X6_thrown
set_option maxRecDepth 20000 in
theorem ggL_law_L_removeWord : GoodIn wsL_law wsL_removeWord := goodIn_ca (goodIn_r _ [319, 90, 320, 321, 322, 2, 323, 16, 99, 30, 100, 101, 102, 103, 104, 119, 120, 121, 29, 122, 123, 124, 125, 126, 127, 72, 128, 129, 130, 131, 132, 133, 134, 15, 135, 48, 136, 137, 138, 139, 49, 140, 141, 142, 143, 144, 35, 36, 37, 38, 39, 41, 324, 325, 326, 327, 161, 162, 163, 164, 149, 150, 151, 152, 153, 154, 155, 156, 169, 170, 171, 172, 20, 173, 174, 175, 176, 177, 178, 179, 19, 180, 181, 56, 182, 183, 184, 185, 186, 187, 188, 189, 60, 190, 191, 192, 193, 194, 59, 195, 196, 197, 198, 199, 200, 201, 202, 203, 204, 205, 206, 207, 208, 209, 210, 211, 212, 213, 214, 215, 216, 217, 218, 219, 220, 221, 222, 223, 224, 225, 226, 227, 228, 229, 230, 231, 232, 233, 234, 235, 236, 237, 238, 239, 240, 241, 242, 243, 244, 245, 246, 247, 248, 249, 250, 251, 252, 53, 253, 254, 255, 256, 257, 258, 259, 55, 260, 261, 262, 263, 264, 265, 266, 267, 268, 269, 270, 271, 272, 273, 274, 275, 54, 276, 277, 278, 279, 819, 820, 821, 822, 823, 824, 841, 842, 843, 844, 845, 846, 847, 848, 849, 860, 861, 850, 851, 852, 853, 854, 855, 856, 862, 863, 864, 865, 866, 867, 868, 869] (by decide +kernel) (by decide +kernel)) (goodIn_sub (fun _ h => List.mem_append_left _ (List.mem_append_right _ h)) (by decide +kernel))
set_option maxRecDepth 20000 in
theorem gL_law_L_removeWord : GoodIn wsL_law (va_wsS RL 85 yL_removeWord wsL_removeWord) := goodIn_app (goodIn_of _ (by decide +kernel)) ggL_law_L_removeWord
set_option maxRecDepth 20000 in
theorem ggL_law_X6_removeWord : GoodIn wsL_law wsX6_removeWord := goodIn_r _ [331, 77, 332, 333, 334, 5, 335, 284, 285, 286, 287, 288, 292, 293, 294, 295, 79, 304, 305, 306, 307, 308, 78, 309, 310, 311, 312, 825, 826, 827, 828, 829, 830, 831, 832, 833, 834, 835, 836, 837, 838, 839, 840] (by decide +kernel) (by decide +kernel)
set_option maxRecDepth 20000 in
theorem gL_law_X6_removeWord : GoodIn wsL_law (wsV RL 88 RX6 yX6_removeWord wsX6_removeWord) := goodIn_app (goodIn_of _ (by decide +kernel)) ggL_law_X6_removeWord
set_option maxRecDepth 20000 in
theorem ggL_law_L_endParagraph : GoodIn wsL_law wsL_endParagraph := goodIn_ca (goodIn_r _ [338, 90, 339, 340, 341, 2, 342, 16, 99, 30, 100, 101, 102, 103, 104, 119, 120, 121, 29, 122, 123, 124, 125, 126, 127, 72, 128, 129, 130, 131, 132, 133, 134, 15, 135, 48, 136, 137, 138, 139, 49, 140, 141, 142, 143, 144, 35, 36, 37, 38, 39, 41, 343, 344, 345, 346, 161, 162, 163, 164, 347, 348, 349, 350, 169, 170, 171, 172, 20, 173, 174, 175, 176, 177, 178, 179, 19, 180, 181, 56, 182, 183, 184, 185, 186, 187, 188, 189, 60, 190, 191, 192, 193, 194, 59, 195, 196, 197, 155, 198, 199, 200, 201, 202, 154, 156, 203, 204, 205, 206, 207, 208, 209, 210, 211, 212, 213, 214, 215, 216, 217, 218, 219, 220, 221, 222, 223, 224, 225, 226, 227, 228, 229, 230, 231, 232, 233, 234, 235, 236, 237, 238, 239, 240, 241, 242, 243, 244, 245, 246, 247, 248, 249, 250, 251, 252, 53, 253, 254, 255, 256, 257, 258, 259, 55, 260, 261, 262, 263, 264, 265, 266, 267, 268, 269, 270, 271, 272, 273, 274, 275, 54, 276, 277, 278, 279, 819, 820, 821, 822, 823, 824, 841, 842, 843, 844, 845, 846, 847, 848, 849, 860, 861, 850, 851, 852, 853, 854, 855, 856, 862, 863, 864, 865, 866, 867, 868, 869] (by decide +kernel) (by decide +kernel)) (goodIn_sub (fun _ h => List.mem_append_left _ (List.mem_append_right _ h)) (by decide +kernel))
set_option maxRecDepth 20000 in
theorem gL_law_L_endParagraph : GoodIn wsL_law (va_wsS RL 89 yL_endParagraph wsL_endParagraph) := goodIn_app (goodIn_of _ (by decide +kernel)) ggL_law_L_endParagraph
set_option maxRecDepth 20000 in
theorem ggL_law_X6_endParagraph : GoodIn wsL_law wsX6_endParagraph := goodIn_r _ [354, 332, 333, 334, 5, 335, 77, 284, 285, 286, 287, 288, 292, 293, 294, 295, 79, 355, 356, 357, 358, 300, 301, 302, 303, 304, 305, 306, 307, 308, 78, 309, 310, 311, 312, 825, 826, 827, 828, 829, 830, 831, 832, 833, 834, 835, 836, 837, 838, 839, 840] (by decide +kernel) (by decide +kernel)
set_option maxRecDepth 20000 in
theorem gL_law_X6_endParagraph : GoodIn wsL_law (wsV RL 92 RX6 yX6_endParagraph wsX6_endParagraph) := goodIn_app (goodIn_of _ (by decide +kernel)) ggL_law_X6_endParagraph
set_option maxRecDepth 20000 in
theorem ggL_law_L_setSigns : GoodIn wsL_law wsL_setSigns := goodIn_ca (goodIn_ca (goodIn_r _ [361, 90, 91, 362, 363, 364, 2, 365, 16, 99, 30, 100, 101, 102, 103, 104, 110, 111, 112, 108, 109, 113, 114, 115, 116, 117, 118, 119, 120, 121, 29, 122, 123, 124, 125, 126, 127, 72, 128, 129, 130, 131, 132, 133, 134, 15, 135, 48, 136, 137, 138, 139, 49, 140, 141, 142, 143, 144, 35, 36, 37, 38, 39, 41, 165, 166, 167, 168, 161, 162, 163, 164, 169, 170, 171, 172, 20, 173, 174, 175, 176, 177, 178, 179, 19, 180, 181, 56, 182, 183, 184, 185, 186, 187, 188, 189, 60, 190, 191, 192, 193, 194, 59, 195, 196, 197, 155, 198, 199, 200, 201, 202, 154, 156, 203, 204, 205, 206, 207, 208, 209, 210, 211, 212, 213, 214, 215, 216, 217, 218, 219, 220, 221, 222, 223, 224, 225, 226, 227, 228, 229, 230, 231, 232, 233, 234, 235, 236, 237, 238, 239, 240, 241, 242, 243, 244, 245, 246, 247, 248, 249, 250, 251, 252, 53, 253, 254, 255, 256, 257, 258, 259, 55, 260, 261, 262, 263, 264, 265, 266, 267, 268, 269, 270, 271, 272, 273, 274, 275, 54, 276, 277, 278, 279, 366, 819, 820, 821, 822, 823, 824, 841, 842, 843, 844, 845, 846, 847, 848, 849, 860, 861, 850, 851, 852, 853, 854, 855, 856, 862, 863, 864, 865, 866, 867, 868, 869] (by decide +kernel) (by decide +kernel)) (goodIn_sub (fun _ h => List.mem_append_left _ (List.mem_append_right _ h)) (by decide +kernel))) (goodIn_sub (fun _ h => List.mem_append_right _ h) (by decide +kernel))
set_option maxRecDepth 20000 in
theorem gL_law_L_setSigns : GoodIn wsL_law (va_wsS RL 93 yL_setSigns wsL_setSigns) := goodIn_app (goodIn_of _ (by decide +kernel)) ggL_law_L_setSigns
set_option maxRecDepth 20000 in
theorem ggL_law_X6_setSigns : GoodIn wsL_law wsX6_setSigns := goodIn_r _ [370, 332, 333, 334, 5, 335, 77, 284, 285, 286, 287, 288, 289, 290, 291, 83, 84, 85, 292, 293, 294, 295, 79, 300, 301, 302, 303, 371, 372, 373, 374, 355, 356, 357, 358, 375, 376, 377, 378, 379, 380, 304, 305, 306, 307, 308, 78, 309, 310, 311, 312, 825, 826, 827, 828, 829, 830, 831, 832, 833, 834, 835, 836, 837, 838, 839, 840] (by decide +kernel) (by decide +kernel)
set_option maxRecDepth 20000 in
theorem gL_law_X6_setSigns : GoodIn wsL_law (wsV RL 96 RX6 yX6_setSigns wsX6_setSigns) := goodIn_app (goodIn_of _ (by decide +kernel)) ggL_law_X6_setSigns
set_option maxRecDepth 20000 in
theorem ggL_law_L_set : GoodIn wsL_law wsL_set := goodIn_ca (goodIn_r _ [383, 91, 384, 385, 386, 2, 387, 388, 389, 30, 16, 390, 105, 106, 107, 108, 109, 119, 120, 121, 29, 122, 123, 124, 125, 126, 127, 72, 128, 129, 130, 131, 132, 133, 134, 15, 135, 48, 136, 137, 138, 139, 49, 140, 141, 142, 143, 144, 35, 36, 37, 38, 39, 41, 173, 174, 175, 176, 169, 170, 171, 172, 20, 177, 178, 179, 19, 180, 181, 56, 182, 183, 184, 185, 186, 187, 188, 189, 60, 190, 191, 192, 193, 194, 59, 195, 196, 197, 155, 198, 199, 200, 201, 202, 154, 156, 203, 204, 205, 206, 207, 161, 162, 163, 164, 208, 209, 210, 211, 212, 213, 214, 215, 216, 217, 218, 219, 220, 221, 222, 223, 224, 225, 226, 227, 228, 229, 230, 231, 232, 233, 234, 235, 236, 237, 238, 239, 240, 241, 242, 243, 244, 245, 246, 247, 248, 249, 250, 251, 252, 53, 253, 254, 255, 256, 257, 258, 259, 55, 260, 261, 262, 263, 264, 265, 266, 267, 268, 269, 270, 271, 272, 273, 274, 275, 54, 276, 277, 278, 279, 819, 820, 821, 822, 823, 824, 841, 842, 843, 844, 845, 846, 847, 848, 849, 860, 861, 850, 851, 852, 853, 854, 855, 856, 862, 863, 864, 865, 866, 867, 868, 869] (by decide +kernel) (by decide +kernel)) (goodIn_sub (fun _ h => List.mem_append_right _ h) (by decide +kernel))
set_option maxRecDepth 20000 in
theorem gL_law_L_set : GoodIn wsL_law (va_wsS RL 97 yL_set wsL_set) := goodIn_app (goodIn_of _ (by decide +kernel)) ggL_law_L_set
set_option maxRecDepth 20000 in
theorem ggL_law_X6_set : GoodIn wsL_law wsX6_set := goodIn_r _ [394, 77, 395, 396, 5, 397, 83, 84, 85, 284, 285, 286, 287, 288, 292, 293, 294, 295, 79, 304, 305, 306, 307, 308, 78, 309, 310, 311, 312, 825, 826, 827, 828, 829, 830, 831, 832, 833, 834, 835, 836, 837, 838, 839, 840] (by decide +kernel) (by decide +kernel)
set_option maxRecDepth 20000 in
theorem gL_law_X6_set : GoodIn wsL_law (wsV RL 100 RX6 yX6_set wsX6_set) := goodIn_app (goodIn_of _ (by decide +kernel)) ggL_law_X6_set
set_option maxRecDepth 20000 in
theorem ggL_law_L_setShare : GoodIn wsL_law wsL_setShare := goodIn_ca (goodIn_ca (goodIn_r _ [400, 90, 91, 401, 402, 403, 2, 404, 30, 16, 405, 100, 101, 102, 103, 104, 105, 106, 107, 108, 109, 119, 120, 121, 29, 122, 123, 124, 125, 126, 127, 72, 128, 129, 130, 131, 132, 133, 134, 15, 135, 48, 136, 137, 138, 139, 49, 140, 141, 142, 143, 144, 35, 36, 37, 38, 39, 41, 406, 229, 230, 231, 169, 170, 171, 172, 20, 173, 174, 175, 176, 177, 178, 179, 19, 180, 181, 56, 182, 183, 184, 185, 186, 187, 188, 189, 60, 190, 191, 192, 193, 194, 59, 195, 196, 197, 155, 198, 199, 200, 201, 202, 154, 156, 203, 204, 205, 206, 207, 161, 162, 163, 164, 208, 209, 210, 211, 212, 213, 214, 215, 216, 217, 218, 219, 220, 221, 222, 223, 224, 225, 226, 227, 228, 232, 233, 234, 235, 236, 237, 238, 239, 240, 241, 242, 243, 244, 245, 246, 247, 248, 249, 250, 251, 252, 53, 253, 254, 255, 256, 257, 258, 259, 55, 260, 261, 262, 263, 264, 265, 266, 267, 268, 269, 270, 271, 272, 273, 274, 275, 54, 276, 277, 278, 279, 819, 820, 821, 822, 823, 824, 841, 842, 843, 844, 845, 846, 847, 848, 849, 860, 861, 850, 851, 852, 853, 854, 855, 856, 862, 863, 864, 865, 866, 867, 868, 869] (by decide +kernel) (by decide +kernel)) (goodIn_sub (fun _ h => List.mem_append_left _ (List.mem_append_right _ h)) (by decide +kernel))) (goodIn_sub (fun _ h => List.mem_append_right _ h) (by decide +kernel))
set_option maxRecDepth 20000 in
theorem gL_law_L_setShare : GoodIn wsL_law (va_wsS RL 101 yL_setShare wsL_setShare) := goodIn_app (goodIn_of _ (by decide +kernel)) ggL_law_L_setShare
set_option maxRecDepth 20000 in
theorem ggL_law_X6_setShare : GoodIn wsL_law wsX6_setShare := goodIn_r _ [410, 77, 83, 84, 5, 85, 284, 285, 286, 287, 288, 292, 293, 294, 295, 79, 304, 305, 306, 307, 308, 78, 309, 310, 311, 312, 825, 826, 827, 828, 829, 830, 831, 832, 833, 834, 835, 836, 837, 838, 839, 840] (by decide +kernel) (by decide +kernel)
set_option maxRecDepth 20000 in
theorem gL_law_X6_setShare : GoodIn wsL_law (wsV RL 103 RX6 yX6_setShare wsX6_setShare) := goodIn_app (goodIn_of _ (by decide +kernel)) ggL_law_X6_setShare
set_option maxRecDepth 20000 in
theorem ggL_law_L_word : GoodIn wsL_law wsL_word := goodIn_ca (goodIn_ca (goodIn_r _ [413, 90, 91, 414, 415, 416, 2, 417, 16, 99, 100, 101, 102, 103, 104, 105, 106, 107, 108, 109, 418, 419, 420, 421, 20, 422, 423, 424, 19, 425, 55, 426, 427, 428, 15, 429, 36, 161, 162, 163, 164, 144, 366, 205, 206, 207, 37, 38, 39, 208, 209, 210, 430, 221, 222, 223, 431, 233, 234, 235, 343, 344, 345, 346, 41, 432, 269, 270, 271, 53, 433, 434, 435, 436, 819, 820, 821, 822, 823, 824, 841, 842, 843, 844, 845, 846, 847, 848, 849, 850, 851, 852, 853, 854, 855, 856] (by decide +kernel) (by decide +kernel)) (goodIn_sub (fun _ h => List.mem_append_left _ (List.mem_append_right _ h)) (by decide +kernel))) (goodIn_sub (fun _ h => List.mem_append_right _ h) (by decide +kernel))
set_option maxRecDepth 20000 in
theorem gL_law_L_word : GoodIn wsL_law (va_wsS RL 104 yL_word wsL_word) := goodIn_app (goodIn_of _ (by decide +kernel)) ggL_law_L_word
set_option maxRecDepth 20000 in
theorem ggL_law_X6_word : GoodIn wsL_law wsX6_word := goodIn_r _ [440, 332, 333, 334, 5, 335, 77, 284, 285, 286, 287, 288, 83, 84, 85, 441, 442, 443, 444, 445, 446, 447, 448, 449, 450, 451, 452, 453, 454, 455, 456, 457, 81, 82, 458, 459, 460, 461, 355, 356, 357, 358, 462, 463, 464, 465, 375, 376, 377, 371, 372, 373, 374, 378, 379, 380, 466, 467, 468, 469, 470, 471, 472, 473, 474, 475, 476, 477, 478, 479, 480, 481, 309, 310, 311, 312, 825, 826, 827, 828, 829, 830, 831, 832, 833, 834, 835, 836, 837, 838, 839, 840] (by decide +kernel) (by decide +kernel)
set_option maxRecDepth 20000 in
theorem gL_law_X6_word : GoodIn wsL_law (wsV RL 106 RX6 yX6_word wsX6_word) := goodIn_app (goodIn_of _ (by decide +kernel)) ggL_law_X6_word
set_option maxRecDepth 20000 in
theorem ggL_law_L_line : GoodIn wsL_law wsL_line := goodIn_ca (goodIn_ca (goodIn_r _ [484, 90, 91, 485, 486, 487, 2, 488, 20, 489, 100, 101, 102, 103, 104, 105, 106, 107, 108, 109, 432, 269, 270, 19, 271, 53, 819, 820, 821, 822, 823, 824, 850, 851, 852, 853, 854, 855, 856] (by decide +kernel) (by decide +kernel)) (goodIn_sub (fun _ h => List.mem_append_left _ (List.mem_append_right _ h)) (by decide +kernel))) (goodIn_sub (fun _ h => List.mem_append_right _ h) (by decide +kernel))
set_option maxRecDepth 20000 in
theorem gL_law_L_line : GoodIn wsL_law (va_wsS RL 107 yL_line wsL_line) := goodIn_app (goodIn_of _ (by decide +kernel)) ggL_law_L_line
set_option maxRecDepth 20000 in
theorem ggL_law_X6_line : GoodIn wsL_law wsX6_line := goodIn_r _ [493, 452, 441, 442, 443, 5, 444, 77, 445, 446, 447, 448, 449, 450, 451, 453, 454, 455, 456, 457, 81, 82, 458, 459, 460, 461, 355, 356, 357, 358, 462, 463, 464, 465, 375, 376, 377, 371, 372, 373, 374, 378, 379, 380, 466, 467, 468, 469, 284, 285, 286, 287, 288, 83, 84, 85, 494, 495, 496, 497, 498, 499, 500, 501, 502, 503, 504, 505, 506, 507, 508, 509, 309, 310, 311, 312, 825, 826, 827, 828, 829, 830, 831, 832, 833, 834, 835, 836, 837, 838, 839, 840] (by decide +kernel) (by decide +kernel)
set_option maxRecDepth 20000 in
theorem gL_law_X6_line : GoodIn wsL_law (wsV RL 109 RX6 yX6_line wsX6_line) := goodIn_app (goodIn_of _ (by decide +kernel)) ggL_law_X6_line
set_option maxRecDepth 20000 in
theorem ggL_law_L_page : GoodIn wsL_law wsL_page := goodIn_ca (goodIn_ca (goodIn_r _ [512, 90, 91, 513, 514, 515, 2, 516, 20, 517, 100, 101, 102, 103, 104, 105, 106, 107, 108, 109, 518, 519, 520, 19, 521, 54, 819, 820, 821, 822, 823, 824, 850, 851, 852, 853, 854, 855, 856] (by decide +kernel) (by decide +kernel)) (goodIn_sub (fun _ h => List.mem_append_left _ (List.mem_append_right _ h)) (by decide +kernel))) (goodIn_sub (fun _ h => List.mem_append_right _ h) (by decide +kernel))
set_option maxRecDepth 20000 in
theorem gL_law_L_page : GoodIn wsL_law (va_wsS RL 110 yL_page wsL_page) := goodIn_app (goodIn_of _ (by decide +kernel)) ggL_law_L_page
set_option maxRecDepth 20000 in
theorem ggL_law_X6_page : GoodIn wsL_law wsX6_page := goodIn_r _ [525, 453, 441, 442, 443, 5, 444, 77, 445, 446, 447, 448, 449, 450, 451, 452, 454, 455, 456, 457, 81, 82, 458, 459, 460, 461, 355, 356, 357, 358, 462, 463, 464, 465, 375, 376, 377, 371, 372, 373, 374, 378, 379, 380, 466, 467, 468, 469, 284, 285, 286, 287, 288, 83, 84, 85, 526, 527, 528, 529, 506, 507, 508, 509, 309, 310, 311, 312, 825, 826, 827, 828, 829, 830, 831, 832, 833, 834, 835, 836, 837, 838, 839, 840] (by decide +kernel) (by decide +kernel)
set_option maxRecDepth 20000 in
theorem gL_law_X6_page : GoodIn wsL_law (wsV RL 112 RX6 yX6_page wsX6_page) := goodIn_app (goodIn_of _ (by decide +kernel)) ggL_law_X6_page
set_option maxRecDepth 20000 in
theorem ggL_law_L_whole : GoodIn wsL_law wsL_whole := goodIn_ca (goodIn_r _ [532, 91, 533, 534, 535, 2, 536, 105, 106, 107, 108, 109, 537, 538, 539, 540, 16, 99, 20, 489, 517, 25, 541, 542, 543, 544, 15, 545, 144, 546, 241, 242, 243, 41, 161, 162, 163, 164, 547, 548, 549, 19, 550, 183, 276, 277, 278, 279, 268, 269, 270, 271, 53, 551, 552, 553, 554, 173, 174, 175, 176, 48, 819, 820, 821, 822, 823, 824, 841, 842, 843, 844, 845, 846, 847, 848, 849, 850, 851, 852, 853, 854, 855, 856, 857, 858, 859] (by decide +kernel) (by decide +kernel)) (goodIn_sub (fun _ h => List.mem_append_right _ h) (by decide +kernel))
set_option maxRecDepth 20000 in
theorem gL_law_L_whole : GoodIn wsL_law (va_wsS RL 113 yL_whole wsL_whole) := goodIn_app (goodIn_of _ (by decide +kernel)) ggL_law_L_whole
set_option maxRecDepth 20000 in
theorem ggL_law_X6_whole : GoodIn wsL_law wsX6_whole := goodIn_r _ [558, 83, 84, 5, 85, 284, 285, 286, 287, 288, 441, 442, 443, 444, 77, 445, 446, 447, 448, 449, 450, 451, 452, 453, 454, 455, 456, 457, 81, 82, 458, 459, 460, 461, 355, 356, 357, 358, 462, 463, 464, 465, 375, 376, 377, 371, 372, 373, 374, 378, 379, 380, 466, 467, 468, 469, 559, 560, 561, 562, 563, 564, 565, 566, 567, 568, 569, 570, 571, 506, 507, 508, 509, 309, 310, 311, 312, 825, 826, 827, 828, 829, 830, 831, 832, 833, 834, 835, 836, 837, 838, 839, 840] (by decide +kernel) (by decide +kernel)
set_option maxRecDepth 20000 in
theorem gL_law_X6_whole : GoodIn wsL_law (wsV RL 115 RX6 yX6_whole wsX6_whole) := goodIn_app (goodIn_of _ (by decide +kernel)) ggL_law_X6_whole
set_option maxRecDepth 20000 in
theorem ggL_law_L_share : GoodIn wsL_law wsL_share := goodIn_ca (goodIn_r _ [574, 90, 575, 576, 577, 2, 578, 16, 100, 101, 102, 103, 104, 406, 229, 230, 15, 231, 49, 819, 820, 821, 822, 823, 824, 841, 842, 843, 844, 845, 846, 847, 848, 849] (by decide +kernel) (by decide +kernel)) (goodIn_sub (fun _ h => List.mem_append_left _ (List.mem_append_right _ h)) (by decide +kernel))
set_option maxRecDepth 20000 in
theorem gL_law_L_share : GoodIn wsL_law (va_wsS RL 116 yL_share wsL_share) := goodIn_app (goodIn_of _ (by decide +kernel)) ggL_law_L_share
