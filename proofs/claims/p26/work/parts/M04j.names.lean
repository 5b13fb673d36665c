theorem dL_starts_22 : decode cL_starts 22 = .ok (.aload_n 0, 1) := by decide +kernel
theorem dL_starts_23 : decode cL_starts 23 = .ok (.iconst 5, 1) := by decide +kernel
theorem dL_starts_24 : decode cL_starts 24 = .ok (.iconst 1, 1) := by decide +kernel
theorem dL_starts_25 : decode cL_starts 25 = .ok (.iastore, 1) := by decide +kernel
theorem dL_starts_26 : decode cL_starts 26 = .ok (.iconst 0, 1) := by decide +kernel
theorem dL_starts_27 : decode cL_starts 27 = .ok (.istore_n 1, 1) := by decide +kernel
theorem dL_starts_28 : decode cL_starts 28 = .ok (.iload_n 1, 1) := by decide +kernel
theorem dL_starts_29 : decode cL_starts 29 = .ok (.bipush 8, 2) := by decide +kernel
theorem dL_starts_31 : decode cL_starts 31 = .ok (.if_icmp .ge 33, 3) := by decide +kernel
theorem dL_starts_34 : decode cL_starts 34 = .ok (.aload_n 0, 1) := by decide +kernel
theorem dL_starts_35 : decode cL_starts 35 = .ok (.bipush 6, 2) := by decide +kernel
theorem dL_starts_37 : decode cL_starts 37 = .ok (.iload_n 1, 1) := by decide +kernel
theorem dL_starts_38 : decode cL_starts 38 = .ok (.iadd, 1) := by decide +kernel
theorem dL_starts_39 : decode cL_starts 39 = .ok (.iload_n 1, 1) := by decide +kernel
theorem dL_starts_40 : decode cL_starts 40 = .ok (.iconst 2, 1) := by decide +kernel
theorem dL_starts_41 : decode cL_starts 41 = .ok (.if_icmp .le 14, 3) := by decide +kernel
theorem dL_starts_44 : decode cL_starts 44 = .ok (.iload_n 1, 1) := by decide +kernel
theorem dL_starts_45 : decode cL_starts 45 = .ok (.bipush 6, 2) := by decide +kernel
theorem dL_starts_47 : decode cL_starts 47 = .ok (.if_icmp .ge 8, 3) := by decide +kernel
theorem dL_starts_50 : decode cL_starts 50 = .ok (.bipush 100, 2) := by decide +kernel
theorem dL_starts_52 : decode cL_starts 52 = .ok (.goto 5, 3) := by decide +kernel
theorem dL_starts_55 : decode cL_starts 55 = .ok (.bipush 50, 2) := by decide +kernel
theorem dL_starts_57 : decode cL_starts 57 = .ok (.iastore, 1) := by decide +kernel
theorem dL_starts_58 : decode cL_starts 58 = .ok (.iinc 1 1, 3) := by decide +kernel
theorem dL_starts_61 : decode cL_starts 61 = .ok (.goto (-33), 3) := by decide +kernel
theorem dL_starts_64 : decode cL_starts 64 = .ok (.return_, 1) := by decide +kernel
set_option maxRecDepth 20000 in
theorem ggL_adds_X5_insert : GoodIn wsL_adds wsX5_insert := goodIn_ca (goodIn_ca (goodIn_ca (goodIn_r _ [11, 12, 13, 14, 15, 16, 17, 18, 10, 19, 20, 21, 22, 23, 24, 25, 26, 27, 28, 29, 30, 31, 32, 33, 34, 35, 36, 37, 38, 39, 40, 41, 42, 43, 44, 45, 46, 47, 48, 49, 50, 51, 52, 53, 54, 55, 56, 57, 58, 59, 60, 61, 62, 63, 64, 65, 66, 67, 68, 69, 70, 71, 72, 73, 74, 75, 76, 77, 78, 79, 80, 81, 82, 83, 84, 85, 86, 87, 88, 89, 90, 91, 92, 93, 94, 95, 96, 97, 98, 99, 100, 101, 102, 103, 104, 105, 106, 107, 108, 109, 110, 111, 112, 113, 114, 115, 116, 117, 118, 119, 120, 121, 122, 123, 124, 125, 126, 127, 128, 129, 130, 131, 132, 133, 134, 135, 136, 137, 138, 139, 140, 141, 142, 143, 144, 145, 146, 147, 148, 149, 150, 151, 152, 153, 154, 155, 156, 157, 158, 159, 160, 161, 162, 163, 164, 165, 166, 167, 168, 169, 170, 171, 172, 173, 174, 175, 176, 177, 178, 179, 180, 181, 182, 183, 184, 185, 186, 187, 188, 189, 190, 191, 192, 193, 194, 195, 196, 197, 198, 199, 200, 201, 202, 203, 204, 205, 206, 207, 208, 209, 210, 211, 212, 213, 214, 215, 216, 217, 218, 219, 220, 221, 222, 223, 224, 225, 226, 227, 228, 229, 230, 231, 232, 233, 234, 235, 236, 237, 238, 239, 240, 241, 242, 243, 244, 245, 246, 247] (by decide +kernel) (by decide +kernel)) (goodIn_sub (fun _ h => List.mem_cons_of_mem _ (List.mem_append_left _ (List.mem_append_left _ (List.mem_append_right _ h)))) (by decide +kernel))) (goodIn_sub (fun _ h => List.mem_cons_of_mem _ (List.mem_append_left _ (List.mem_append_right _ h))) (by decide +kernel))) (goodIn_sub (fun _ h => List.mem_cons_of_mem _ (List.mem_append_right _ h)) (by decide +kernel))
set_option maxRecDepth 20000 in
theorem gL_adds_X5_insert : GoodIn wsL_adds (wsV RL 68 RX5 yX5_insert wsX5_insert) := goodIn_app (goodIn_of _ (by decide +kernel)) ggL_adds_X5_insert
theorem dL_adds_0 : decode cL_adds 0 = .ok (.aload_n 0, 1) := by decide +kernel
theorem dL_adds_1 : decode cL_adds 1 = .ok (.iload_n 1, 1) := by decide +kernel
theorem dL_adds_2 : decode cL_adds 2 = .ok (.iload_n 2, 1) := by decide +kernel
theorem dL_adds_3 : decode cL_adds 3 = .ok (.iload_n 3, 1) := by decide +kernel
theorem dL_adds_4 : decode cL_adds 4 = .ok (.iload 4, 2) := by decide +kernel
theorem dL_adds_6 : decode cL_adds 6 = .ok (.iload 5, 2) := by decide +kernel
theorem dL_adds_8 : decode cL_adds 8 = .ok (.invokevirtual 68, 3) := by decide +kernel
theorem dL_adds_11 : decode cL_adds 11 = .ok (.ireturn, 1) := by decide +kernel
theorem dL_adds_12 : decode cL_adds 12 = .ok (.astore 6, 2) := by decide +kernel
theorem dL_adds_14 : decode cL_adds 14 = .ok (.ldc 54, 2) := by decide +kernel
theorem dL_adds_16 : decode cL_adds 16 = .ok (.ireturn, 1) := by decide +kernel
theorem dL_adds_17 : decode cL_adds 17 = .ok (.astore 6, 2) := by decide +kernel
theorem dL_adds_19 : decode cL_adds 19 = .ok (.ldc 67, 2) := by decide +kernel
theorem dL_adds_21 : decode cL_adds 21 = .ok (.ireturn, 1) := by decide +kernel
theorem dL_adds_22 : decode cL_adds 22 = .ok (.astore 6, 2) := by decide +kernel
theorem dL_adds_24 : decode cL_adds 24 = .ok (.ldc 80, 2) := by decide +kernel
theorem dL_adds_26 : decode cL_adds 26 = .ok (.ireturn, 1) := by decide +kernel
set_option maxRecDepth 20000 in
theorem ggL_drops_X5_removeWord : GoodIn wsL_drops wsX5_removeWord := goodIn_ca (goodIn_r _ [7, 8, 9, 10, 11, 12, 6, 13, 14, 15, 16, 17, 18, 19, 20, 21, 22, 23, 24, 25, 26, 27, 28, 29, 30, 31, 32, 33, 34, 35, 36, 37, 38, 39, 40, 41, 42, 43, 44, 45, 46, 47, 48, 49, 50, 51, 52, 53, 54, 55, 56, 57, 58, 59, 60, 61, 62, 63, 64, 65, 66, 67, 68, 69, 70, 71, 72, 73, 74, 75, 76, 77, 78, 79, 80, 81, 82, 83, 84, 85, 86, 87, 88, 89, 90, 91, 92, 93, 94, 95, 96, 97, 98, 99, 100, 101, 102, 103, 104, 105, 106, 107, 108, 109, 110, 111, 112, 113, 114, 115, 116, 117, 118, 119, 120, 121, 122, 123, 124, 125, 126, 127, 128, 129, 130, 131, 132, 133, 134, 135, 136, 137, 138, 139, 140, 141, 142, 143, 144, 145, 146, 147, 148, 149, 150, 151, 152, 153, 154, 155, 156, 157, 158, 159, 160, 161, 162, 163, 164, 165, 166, 167, 168, 169, 170, 171, 172, 173, 174, 175, 176, 177, 178, 179, 180, 181, 182, 183, 184, 185, 186, 187, 188, 189, 190, 191, 192, 193, 194, 195, 196, 197, 198, 199, 200, 201, 202, 203, 204, 205, 206, 207, 208, 209, 210, 211, 212, 213, 214, 215, 216, 217, 218, 219] (by decide +kernel) (by decide +kernel)) (goodIn_sub (fun _ h => List.mem_cons_of_mem _ (List.mem_append_right _ h)) (by decide +kernel))
set_option maxRecDepth 20000 in
theorem gL_drops_X5_removeWord : GoodIn wsL_drops (wsV RL 81 RX5 yX5_removeWord wsX5_removeWord) := goodIn_app (goodIn_of _ (by decide +kernel)) ggL_drops_X5_removeWord
theorem dL_drops_0 : decode cL_drops 0 = .ok (.aload_n 0, 1) := by decide +kernel
theorem dL_drops_1 : decode cL_drops 1 = .ok (.iload_n 1, 1) := by decide +kernel
theorem dL_drops_2 : decode cL_drops 2 = .ok (.invokevirtual 81, 3) := by decide +kernel
theorem dL_drops_5 : decode cL_drops 5 = .ok (.ireturn, 1) := by decide +kernel
theorem dL_drops_6 : decode cL_drops 6 = .ok (.astore_n 2, 1) := by decide +kernel
theorem dL_drops_7 : decode cL_drops 7 = .ok (.ldc 54, 2) := by decide +kernel
theorem dL_drops_9 : decode cL_drops 9 = .ok (.ireturn, 1) := by decide +kernel
set_option maxRecDepth 20000 in
theorem ggL_ends_X5_endParagraph : GoodIn wsL_ends wsX5_endParagraph := goodIn_ca (goodIn_r _ [7, 8, 9, 10, 11, 12, 6, 13, 14, 15, 16, 17, 18, 19, 20, 21, 22, 23, 24, 25, 26, 27, 28, 29, 30, 31, 32, 33, 34, 35, 36, 37, 38, 39, 40, 41, 42, 43, 44, 45, 46, 47, 48, 49, 50, 51, 52, 53, 54, 55, 56, 57, 58, 59, 60, 61, 62, 63, 64, 65, 66, 67, 68, 69, 70, 71, 72, 73, 74, 75, 76, 77, 78, 79, 80, 81, 82, 83, 84, 85, 86, 87, 88, 89, 90, 91, 92, 93, 94, 95, 96, 97, 98, 99, 100, 101, 102, 103, 104, 105, 106, 107, 108, 109, 110, 111, 112, 113, 114, 115, 116, 117, 118, 119, 120, 121, 122, 123, 124, 125, 126, 127, 128, 129, 130, 131, 132, 133, 134, 135, 136, 137, 138, 139, 140, 141, 142, 143, 144, 145, 146, 147, 148, 149, 150, 151, 152, 153, 154, 155, 156, 157, 158, 159, 160, 161, 162, 163, 164, 165, 166, 167, 168, 169, 170, 171, 172, 173, 174, 175, 176, 177, 178, 179, 180, 181, 182, 183, 184, 185, 186, 187, 188, 189, 190, 191, 192, 193, 194, 195, 196, 197, 198, 199, 200, 201, 202, 203, 204, 205, 206, 207, 208, 209, 210, 211, 212, 213, 214, 215, 216, 217, 218] (by decide +kernel) (by decide +kernel)) (goodIn_sub (fun _ h => List.mem_cons_of_mem _ (List.mem_append_right _ h)) (by decide +kernel))
set_option maxRecDepth 20000 in
theorem gL_ends_X5_endParagraph : GoodIn wsL_ends (wsV RL 84 RX5 yX5_endParagraph wsX5_endParagraph) := goodIn_app (goodIn_of _ (by decide +kernel)) ggL_ends_X5_endParagraph
theorem dL_ends_0 : decode cL_ends 0 = .ok (.aload_n 0, 1) := by decide +kernel
theorem dL_ends_1 : decode cL_ends 1 = .ok (.iload_n 1, 1) := by decide +kernel
theorem dL_ends_2 : decode cL_ends 2 = .ok (.iload_n 2, 1) := by decide +kernel
theorem dL_ends_3 : decode cL_ends 3 = .ok (.invokevirtual 84, 3) := by decide +kernel
theorem dL_ends_6 : decode cL_ends 6 = .ok (.ireturn, 1) := by decide +kernel
theorem dL_ends_7 : decode cL_ends 7 = .ok (.astore_n 3, 1) := by decide +kernel
theorem dL_ends_8 : decode cL_ends 8 = .ok (.ldc 54, 2) := by decide +kernel
theorem dL_ends_10 : decode cL_ends 10 = .ok (.ireturn, 1) := by decide +kernel
