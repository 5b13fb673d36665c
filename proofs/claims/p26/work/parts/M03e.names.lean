set_option maxRecDepth 20000 in
theorem gX5_setSigns_X5_checkSigns : GoodIn wsX5_setSigns (va_wsS RX5 55 yX5_checkSigns wsX5_checkSigns) := goodIn_app (goodIn_of _ (by decide +kernel)) ggX5_setSigns_X5_checkSigns
set_option maxRecDepth 20000 in
theorem ggX5_setSigns_X0_save : GoodIn wsX5_setSigns wsX0_save := goodIn_r _ [25, 26, 27, 28, 29, 24, 30, 31, 32, 33, 34, 35, 36, 37, 38, 39, 40, 41, 42, 43, 44, 45, 46, 47, 48, 49, 50, 51, 52, 53, 54, 55, 56, 57, 204, 205, 195, 196, 197, 198, 199, 200, 201, 202, 203] (by decide +kernel) (by decide +kernel)
set_option maxRecDepth 20000 in
theorem gX5_setSigns_X0_save : GoodIn wsX5_setSigns (wsV RX5 65 RX0 yX0_save wsX0_save) := goodIn_app (goodIn_of _ (by decide +kernel)) ggX5_setSigns_X0_save
set_option maxRecDepth 20000 in
theorem ggX5_setSigns_X3_putSigns : GoodIn wsX5_setSigns wsX3_putSigns := goodIn_r _ [61, 55, 56, 62, 63, 64, 39, 65, 51, 195, 196, 197, 198, 199, 200, 201, 202, 203] (by decide +kernel) (by decide +kernel)
set_option maxRecDepth 20000 in
theorem gX5_setSigns_X3_putSigns : GoodIn wsX5_setSigns (wsV RX5 77 RX3 yX3_putSigns wsX3_putSigns) := goodIn_app (goodIn_of _ (by decide +kernel)) ggX5_setSigns_X3_putSigns
set_option maxRecDepth 20000 in
theorem ggX5_setSigns_X5_setLines : GoodIn wsX5_setSigns wsX5_setLines := goodIn_r _ [69, 70, 1, 71, 72, 73, 39, 74, 41, 75, 76, 77, 78, 79, 80, 81, 82, 43, 44, 45, 83, 84, 85, 86, 87, 88, 89, 90, 91, 92, 93, 94, 95, 96, 97, 98, 99, 100, 101, 102, 103, 104, 105, 106, 107, 108, 109, 110, 111, 112, 54, 55, 56, 62, 63, 64, 65, 51, 113, 6, 114, 115, 116, 117, 118, 119, 120, 121, 122, 123, 124, 125, 126, 127, 128, 129, 130, 131, 132, 133, 134, 135, 136, 46, 137, 138, 139, 140, 141, 142, 143, 144, 145, 146, 147, 148, 57, 149, 150, 151, 152, 153, 154, 155, 156, 157, 158, 159, 160, 161, 162, 163, 164, 165, 166, 167, 168, 169, 170, 171, 172, 173, 174, 175, 176, 177, 178, 179, 180, 181, 182, 183, 184, 185, 186, 187, 189, 190, 191, 192, 193, 194, 195, 196, 197, 198, 199, 200, 201, 202, 203, 206, 207, 208, 209, 210, 211, 212, 213, 214, 215, 216, 217, 218, 219, 220] (by decide +kernel) (by decide +kernel)
set_option maxRecDepth 20000 in
theorem gX5_setSigns_X5_setLines : GoodIn wsX5_setSigns (wsV RX5 80 RX5 yX5_setLines wsX5_setLines) := goodIn_app (goodIn_of _ (by decide +kernel)) ggX5_setSigns_X5_setLines
set_option maxRecDepth 20000 in
theorem ggX5_setSigns_X3_widthOf : GoodIn wsX5_setSigns wsX3_widthOf := goodIn_r _ [112, 54, 55, 56, 62, 63, 64, 39, 65, 51, 113, 6, 114, 115, 195, 196, 197, 198, 199, 200, 201, 202, 203] (by decide +kernel) (by decide +kernel)
set_option maxRecDepth 20000 in
theorem gX5_setSigns_X3_widthOf : GoodIn wsX5_setSigns (wsV RX5 94 RX3 yX3_widthOf wsX3_widthOf) := goodIn_app (goodIn_of _ (by decide +kernel)) ggX5_setSigns_X3_widthOf
theorem dX5_setSigns_0 : decode cX5_setSigns 0 = .ok (.iload_n 1, 1) := by decide +kernel
theorem dX5_setSigns_1 : decode cX5_setSigns 1 = .ok (.aload_n 0, 1) := by decide +kernel
theorem dX5_setSigns_2 : decode cX5_setSigns 2 = .ok (.getfield 10, 3) := by decide +kernel
theorem dX5_setSigns_5 : decode cX5_setSigns 5 = .ok (.getfield 43, 3) := by decide +kernel
theorem dX5_setSigns_8 : decode cX5_setSigns 8 = .ok (.invokestatic 47, 3) := by decide +kernel
theorem dX5_setSigns_11 : decode cX5_setSigns 11 = .ok (.iload_n 2, 1) := by decide +kernel
theorem dX5_setSigns_12 : decode cX5_setSigns 12 = .ok (.iload_n 3, 1) := by decide +kernel
theorem dX5_setSigns_13 : decode cX5_setSigns 13 = .ok (.invokestatic 55, 3) := by decide +kernel
theorem dX5_setSigns_16 : decode cX5_setSigns 16 = .ok (.aload_n 0, 1) := by decide +kernel
theorem dX5_setSigns_17 : decode cX5_setSigns 17 = .ok (.getfield 39, 3) := by decide +kernel
theorem dX5_setSigns_20 : decode cX5_setSigns 20 = .ok (.aload_n 0, 1) := by decide +kernel
theorem dX5_setSigns_21 : decode cX5_setSigns 21 = .ok (.getfield 10, 3) := by decide +kernel
theorem dX5_setSigns_24 : decode cX5_setSigns 24 = .ok (.invokevirtual 65, 3) := by decide +kernel
theorem dX5_setSigns_27 : decode cX5_setSigns 27 = .ok (.aload_n 0, 1) := by decide +kernel
theorem dX5_setSigns_28 : decode cX5_setSigns 28 = .ok (.getfield 10, 3) := by decide +kernel
theorem dX5_setSigns_31 : decode cX5_setSigns 31 = .ok (.iload_n 1, 1) := by decide +kernel
theorem dX5_setSigns_32 : decode cX5_setSigns 32 = .ok (.iload_n 2, 1) := by decide +kernel
theorem dX5_setSigns_33 : decode cX5_setSigns 33 = .ok (.iload_n 3, 1) := by decide +kernel
theorem dX5_setSigns_34 : decode cX5_setSigns 34 = .ok (.invokevirtual 77, 3) := by decide +kernel
theorem dX5_setSigns_37 : decode cX5_setSigns 37 = .ok (.aload_n 0, 1) := by decide +kernel
theorem dX5_setSigns_38 : decode cX5_setSigns 38 = .ok (.invokevirtual 80, 3) := by decide +kernel
theorem dX5_setSigns_41 : decode cX5_setSigns 41 = .ok (.aload_n 0, 1) := by decide +kernel
theorem dX5_setSigns_42 : decode cX5_setSigns 42 = .ok (.getfield 10, 3) := by decide +kernel
theorem dX5_setSigns_45 : decode cX5_setSigns 45 = .ok (.iload_n 1, 1) := by decide +kernel
theorem dX5_setSigns_46 : decode cX5_setSigns 46 = .ok (.invokevirtual 94, 3) := by decide +kernel
theorem dX5_setSigns_49 : decode cX5_setSigns 49 = .ok (.ireturn, 1) := by decide +kernel
set_option maxRecDepth 20000 in
theorem ggX5_set_X5_checkRange : GoodIn wsX5_set wsX5_checkRange := goodIn_ca (goodIn_r _ [9, 10, 11] (by decide +kernel) (by decide +kernel)) (goodIn_sub (fun _ h => List.mem_cons_of_mem _ (List.mem_append_right _ h)) (by decide +kernel))
set_option maxRecDepth 20000 in
theorem gX5_set_X5_checkRange : GoodIn wsX5_set (va_wsS RX5 51 yX5_checkRange wsX5_checkRange) := goodIn_app (goodIn_of _ (by decide +kernel)) ggX5_set_X5_checkRange
set_option maxRecDepth 20000 in
theorem ggX5_set_X0_save : GoodIn wsX5_set wsX0_save := goodIn_r _ [16, 17, 18, 19, 20, 15, 21, 22, 23, 24, 25, 26, 27, 28, 29, 30, 31, 32, 33, 34, 35, 36, 37, 38, 39, 40, 41, 42, 43, 44, 45, 46, 47, 48, 190, 191, 181, 182, 183, 184, 185, 186, 187, 188, 189] (by decide +kernel) (by decide +kernel)
set_option maxRecDepth 20000 in
theorem gX5_set_X0_save : GoodIn wsX5_set (wsV RX5 65 RX0 yX0_save wsX0_save) := goodIn_app (goodIn_of _ (by decide +kernel)) ggX5_set_X0_save
set_option maxRecDepth 20000 in
theorem ggX5_set_X3_setting : GoodIn wsX5_set wsX3_setting := goodIn_r _ [52, 32, 181, 182, 183, 184, 185, 186, 187, 188, 189] (by decide +kernel) (by decide +kernel)
set_option maxRecDepth 20000 in
theorem gX5_set_X3_setting : GoodIn wsX5_set (wsV RX5 105 RX3 yX3_setting wsX3_setting) := goodIn_app (goodIn_of _ (by decide +kernel)) ggX5_set_X3_setting
set_option maxRecDepth 20000 in
theorem ggX5_set_X5_setLines : GoodIn wsX5_set wsX5_setLines := goodIn_r _ [56, 57, 4, 49, 50, 51, 30, 52, 32, 58, 59, 60, 61, 62, 63, 64, 65, 34, 35, 36, 66, 67, 68, 69, 70, 71, 72, 73, 74, 75, 76, 77, 78, 79, 80, 81, 82, 83, 84, 85, 86, 87, 88, 89, 90, 91, 92, 93, 94, 95, 45, 46, 47, 96, 97, 98, 99, 42, 100, 8, 101, 102, 103, 104, 105, 106, 107, 108, 109, 110, 111, 112, 113, 114, 115, 116, 117, 118, 119, 120, 121, 122, 123, 37, 124, 125, 126, 127, 128, 129, 130, 131, 132, 133, 134, 135, 48, 136, 137, 138, 139, 140, 141, 142, 143, 144, 145, 146, 147, 148, 149, 150, 151, 152, 153, 154, 155, 156, 157, 158, 159, 160, 161, 162, 163, 164, 165, 166, 167, 168, 169, 170, 171, 172, 173, 174, 175, 176, 177, 178, 179, 180, 181, 182, 183, 184, 185, 186, 187, 188, 189, 192, 193, 194, 195, 196, 197, 198, 199, 200, 201, 202, 203, 204, 205, 206] (by decide +kernel) (by decide +kernel)
set_option maxRecDepth 20000 in
theorem gX5_set_X5_setLines : GoodIn wsX5_set (wsV RX5 80 RX5 yX5_setLines wsX5_setLines) := goodIn_app (goodIn_of _ (by decide +kernel)) ggX5_set_X5_setLines
theorem dX5_set_0 : decode cX5_set 0 = .ok (.iload_n 1, 1) := by decide +kernel
theorem dX5_set_1 : decode cX5_set 1 = .ok (.iconst 0, 1) := by decide +kernel
theorem dX5_set_2 : decode cX5_set 2 = .ok (.iconst 5, 1) := by decide +kernel
theorem dX5_set_3 : decode cX5_set 3 = .ok (.invokestatic 51, 3) := by decide +kernel
theorem dX5_set_6 : decode cX5_set 6 = .ok (.iload_n 2, 1) := by decide +kernel
theorem dX5_set_7 : decode cX5_set 7 = .ok (.getstatic 98, 3) := by decide +kernel
theorem dX5_set_10 : decode cX5_set 10 = .ok (.iload_n 1, 1) := by decide +kernel
theorem dX5_set_11 : decode cX5_set 11 = .ok (.iaload, 1) := by decide +kernel
theorem dX5_set_12 : decode cX5_set 12 = .ok (.getstatic 102, 3) := by decide +kernel
theorem dX5_set_15 : decode cX5_set 15 = .ok (.iload_n 1, 1) := by decide +kernel
theorem dX5_set_16 : decode cX5_set 16 = .ok (.iaload, 1) := by decide +kernel
theorem dX5_set_17 : decode cX5_set 17 = .ok (.invokestatic 51, 3) := by decide +kernel
theorem dX5_set_20 : decode cX5_set 20 = .ok (.aload_n 0, 1) := by decide +kernel
theorem dX5_set_21 : decode cX5_set 21 = .ok (.getfield 39, 3) := by decide +kernel
theorem dX5_set_24 : decode cX5_set 24 = .ok (.aload_n 0, 1) := by decide +kernel
theorem dX5_set_25 : decode cX5_set 25 = .ok (.getfield 10, 3) := by decide +kernel
theorem dX5_set_28 : decode cX5_set 28 = .ok (.invokevirtual 65, 3) := by decide +kernel
theorem dX5_set_31 : decode cX5_set 31 = .ok (.aload_n 0, 1) := by decide +kernel
theorem dX5_set_32 : decode cX5_set 32 = .ok (.getfield 10, 3) := by decide +kernel
theorem dX5_set_35 : decode cX5_set 35 = .ok (.iload_n 1, 1) := by decide +kernel
theorem dX5_set_36 : decode cX5_set 36 = .ok (.invokevirtual 105, 3) := by decide +kernel
theorem dX5_set_39 : decode cX5_set 39 = .ok (.istore_n 3, 1) := by decide +kernel
theorem dX5_set_40 : decode cX5_set 40 = .ok (.aload_n 0, 1) := by decide +kernel
theorem dX5_set_41 : decode cX5_set 41 = .ok (.getfield 10, 3) := by decide +kernel
theorem dX5_set_44 : decode cX5_set 44 = .ok (.getfield 108, 3) := by decide +kernel
theorem dX5_set_47 : decode cX5_set 47 = .ok (.iload_n 1, 1) := by decide +kernel
theorem dX5_set_48 : decode cX5_set 48 = .ok (.iload_n 2, 1) := by decide +kernel
theorem dX5_set_49 : decode cX5_set 49 = .ok (.iastore, 1) := by decide +kernel
theorem dX5_set_50 : decode cX5_set 50 = .ok (.aload_n 0, 1) := by decide +kernel
theorem dX5_set_51 : decode cX5_set 51 = .ok (.invokevirtual 80, 3) := by decide +kernel
theorem dX5_set_54 : decode cX5_set 54 = .ok (.iload_n 3, 1) := by decide +kernel
theorem dX5_set_55 : decode cX5_set 55 = .ok (.ireturn, 1) := by decide +kernel
set_option maxRecDepth 20000 in
theorem ggX5_setShare_X5_checkIndex : GoodIn wsX5_setShare wsX5_checkIndex := goodIn_ca (goodIn_r _ [7, 8, 9] (by decide +kernel) (by decide +kernel)) (goodIn_sub (fun _ h => List.mem_cons_of_mem _ (List.mem_append_left _ (List.mem_append_right _ h))) (by decide +kernel))
set_option maxRecDepth 20000 in
theorem gX5_setShare_X5_checkIndex : GoodIn wsX5_setShare (va_wsS RX5 47 yX5_checkIndex wsX5_checkIndex) := goodIn_app (goodIn_of _ (by decide +kernel)) ggX5_setShare_X5_checkIndex
set_option maxRecDepth 20000 in
theorem ggX5_setShare_X5_checkRange : GoodIn wsX5_setShare wsX5_checkRange := goodIn_ca (goodIn_r _ [12, 13, 14] (by decide +kernel) (by decide +kernel)) (goodIn_sub (fun _ h => List.mem_cons_of_mem _ (List.mem_append_right _ h)) (by decide +kernel))
set_option maxRecDepth 20000 in
theorem gX5_setShare_X5_checkRange : GoodIn wsX5_setShare (va_wsS RX5 51 yX5_checkRange wsX5_checkRange) := goodIn_app (goodIn_of _ (by decide +kernel)) ggX5_setShare_X5_checkRange
set_option maxRecDepth 20000 in
theorem ggX5_setShare_X0_save : GoodIn wsX5_setShare wsX0_save := goodIn_r _ [19, 20, 21, 22, 23, 18, 24, 25, 26, 27, 28, 29, 30, 31, 32, 33, 34, 35, 36, 37, 38, 39, 40, 41, 42, 43, 44, 45, 46, 47, 48, 49, 50, 51, 194, 195, 185, 186, 187, 188, 189, 190, 191, 192, 193] (by decide +kernel) (by decide +kernel)
set_option maxRecDepth 20000 in
theorem gX5_setShare_X0_save : GoodIn wsX5_setShare (wsV RX5 65 RX0 yX0_save wsX0_save) := goodIn_app (goodIn_of _ (by decide +kernel)) ggX5_setShare_X0_save
set_option maxRecDepth 20000 in
theorem ggX5_setShare_X3_shareOf : GoodIn wsX5_setShare wsX3_shareOf := goodIn_r _ [55, 40, 185, 186, 187, 188, 189, 190, 191, 192, 193] (by decide +kernel) (by decide +kernel)
set_option maxRecDepth 20000 in
theorem gX5_setShare_X3_shareOf : GoodIn wsX5_setShare (wsV RX5 111 RX3 yX3_shareOf wsX3_shareOf) := goodIn_app (goodIn_of _ (by decide +kernel)) ggX5_setShare_X3_shareOf
set_option maxRecDepth 20000 in
theorem ggX5_setShare_X5_setLines : GoodIn wsX5_setShare wsX5_setLines := goodIn_r _ [59, 60, 2, 61, 62, 63, 33, 64, 35, 65, 66, 67, 68, 69, 70, 71, 72, 37, 38, 39, 73, 74, 75, 76, 77, 78, 79, 80, 81, 82, 83, 84, 85, 86, 87, 88, 89, 90, 91, 92, 93, 94, 95, 96, 97, 98, 99, 100, 101, 102, 48, 49, 50, 103, 104, 105, 106, 45, 107, 6, 108, 109, 110, 111, 112, 113, 114, 115, 116, 117, 118, 119, 120, 121, 122, 123, 124, 125, 126, 127, 53, 54, 55, 40, 128, 129, 130, 131, 132, 133, 134, 135, 136, 137, 138, 139, 51, 140, 141, 142, 143, 144, 145, 146, 147, 148, 149, 150, 151, 152, 153, 154, 155, 156, 157, 158, 159, 160, 161, 162, 163, 164, 165, 166, 167, 168, 169, 170, 171, 172, 173, 174, 175, 176, 177, 178, 179, 180, 181, 182, 183, 184, 185, 186, 187, 188, 189, 190, 191, 192, 193, 196, 197, 198, 199, 200, 201, 202, 203, 204, 205, 206, 207, 208, 209, 210] (by decide +kernel) (by decide +kernel)
set_option maxRecDepth 20000 in
theorem gX5_setShare_X5_setLines : GoodIn wsX5_setShare (wsV RX5 80 RX5 yX5_setLines wsX5_setLines) := goodIn_app (goodIn_of _ (by decide +kernel)) ggX5_setShare_X5_setLines
theorem dX5_setShare_0 : decode cX5_setShare 0 = .ok (.iload_n 1, 1) := by decide +kernel
theorem dX5_setShare_1 : decode cX5_setShare 1 = .ok (.bipush 8, 2) := by decide +kernel
theorem dX5_setShare_3 : decode cX5_setShare 3 = .ok (.invokestatic 47, 3) := by decide +kernel
theorem dX5_setShare_6 : decode cX5_setShare 6 = .ok (.iload_n 2, 1) := by decide +kernel
theorem dX5_setShare_7 : decode cX5_setShare 7 = .ok (.iconst 0, 1) := by decide +kernel
theorem dX5_setShare_8 : decode cX5_setShare 8 = .ok (.bipush 100, 2) := by decide +kernel
theorem dX5_setShare_10 : decode cX5_setShare 10 = .ok (.invokestatic 51, 3) := by decide +kernel
theorem dX5_setShare_13 : decode cX5_setShare 13 = .ok (.aload_n 0, 1) := by decide +kernel
theorem dX5_setShare_14 : decode cX5_setShare 14 = .ok (.getfield 39, 3) := by decide +kernel
theorem dX5_setShare_17 : decode cX5_setShare 17 = .ok (.aload_n 0, 1) := by decide +kernel
theorem dX5_setShare_18 : decode cX5_setShare 18 = .ok (.getfield 10, 3) := by decide +kernel
theorem dX5_setShare_21 : decode cX5_setShare 21 = .ok (.invokevirtual 65, 3) := by decide +kernel
theorem dX5_setShare_24 : decode cX5_setShare 24 = .ok (.aload_n 0, 1) := by decide +kernel
theorem dX5_setShare_25 : decode cX5_setShare 25 = .ok (.getfield 10, 3) := by decide +kernel
theorem dX5_setShare_28 : decode cX5_setShare 28 = .ok (.iload_n 1, 1) := by decide +kernel
theorem dX5_setShare_29 : decode cX5_setShare 29 = .ok (.invokevirtual 111, 3) := by decide +kernel
theorem dX5_setShare_32 : decode cX5_setShare 32 = .ok (.istore_n 3, 1) := by decide +kernel
theorem dX5_setShare_33 : decode cX5_setShare 33 = .ok (.aload_n 0, 1) := by decide +kernel
theorem dX5_setShare_34 : decode cX5_setShare 34 = .ok (.getfield 10, 3) := by decide +kernel
theorem dX5_setShare_37 : decode cX5_setShare 37 = .ok (.getfield 114, 3) := by decide +kernel
theorem dX5_setShare_40 : decode cX5_setShare 40 = .ok (.iload_n 1, 1) := by decide +kernel
theorem dX5_setShare_41 : decode cX5_setShare 41 = .ok (.iload_n 2, 1) := by decide +kernel
theorem dX5_setShare_42 : decode cX5_setShare 42 = .ok (.iastore, 1) := by decide +kernel
theorem dX5_setShare_43 : decode cX5_setShare 43 = .ok (.aload_n 0, 1) := by decide +kernel
theorem dX5_setShare_44 : decode cX5_setShare 44 = .ok (.invokevirtual 80, 3) := by decide +kernel
theorem dX5_setShare_47 : decode cX5_setShare 47 = .ok (.iload_n 3, 1) := by decide +kernel
theorem dX5_setShare_48 : decode cX5_setShare 48 = .ok (.ireturn, 1) := by decide +kernel
set_option maxRecDepth 20000 in
theorem ggX5_word_X5_checkIndex : GoodIn wsX5_word wsX5_checkIndex := goodIn_ca (goodIn_r _ [6, 7, 8] (by decide +kernel) (by decide +kernel)) (goodIn_sub (fun _ h => List.mem_cons_of_mem _ (List.mem_append_left _ (List.mem_append_right _ h))) (by decide +kernel))
set_option maxRecDepth 20000 in
theorem gX5_word_X5_checkIndex : GoodIn wsX5_word (va_wsS RX5 47 yX5_checkIndex wsX5_checkIndex) := goodIn_app (goodIn_of _ (by decide +kernel)) ggX5_word_X5_checkIndex
set_option maxRecDepth 20000 in
theorem ggX5_word_X5_checkRange : GoodIn wsX5_word wsX5_checkRange := goodIn_ca (goodIn_r _ [11, 12, 13] (by decide +kernel) (by decide +kernel)) (goodIn_sub (fun _ h => List.mem_cons_of_mem _ (List.mem_append_right _ h)) (by decide +kernel))
set_option maxRecDepth 20000 in
theorem gX5_word_X5_checkRange : GoodIn wsX5_word (va_wsS RX5 51 yX5_checkRange wsX5_checkRange) := goodIn_app (goodIn_of _ (by decide +kernel)) ggX5_word_X5_checkRange
set_option maxRecDepth 20000 in
theorem ggX5_word_X5_wordValue : GoodIn wsX5_word wsX5_wordValue := goodIn_r _ [17, 18, 1, 19, 20, 21, 22, 23, 24, 25, 26, 27, 28, 29, 30, 31, 32, 33, 34, 35, 36, 37, 38, 39, 40, 41, 42, 43, 5, 44, 45, 46, 47, 48, 49, 50, 51, 52, 53, 54, 55, 56, 57, 58, 59, 60, 61, 62, 63, 64, 65, 66, 67, 68, 69, 70, 71, 72, 73, 83, 84, 85, 86, 87, 88, 89, 74, 75, 76, 77, 78, 79, 80, 81, 82] (by decide +kernel) (by decide +kernel)
set_option maxRecDepth 20000 in
theorem gX5_word_X5_wordValue : GoodIn wsX5_word (wsV RX5 117 RX5 yX5_wordValue wsX5_wordValue) := goodIn_app (goodIn_of _ (by decide +kernel)) ggX5_word_X5_wordValue
theorem dX5_word_0 : decode cX5_word 0 = .ok (.iload_n 1, 1) := by decide +kernel
theorem dX5_word_1 : decode cX5_word 1 = .ok (.aload_n 0, 1) := by decide +kernel
theorem dX5_word_2 : decode cX5_word 2 = .ok (.getfield 10, 3) := by decide +kernel
theorem dX5_word_5 : decode cX5_word 5 = .ok (.getfield 43, 3) := by decide +kernel
theorem dX5_word_8 : decode cX5_word 8 = .ok (.invokestatic 47, 3) := by decide +kernel
theorem dX5_word_11 : decode cX5_word 11 = .ok (.iload_n 2, 1) := by decide +kernel
theorem dX5_word_12 : decode cX5_word 12 = .ok (.iconst 0, 1) := by decide +kernel
theorem dX5_word_13 : decode cX5_word 13 = .ok (.bipush 8, 2) := by decide +kernel
theorem dX5_word_15 : decode cX5_word 15 = .ok (.invokestatic 51, 3) := by decide +kernel
theorem dX5_word_18 : decode cX5_word 18 = .ok (.aload_n 0, 1) := by decide +kernel
theorem dX5_word_19 : decode cX5_word 19 = .ok (.iload_n 1, 1) := by decide +kernel
theorem dX5_word_20 : decode cX5_word 20 = .ok (.iload_n 2, 1) := by decide +kernel
theorem dX5_word_21 : decode cX5_word 21 = .ok (.invokevirtual 117, 3) := by decide +kernel
theorem dX5_word_24 : decode cX5_word 24 = .ok (.ireturn, 1) := by decide +kernel
set_option maxRecDepth 20000 in
theorem ggX5_line_X5_checkIndex : GoodIn wsX5_line wsX5_checkIndex := goodIn_ca (goodIn_r _ [6, 7, 8] (by decide +kernel) (by decide +kernel)) (goodIn_sub (fun _ h => List.mem_cons_of_mem _ (List.mem_append_left _ (List.mem_append_right _ h))) (by decide +kernel))
set_option maxRecDepth 20000 in
theorem gX5_line_X5_checkIndex : GoodIn wsX5_line (va_wsS RX5 47 yX5_checkIndex wsX5_checkIndex) := goodIn_app (goodIn_of _ (by decide +kernel)) ggX5_line_X5_checkIndex
set_option maxRecDepth 20000 in
theorem ggX5_line_X5_checkRange : GoodIn wsX5_line wsX5_checkRange := goodIn_ca (goodIn_r _ [11, 12, 13] (by decide +kernel) (by decide +kernel)) (goodIn_sub (fun _ h => List.mem_cons_of_mem _ (List.mem_append_right _ h)) (by decide +kernel))
set_option maxRecDepth 20000 in
theorem gX5_line_X5_checkRange : GoodIn wsX5_line (va_wsS RX5 51 yX5_checkRange wsX5_checkRange) := goodIn_app (goodIn_of _ (by decide +kernel)) ggX5_line_X5_checkRange
set_option maxRecDepth 20000 in
theorem ggX5_line_X1_lineValue : GoodIn wsX5_line wsX1_lineValue := goodIn_r _ [18, 19, 26, 27, 28, 29, 30, 31, 32] (by decide +kernel) (by decide +kernel)
set_option maxRecDepth 20000 in
theorem gX5_line_X1_lineValue : GoodIn wsX5_line (wsV RX5 124 RX1 yX1_lineValue wsX1_lineValue) := goodIn_app (goodIn_of _ (by decide +kernel)) ggX5_line_X1_lineValue
theorem dX5_line_0 : decode cX5_line 0 = .ok (.iload_n 1, 1) := by decide +kernel
theorem dX5_line_1 : decode cX5_line 1 = .ok (.aload_n 0, 1) := by decide +kernel
theorem dX5_line_2 : decode cX5_line 2 = .ok (.getfield 19, 3) := by decide +kernel
theorem dX5_line_5 : decode cX5_line 5 = .ok (.getfield 121, 3) := by decide +kernel
theorem dX5_line_8 : decode cX5_line 8 = .ok (.invokestatic 47, 3) := by decide +kernel
theorem dX5_line_11 : decode cX5_line 11 = .ok (.iload_n 2, 1) := by decide +kernel
theorem dX5_line_12 : decode cX5_line 12 = .ok (.iconst 0, 1) := by decide +kernel
theorem dX5_line_13 : decode cX5_line 13 = .ok (.bipush 11, 2) := by decide +kernel
theorem dX5_line_15 : decode cX5_line 15 = .ok (.invokestatic 51, 3) := by decide +kernel
theorem dX5_line_18 : decode cX5_line 18 = .ok (.aload_n 0, 1) := by decide +kernel
theorem dX5_line_19 : decode cX5_line 19 = .ok (.getfield 19, 3) := by decide +kernel
theorem dX5_line_22 : decode cX5_line 22 = .ok (.iload_n 1, 1) := by decide +kernel
theorem dX5_line_23 : decode cX5_line 23 = .ok (.iload_n 2, 1) := by decide +kernel
theorem dX5_line_24 : decode cX5_line 24 = .ok (.invokevirtual 124, 3) := by decide +kernel
theorem dX5_line_27 : decode cX5_line 27 = .ok (.ireturn, 1) := by decide +kernel
set_option maxRecDepth 20000 in
theorem ggX5_page_X5_checkIndex : GoodIn wsX5_page wsX5_checkIndex := goodIn_ca (goodIn_r _ [6, 7, 8] (by decide +kernel) (by decide +kernel)) (goodIn_sub (fun _ h => List.mem_cons_of_mem _ (List.mem_append_left _ (List.mem_append_right _ h))) (by decide +kernel))
set_option maxRecDepth 20000 in
theorem gX5_page_X5_checkIndex : GoodIn wsX5_page (va_wsS RX5 47 yX5_checkIndex wsX5_checkIndex) := goodIn_app (goodIn_of _ (by decide +kernel)) ggX5_page_X5_checkIndex
set_option maxRecDepth 20000 in
theorem ggX5_page_X5_checkRange : GoodIn wsX5_page wsX5_checkRange := goodIn_ca (goodIn_r _ [11, 12, 13] (by decide +kernel) (by decide +kernel)) (goodIn_sub (fun _ h => List.mem_cons_of_mem _ (List.mem_append_right _ h)) (by decide +kernel))
set_option maxRecDepth 20000 in
theorem gX5_page_X5_checkRange : GoodIn wsX5_page (va_wsS RX5 51 yX5_checkRange wsX5_checkRange) := goodIn_app (goodIn_of _ (by decide +kernel)) ggX5_page_X5_checkRange
set_option maxRecDepth 20000 in
theorem ggX5_page_X1_pageValue : GoodIn wsX5_page wsX1_pageValue := goodIn_r _ [18, 19, 26, 27, 28, 29, 30, 31, 32] (by decide +kernel) (by decide +kernel)
set_option maxRecDepth 20000 in
theorem gX5_page_X1_pageValue : GoodIn wsX5_page (wsV RX5 130 RX1 yX1_pageValue wsX1_pageValue) := goodIn_app (goodIn_of _ (by decide +kernel)) ggX5_page_X1_pageValue
theorem dX5_page_0 : decode cX5_page 0 = .ok (.iload_n 1, 1) := by decide +kernel
theorem dX5_page_1 : decode cX5_page 1 = .ok (.aload_n 0, 1) := by decide +kernel
theorem dX5_page_2 : decode cX5_page 2 = .ok (.getfield 19, 3) := by decide +kernel
theorem dX5_page_5 : decode cX5_page 5 = .ok (.getfield 127, 3) := by decide +kernel
theorem dX5_page_8 : decode cX5_page 8 = .ok (.invokestatic 47, 3) := by decide +kernel
theorem dX5_page_11 : decode cX5_page 11 = .ok (.iload_n 2, 1) := by decide +kernel
theorem dX5_page_12 : decode cX5_page 12 = .ok (.iconst 0, 1) := by decide +kernel
theorem dX5_page_13 : decode cX5_page 13 = .ok (.iconst 5, 1) := by decide +kernel
theorem dX5_page_14 : decode cX5_page 14 = .ok (.invokestatic 51, 3) := by decide +kernel
theorem dX5_page_17 : decode cX5_page 17 = .ok (.aload_n 0, 1) := by decide +kernel
theorem dX5_page_18 : decode cX5_page 18 = .ok (.getfield 19, 3) := by decide +kernel
theorem dX5_page_21 : decode cX5_page 21 = .ok (.iload_n 1, 1) := by decide +kernel
theorem dX5_page_22 : decode cX5_page 22 = .ok (.iload_n 2, 1) := by decide +kernel
theorem dX5_page_23 : decode cX5_page 23 = .ok (.invokevirtual 130, 3) := by decide +kernel
theorem dX5_page_26 : decode cX5_page 26 = .ok (.ireturn, 1) := by decide +kernel
set_option maxRecDepth 20000 in
theorem ggX5_whole_X5_checkRange : GoodIn wsX5_whole wsX5_checkRange := goodIn_ca (goodIn_r _ [4, 5, 6] (by decide +kernel) (by decide +kernel)) (goodIn_sub (fun _ h => List.mem_cons_of_mem _ (List.mem_append_right _ h)) (by decide +kernel))
set_option maxRecDepth 20000 in
theorem gX5_whole_X5_checkRange : GoodIn wsX5_whole (va_wsS RX5 51 yX5_checkRange wsX5_checkRange) := goodIn_app (goodIn_of _ (by decide +kernel)) ggX5_whole_X5_checkRange
set_option maxRecDepth 20000 in
theorem ggX5_whole_X5_wholeValue : GoodIn wsX5_whole wsX5_wholeValue := goodIn_r _ [10, 11, 12, 13, 14, 15, 16, 17, 18, 19, 20, 21, 22, 23, 24, 25, 26, 27, 28, 29, 30, 31, 32, 33, 34, 35, 36, 37, 38, 39, 40, 41, 42, 43, 44, 45, 46, 47, 48, 49, 50, 51, 52, 53, 54, 55, 56, 57, 58, 59, 60, 61, 62, 63, 64, 65, 66, 67, 68, 69, 70, 71, 72, 73, 74, 75, 76, 77, 78, 79, 80, 81] (by decide +kernel) (by decide +kernel)
set_option maxRecDepth 20000 in
theorem gX5_whole_X5_wholeValue : GoodIn wsX5_whole (wsV RX5 133 RX5 yX5_wholeValue wsX5_wholeValue) := goodIn_app (goodIn_of _ (by decide +kernel)) ggX5_whole_X5_wholeValue
theorem dX5_whole_0 : decode cX5_whole 0 = .ok (.iload_n 1, 1) := by decide +kernel
theorem dX5_whole_1 : decode cX5_whole 1 = .ok (.iconst 0, 1) := by decide +kernel
theorem dX5_whole_2 : decode cX5_whole 2 = .ok (.bipush 13, 2) := by decide +kernel
theorem dX5_whole_4 : decode cX5_whole 4 = .ok (.invokestatic 51, 3) := by decide +kernel
theorem dX5_whole_7 : decode cX5_whole 7 = .ok (.aload_n 0, 1) := by decide +kernel
theorem dX5_whole_8 : decode cX5_whole 8 = .ok (.iload_n 1, 1) := by decide +kernel
theorem dX5_whole_9 : decode cX5_whole 9 = .ok (.invokevirtual 133, 3) := by decide +kernel
theorem dX5_whole_12 : decode cX5_whole 12 = .ok (.ireturn, 1) := by decide +kernel
set_option maxRecDepth 20000 in
theorem ggX5_share_X5_checkIndex : GoodIn wsX5_share wsX5_checkIndex := goodIn_ca (goodIn_r _ [5, 6, 7] (by decide +kernel) (by decide +kernel)) (goodIn_sub (fun _ h => List.mem_cons_of_mem _ (List.mem_append_right _ h)) (by decide +kernel))
set_option maxRecDepth 20000 in
theorem gX5_share_X5_checkIndex : GoodIn wsX5_share (va_wsS RX5 47 yX5_checkIndex wsX5_checkIndex) := goodIn_app (goodIn_of _ (by decide +kernel)) ggX5_share_X5_checkIndex
set_option maxRecDepth 20000 in
theorem ggX5_share_X3_shareOf : GoodIn wsX5_share wsX3_shareOf := goodIn_r _ [12, 13, 20, 21, 22, 23, 24, 25, 26, 27, 28] (by decide +kernel) (by decide +kernel)
set_option maxRecDepth 20000 in
theorem gX5_share_X3_shareOf : GoodIn wsX5_share (wsV RX5 111 RX3 yX3_shareOf wsX3_shareOf) := goodIn_app (goodIn_of _ (by decide +kernel)) ggX5_share_X3_shareOf
theorem dX5_share_0 : decode cX5_share 0 = .ok (.iload_n 1, 1) := by decide +kernel
theorem dX5_share_1 : decode cX5_share 1 = .ok (.bipush 8, 2) := by decide +kernel
theorem dX5_share_3 : decode cX5_share 3 = .ok (.invokestatic 47, 3) := by decide +kernel
theorem dX5_share_6 : decode cX5_share 6 = .ok (.aload_n 0, 1) := by decide +kernel
theorem dX5_share_7 : decode cX5_share 7 = .ok (.getfield 10, 3) := by decide +kernel
theorem dX5_share_10 : decode cX5_share 10 = .ok (.iload_n 1, 1) := by decide +kernel
theorem dX5_share_11 : decode cX5_share 11 = .ok (.invokevirtual 111, 3) := by decide +kernel
theorem dX5_share_14 : decode cX5_share 14 = .ok (.ireturn, 1) := by decide +kernel
set_option maxRecDepth 20000 in
theorem ggX5_unevenness_X1_squaresOfEmpty : GoodIn wsX5_unevenness wsX1_squaresOfEmpty := goodIn_r _ [6, 7, 8, 9, 10, 5, 11, 12, 19, 20, 21, 22, 23, 24, 25] (by decide +kernel) (by decide +kernel)
set_option maxRecDepth 20000 in
theorem gX5_unevenness_X1_squaresOfEmpty : GoodIn wsX5_unevenness (wsV RX5 136 RX1 yX1_squaresOfEmpty wsX1_squaresOfEmpty) := goodIn_app (goodIn_of _ (by decide +kernel)) ggX5_unevenness_X1_squaresOfEmpty
theorem dX5_unevenness_0 : decode cX5_unevenness 0 = .ok (.aload_n 0, 1) := by decide +kernel
theorem dX5_unevenness_1 : decode cX5_unevenness 1 = .ok (.getfield 19, 3) := by decide +kernel
theorem dX5_unevenness_4 : decode cX5_unevenness 4 = .ok (.invokevirtual 136, 3) := by decide +kernel
theorem dX5_unevenness_7 : decode cX5_unevenness 7 = .ok (.ireturn, 1) := by decide +kernel
set_option maxRecDepth 20000 in
theorem ggX5_meanEmpty_X1_sumOf : GoodIn wsX5_meanEmpty wsX1_sumOf := goodIn_r _ [7, 8, 9, 10, 11, 6, 12, 13, 20, 21, 22, 23, 24, 25, 26] (by decide +kernel) (by decide +kernel)
set_option maxRecDepth 20000 in
theorem gX5_meanEmpty_X1_sumOf : GoodIn wsX5_meanEmpty (wsV RX5 140 RX1 yX1_sumOf wsX1_sumOf) := goodIn_app (goodIn_of _ (by decide +kernel)) ggX5_meanEmpty_X1_sumOf
theorem dX5_meanEmpty_0 : decode cX5_meanEmpty 0 = .ok (.aload_n 0, 1) := by decide +kernel
theorem dX5_meanEmpty_1 : decode cX5_meanEmpty 1 = .ok (.getfield 19, 3) := by decide +kernel
theorem dX5_meanEmpty_4 : decode cX5_meanEmpty 4 = .ok (.getfield 121, 3) := by decide +kernel
theorem dX5_meanEmpty_7 : decode cX5_meanEmpty 7 = .ok (.ifCond .gt 5, 3) := by decide +kernel
theorem dX5_meanEmpty_10 : decode cX5_meanEmpty 10 = .ok (.dconst 0, 1) := by decide +kernel
theorem dX5_meanEmpty_11 : decode cX5_meanEmpty 11 = .ok (.dreturn, 1) := by decide +kernel
theorem dX5_meanEmpty_12 : decode cX5_meanEmpty 12 = .ok (.aload_n 0, 1) := by decide +kernel
theorem dX5_meanEmpty_13 : decode cX5_meanEmpty 13 = .ok (.getfield 19, 3) := by decide +kernel
theorem dX5_meanEmpty_16 : decode cX5_meanEmpty 16 = .ok (.bipush 11, 2) := by decide +kernel
theorem dX5_meanEmpty_18 : decode cX5_meanEmpty 18 = .ok (.invokevirtual 140, 3) := by decide +kernel
theorem dX5_meanEmpty_21 : decode cX5_meanEmpty 21 = .ok (.i2d, 1) := by decide +kernel
theorem dX5_meanEmpty_22 : decode cX5_meanEmpty 22 = .ok (.aload_n 0, 1) := by decide +kernel
theorem dX5_meanEmpty_23 : decode cX5_meanEmpty 23 = .ok (.getfield 19, 3) := by decide +kernel
theorem dX5_meanEmpty_26 : decode cX5_meanEmpty 26 = .ok (.getfield 121, 3) := by decide +kernel
theorem dX5_meanEmpty_29 : decode cX5_meanEmpty 29 = .ok (.i2d, 1) := by decide +kernel
theorem dX5_meanEmpty_30 : decode cX5_meanEmpty 30 = .ok (.ddiv, 1) := by decide +kernel
theorem dX5_meanEmpty_31 : decode cX5_meanEmpty 31 = .ok (.dreturn, 1) := by decide +kernel
theorem dX5_checkIndex_0 : decode cX5_checkIndex 0 = .ok (.iload_n 0, 1) := by decide +kernel
theorem dX5_checkIndex_1 : decode cX5_checkIndex 1 = .ok (.ifCond .lt 8, 3) := by decide +kernel
theorem dX5_checkIndex_4 : decode cX5_checkIndex 4 = .ok (.iload_n 0, 1) := by decide +kernel
theorem dX5_checkIndex_5 : decode cX5_checkIndex 5 = .ok (.iload_n 1, 1) := by decide +kernel
theorem dX5_checkIndex_6 : decode cX5_checkIndex 6 = .ok (.if_icmp .lt 13, 3) := by decide +kernel
theorem dX5_checkIndex_9 : decode cX5_checkIndex 9 = .ok (.new 203, 3) := by decide +kernel
theorem dX5_checkIndex_12 : decode cX5_checkIndex 12 = .ok (.dup, 1) := by decide +kernel
theorem dX5_checkIndex_13 : decode cX5_checkIndex 13 = .ok (.ldc 205, 2) := by decide +kernel
theorem dX5_checkIndex_15 : decode cX5_checkIndex 15 = .ok (.invokespecial 207, 3) := by decide +kernel
theorem dX5_checkIndex_18 : decode cX5_checkIndex 18 = .ok (.athrow, 1) := by decide +kernel
theorem dX5_checkIndex_19 : decode cX5_checkIndex 19 = .ok (.return_, 1) := by decide +kernel
theorem dX5_checkRange_0 : decode cX5_checkRange 0 = .ok (.iload_n 0, 1) := by decide +kernel
theorem dX5_checkRange_1 : decode cX5_checkRange 1 = .ok (.iload_n 1, 1) := by decide +kernel
theorem dX5_checkRange_2 : decode cX5_checkRange 2 = .ok (.if_icmp .lt 8, 3) := by decide +kernel
theorem dX5_checkRange_5 : decode cX5_checkRange 5 = .ok (.iload_n 0, 1) := by decide +kernel
theorem dX5_checkRange_6 : decode cX5_checkRange 6 = .ok (.iload_n 2, 1) := by decide +kernel
theorem dX5_checkRange_7 : decode cX5_checkRange 7 = .ok (.if_icmp .le 13, 3) := by decide +kernel
theorem dX5_checkRange_10 : decode cX5_checkRange 10 = .ok (.new 173, 3) := by decide +kernel
theorem dX5_checkRange_13 : decode cX5_checkRange 13 = .ok (.dup, 1) := by decide +kernel
theorem dX5_checkRange_14 : decode cX5_checkRange 14 = .ok (.ldc 208, 2) := by decide +kernel
theorem dX5_checkRange_16 : decode cX5_checkRange 16 = .ok (.invokespecial 177, 3) := by decide +kernel
theorem dX5_checkRange_19 : decode cX5_checkRange 19 = .ok (.athrow, 1) := by decide +kernel
theorem dX5_checkRange_20 : decode cX5_checkRange 20 = .ok (.return_, 1) := by decide +kernel
set_option maxRecDepth 20000 in
theorem ggX5_checkSigns_X5_mayStandAhead : GoodIn wsX5_checkSigns wsX5_mayStandAhead := goodIn_r _ [6] (by decide +kernel) (by decide +kernel)
set_option maxRecDepth 20000 in
theorem gX5_checkSigns_X5_mayStandAhead : GoodIn wsX5_checkSigns (va_wsS RX5 210 yX5_mayStandAhead wsX5_mayStandAhead) := goodIn_app (goodIn_of _ (by decide +kernel)) ggX5_checkSigns_X5_mayStandAhead
set_option maxRecDepth 20000 in
theorem ggX5_checkSigns_X5_mayStandBehind : GoodIn wsX5_checkSigns wsX5_mayStandBehind := goodIn_r _ [9] (by decide +kernel) (by decide +kernel)
set_option maxRecDepth 20000 in
theorem gX5_checkSigns_X5_mayStandBehind : GoodIn wsX5_checkSigns (va_wsS RX5 213 yX5_mayStandBehind wsX5_mayStandBehind) := goodIn_app (goodIn_of _ (by decide +kernel)) ggX5_checkSigns_X5_mayStandBehind
theorem dX5_checkSigns_0 : decode cX5_checkSigns 0 = .ok (.iload_n 0, 1) := by decide +kernel
theorem dX5_checkSigns_1 : decode cX5_checkSigns 1 = .ok (.iconst (-1), 1) := by decide +kernel
theorem dX5_checkSigns_2 : decode cX5_checkSigns 2 = .ok (.if_icmp .eq 10, 3) := by decide +kernel
theorem dX5_checkSigns_5 : decode cX5_checkSigns 5 = .ok (.iload_n 0, 1) := by decide +kernel
theorem dX5_checkSigns_6 : decode cX5_checkSigns 6 = .ok (.invokestatic 210, 3) := by decide +kernel
theorem dX5_checkSigns_9 : decode cX5_checkSigns 9 = .ok (.ifCond .eq 15, 3) := by decide +kernel
theorem dX5_checkSigns_12 : decode cX5_checkSigns 12 = .ok (.iload_n 1, 1) := by decide +kernel
theorem dX5_checkSigns_13 : decode cX5_checkSigns 13 = .ok (.iconst (-1), 1) := by decide +kernel
theorem dX5_checkSigns_14 : decode cX5_checkSigns 14 = .ok (.if_icmp .eq 20, 3) := by decide +kernel
theorem dX5_checkSigns_17 : decode cX5_checkSigns 17 = .ok (.iload_n 1, 1) := by decide +kernel
theorem dX5_checkSigns_18 : decode cX5_checkSigns 18 = .ok (.invokestatic 213, 3) := by decide +kernel
theorem dX5_checkSigns_21 : decode cX5_checkSigns 21 = .ok (.ifCond .ne 13, 3) := by decide +kernel
theorem dX5_checkSigns_24 : decode cX5_checkSigns 24 = .ok (.new 173, 3) := by decide +kernel
theorem dX5_checkSigns_27 : decode cX5_checkSigns 27 = .ok (.dup, 1) := by decide +kernel
theorem dX5_checkSigns_28 : decode cX5_checkSigns 28 = .ok (.ldc 216, 2) := by decide +kernel
theorem dX5_checkSigns_30 : decode cX5_checkSigns 30 = .ok (.invokespecial 177, 3) := by decide +kernel
theorem dX5_checkSigns_33 : decode cX5_checkSigns 33 = .ok (.athrow, 1) := by decide +kernel
theorem dX5_checkSigns_34 : decode cX5_checkSigns 34 = .ok (.return_, 1) := by decide +kernel
theorem dX5_mayStandAhead_0 : decode cX5_mayStandAhead 0 = .ok (.iload_n 0, 1) := by decide +kernel
theorem dX5_mayStandAhead_1 : decode cX5_mayStandAhead 1 = .ok (.ifCond .eq 8, 3) := by decide +kernel
theorem dX5_mayStandAhead_4 : decode cX5_mayStandAhead 4 = .ok (.iload_n 0, 1) := by decide +kernel
theorem dX5_mayStandAhead_5 : decode cX5_mayStandAhead 5 = .ok (.iconst 1, 1) := by decide +kernel
theorem dX5_mayStandAhead_6 : decode cX5_mayStandAhead 6 = .ok (.if_icmp .ne 7, 3) := by decide +kernel
theorem dX5_mayStandAhead_9 : decode cX5_mayStandAhead 9 = .ok (.iconst 1, 1) := by decide +kernel
theorem dX5_mayStandAhead_10 : decode cX5_mayStandAhead 10 = .ok (.goto 4, 3) := by decide +kernel
theorem dX5_mayStandAhead_13 : decode cX5_mayStandAhead 13 = .ok (.iconst 0, 1) := by decide +kernel
theorem dX5_mayStandAhead_14 : decode cX5_mayStandAhead 14 = .ok (.ireturn, 1) := by decide +kernel
theorem dX5_mayStandBehind_0 : decode cX5_mayStandBehind 0 = .ok (.iload_n 0, 1) := by decide +kernel
theorem dX5_mayStandBehind_1 : decode cX5_mayStandBehind 1 = .ok (.ifCond .eq 14, 3) := by decide +kernel
theorem dX5_mayStandBehind_4 : decode cX5_mayStandBehind 4 = .ok (.iload_n 0, 1) := by decide +kernel
theorem dX5_mayStandBehind_5 : decode cX5_mayStandBehind 5 = .ok (.iconst 2, 1) := by decide +kernel
theorem dX5_mayStandBehind_6 : decode cX5_mayStandBehind 6 = .ok (.if_icmp .lt 13, 3) := by decide +kernel
theorem dX5_mayStandBehind_9 : decode cX5_mayStandBehind 9 = .ok (.iload_n 0, 1) := by decide +kernel
theorem dX5_mayStandBehind_10 : decode cX5_mayStandBehind 10 = .ok (.bipush 8, 2) := by decide +kernel
theorem dX5_mayStandBehind_12 : decode cX5_mayStandBehind 12 = .ok (.if_icmp .ge 7, 3) := by decide +kernel
theorem dX5_mayStandBehind_15 : decode cX5_mayStandBehind 15 = .ok (.iconst 1, 1) := by decide +kernel
theorem dX5_mayStandBehind_16 : decode cX5_mayStandBehind 16 = .ok (.goto 4, 3) := by decide +kernel
theorem dX5_mayStandBehind_19 : decode cX5_mayStandBehind 19 = .ok (.iconst 0, 1) := by decide +kernel
theorem dX5_mayStandBehind_20 : decode cX5_mayStandBehind 20 = .ok (.ireturn, 1) := by decide +kernel
theorem dX5_signWidth_0 : decode cX5_signWidth 0 = .ok (.iload_n 0, 1) := by decide +kernel
theorem dX5_signWidth_1 : decode cX5_signWidth 1 = .ok (.ifCond .lt 17, 3) := by decide +kernel
theorem dX5_signWidth_4 : decode cX5_signWidth 4 = .ok (.iload_n 0, 1) := by decide +kernel
theorem dX5_signWidth_5 : decode cX5_signWidth 5 = .ok (.bipush 8, 2) := by decide +kernel
theorem dX5_signWidth_7 : decode cX5_signWidth 7 = .ok (.if_icmp .ge 11, 3) := by decide +kernel
theorem dX5_signWidth_10 : decode cX5_signWidth 10 = .ok (.getstatic 218, 3) := by decide +kernel
theorem dX5_signWidth_13 : decode cX5_signWidth 13 = .ok (.iload_n 0, 1) := by decide +kernel
theorem dX5_signWidth_14 : decode cX5_signWidth 14 = .ok (.iaload, 1) := by decide +kernel
theorem dX5_signWidth_15 : decode cX5_signWidth 15 = .ok (.goto 4, 3) := by decide +kernel
theorem dX5_signWidth_18 : decode cX5_signWidth 18 = .ok (.iconst 0, 1) := by decide +kernel
theorem dX5_signWidth_19 : decode cX5_signWidth 19 = .ok (.ireturn, 1) := by decide +kernel
set_option maxRecDepth 20000 in
theorem ggX5_setLines_X3_setting : GoodIn wsX5_setLines wsX3_setting := goodIn_r _ [7, 8, 142, 143, 144, 145, 146, 147, 148, 149, 150] (by decide +kernel) (by decide +kernel)
set_option maxRecDepth 20000 in
theorem gX5_setLines_X3_setting : GoodIn wsX5_setLines (wsV RX5 105 RX3 yX3_setting wsX3_setting) := goodIn_app (goodIn_of _ (by decide +kernel)) ggX5_setLines_X3_setting
set_option maxRecDepth 20000 in
theorem ggX5_setLines_X1_arrange : GoodIn wsX5_setLines wsX1_arrange := goodIn_r _ [13, 14, 15, 16, 17, 18, 19, 20, 21, 22, 23, 24, 25, 12, 26, 27, 28, 29, 30, 31, 32, 33, 34, 35, 36, 37, 38, 39, 40, 41, 42, 43, 44, 45, 46, 47, 48, 6, 49, 50, 51, 52, 53, 54, 55, 56, 57, 58, 59, 60, 61, 62, 63, 64, 65, 66, 67, 68, 69, 70, 71, 72, 73, 74, 75, 76, 77, 78, 79, 80, 81, 82, 83, 84, 85, 86, 87, 88, 89, 90, 91, 92, 93, 94, 95, 96, 97, 98, 99, 100, 101, 102, 103, 104, 105, 106, 107, 108, 109, 110, 111, 112, 113, 114, 115, 116, 117, 118, 119, 120, 121, 122, 123, 124, 125, 126, 127, 128, 129, 130, 131, 132, 133, 134, 135, 142, 143, 144, 145, 146, 147, 148, 149, 150, 151, 152, 153, 154, 155, 156, 157, 158, 159, 160, 161, 162, 163, 164, 165] (by decide +kernel) (by decide +kernel)
set_option maxRecDepth 20000 in
theorem gX5_setLines_X1_arrange : GoodIn wsX5_setLines (wsV RX5 146 RX1 yX1_arrange wsX1_arrange) := goodIn_app (goodIn_of _ (by decide +kernel)) ggX5_setLines_X1_arrange
theorem dX5_setLines_0 : decode cX5_setLines 0 = .ok (.aload_n 0, 1) := by decide +kernel
theorem dX5_setLines_1 : decode cX5_setLines 1 = .ok (.getfield 19, 3) := by decide +kernel
theorem dX5_setLines_4 : decode cX5_setLines 4 = .ok (.aload_n 0, 1) := by decide +kernel
theorem dX5_setLines_5 : decode cX5_setLines 5 = .ok (.getfield 10, 3) := by decide +kernel
theorem dX5_setLines_8 : decode cX5_setLines 8 = .ok (.aload_n 0, 1) := by decide +kernel
theorem dX5_setLines_9 : decode cX5_setLines 9 = .ok (.getfield 10, 3) := by decide +kernel
theorem dX5_setLines_12 : decode cX5_setLines 12 = .ok (.iconst 0, 1) := by decide +kernel
theorem dX5_setLines_13 : decode cX5_setLines 13 = .ok (.invokevirtual 105, 3) := by decide +kernel
theorem dX5_setLines_16 : decode cX5_setLines 16 = .ok (.aload_n 0, 1) := by decide +kernel
theorem dX5_setLines_17 : decode cX5_setLines 17 = .ok (.getfield 10, 3) := by decide +kernel
theorem dX5_setLines_20 : decode cX5_setLines 20 = .ok (.iconst 2, 1) := by decide +kernel
theorem dX5_setLines_21 : decode cX5_setLines 21 = .ok (.invokevirtual 105, 3) := by decide +kernel
theorem dX5_setLines_24 : decode cX5_setLines 24 = .ok (.aload_n 0, 1) := by decide +kernel
theorem dX5_setLines_25 : decode cX5_setLines 25 = .ok (.getfield 10, 3) := by decide +kernel
theorem dX5_setLines_28 : decode cX5_setLines 28 = .ok (.iconst 3, 1) := by decide +kernel
theorem dX5_setLines_29 : decode cX5_setLines 29 = .ok (.invokevirtual 105, 3) := by decide +kernel
theorem dX5_setLines_32 : decode cX5_setLines 32 = .ok (.invokevirtual 146, 3) := by decide +kernel
theorem dX5_setLines_35 : decode cX5_setLines 35 = .ok (.return_, 1) := by decide +kernel
set_option maxRecDepth 20000 in
theorem ggX5_wordValue_X1_lineOfWord : GoodIn wsX5_wordValue wsX1_lineOfWord := goodIn_r _ [7, 8, 59, 60, 61, 62, 63, 64, 65] (by decide +kernel) (by decide +kernel)
set_option maxRecDepth 20000 in
theorem gX5_wordValue_X1_lineOfWord : GoodIn wsX5_wordValue (wsV RX5 224 RX1 yX1_lineOfWord wsX1_lineOfWord) := goodIn_app (goodIn_of _ (by decide +kernel)) ggX5_wordValue_X1_lineOfWord
set_option maxRecDepth 20000 in
theorem ggX5_wordValue_X3_lengthOf : GoodIn wsX5_wordValue wsX3_lengthOf := goodIn_r _ [13, 14, 15, 16, 17, 12, 18, 19, 66, 67, 68, 69, 70, 71, 72, 73, 74] (by decide +kernel) (by decide +kernel)
set_option maxRecDepth 20000 in
theorem gX5_wordValue_X3_lengthOf : GoodIn wsX5_wordValue (wsV RX5 227 RX3 yX3_lengthOf wsX3_lengthOf) := goodIn_app (goodIn_of _ (by decide +kernel)) ggX5_wordValue_X3_lengthOf
set_option maxRecDepth 20000 in
theorem ggX5_wordValue_X3_widthOf : GoodIn wsX5_wordValue wsX3_widthOf := goodIn_r _ [23, 24, 25, 26, 15, 16, 17, 12, 18, 19, 27, 28, 29, 30, 66, 67, 68, 69, 70, 71, 72, 73, 74] (by decide +kernel) (by decide +kernel)
set_option maxRecDepth 20000 in
theorem gX5_wordValue_X3_widthOf : GoodIn wsX5_wordValue (wsV RX5 94 RX3 yX3_widthOf wsX3_widthOf) := goodIn_app (goodIn_of _ (by decide +kernel)) ggX5_wordValue_X3_widthOf
set_option maxRecDepth 20000 in
theorem ggX5_wordValue_X3_aheadOf : GoodIn wsX5_wordValue wsX3_aheadOf := goodIn_r _ [34, 25, 15, 16, 17, 12, 18, 19, 66, 67, 68, 69, 70, 71, 72, 73, 74] (by decide +kernel) (by decide +kernel)
set_option maxRecDepth 20000 in
theorem gX5_wordValue_X3_aheadOf : GoodIn wsX5_wordValue (wsV RX5 230 RX3 yX3_aheadOf wsX3_aheadOf) := goodIn_app (goodIn_of _ (by decide +kernel)) ggX5_wordValue_X3_aheadOf
set_option maxRecDepth 20000 in
theorem ggX5_wordValue_X3_behindOf : GoodIn wsX5_wordValue wsX3_behindOf := goodIn_r _ [38, 26, 15, 16, 17, 12, 18, 19, 66, 67, 68, 69, 70, 71, 72, 73, 74] (by decide +kernel) (by decide +kernel)
set_option maxRecDepth 20000 in
theorem gX5_wordValue_X3_behindOf : GoodIn wsX5_wordValue (wsV RX5 233 RX3 yX3_behindOf wsX3_behindOf) := goodIn_app (goodIn_of _ (by decide +kernel)) ggX5_wordValue_X3_behindOf
set_option maxRecDepth 20000 in
theorem ggX5_wordValue_X3_wasSetToEnd : GoodIn wsX5_wordValue wsX3_wasSetToEnd := goodIn_r _ [42, 43, 15, 16, 17, 12, 18, 19, 66, 67, 68, 69, 70, 71, 72, 73, 74] (by decide +kernel) (by decide +kernel)
set_option maxRecDepth 20000 in
theorem gX5_wordValue_X3_wasSetToEnd : GoodIn wsX5_wordValue (wsV RX5 86 RX3 yX3_wasSetToEnd wsX3_wasSetToEnd) := goodIn_app (goodIn_of _ (by decide +kernel)) ggX5_wordValue_X3_wasSetToEnd
set_option maxRecDepth 20000 in
theorem ggX5_wordValue_X1_lineValue : GoodIn wsX5_wordValue wsX1_lineValue := goodIn_r _ [47, 48, 59, 60, 61, 62, 63, 64, 65] (by decide +kernel) (by decide +kernel)
set_option maxRecDepth 20000 in
theorem gX5_wordValue_X1_lineValue : GoodIn wsX5_wordValue (wsV RX5 124 RX1 yX1_lineValue wsX1_lineValue) := goodIn_app (goodIn_of _ (by decide +kernel)) ggX5_wordValue_X1_lineValue
set_option maxRecDepth 20000 in
theorem ggX5_wordValue_X5_leftEdge : GoodIn wsX5_wordValue wsX5_leftEdge := goodIn_r _ [52, 1, 2, 44, 45, 46, 6, 47, 48, 20, 21, 22, 12, 23, 24, 25, 26, 15, 16, 17, 18, 19, 27, 28, 29, 30, 53, 54, 55, 56, 57, 58, 59, 60, 61, 62, 63, 64, 65, 66, 67, 68, 69, 70, 71, 72, 73, 74] (by decide +kernel) (by decide +kernel)
set_option maxRecDepth 20000 in
theorem gX5_wordValue_X5_leftEdge : GoodIn wsX5_wordValue (wsV RX5 236 RX5 yX5_leftEdge wsX5_leftEdge) := goodIn_app (goodIn_of _ (by decide +kernel)) ggX5_wordValue_X5_leftEdge
theorem dX5_wordValue_0 : decode cX5_wordValue 0 = .ok (.aload_n 0, 1) := by decide +kernel
theorem dX5_wordValue_1 : decode cX5_wordValue 1 = .ok (.getfield 19, 3) := by decide +kernel
theorem dX5_wordValue_4 : decode cX5_wordValue 4 = .ok (.iload_n 1, 1) := by decide +kernel
theorem dX5_wordValue_5 : decode cX5_wordValue 5 = .ok (.invokevirtual 224, 3) := by decide +kernel
theorem dX5_wordValue_8 : decode cX5_wordValue 8 = .ok (.istore_n 3, 1) := by decide +kernel
theorem dX5_wordValue_9 : decode cX5_wordValue 9 = .ok (.iload_n 2, 1) := by decide +kernel
theorem dX5_wordValue_10 : decode cX5_wordValue 10 = .ok (.tableswitch 123 0 7 #[46, 55, 64, 73, 82, 99, 101, 113], 46) := by decide +kernel
theorem dX5_wordValue_56 : decode cX5_wordValue 56 = .ok (.aload_n 0, 1) := by decide +kernel
theorem dX5_wordValue_57 : decode cX5_wordValue 57 = .ok (.getfield 10, 3) := by decide +kernel
theorem dX5_wordValue_60 : decode cX5_wordValue 60 = .ok (.iload_n 1, 1) := by decide +kernel
theorem dX5_wordValue_61 : decode cX5_wordValue 61 = .ok (.invokevirtual 227, 3) := by decide +kernel
theorem dX5_wordValue_64 : decode cX5_wordValue 64 = .ok (.ireturn, 1) := by decide +kernel
theorem dX5_wordValue_65 : decode cX5_wordValue 65 = .ok (.aload_n 0, 1) := by decide +kernel
theorem dX5_wordValue_66 : decode cX5_wordValue 66 = .ok (.getfield 10, 3) := by decide +kernel
theorem dX5_wordValue_69 : decode cX5_wordValue 69 = .ok (.iload_n 1, 1) := by decide +kernel
theorem dX5_wordValue_70 : decode cX5_wordValue 70 = .ok (.invokevirtual 94, 3) := by decide +kernel
theorem dX5_wordValue_73 : decode cX5_wordValue 73 = .ok (.ireturn, 1) := by decide +kernel
theorem dX5_wordValue_74 : decode cX5_wordValue 74 = .ok (.aload_n 0, 1) := by decide +kernel
theorem dX5_wordValue_75 : decode cX5_wordValue 75 = .ok (.getfield 10, 3) := by decide +kernel
theorem dX5_wordValue_78 : decode cX5_wordValue 78 = .ok (.iload_n 1, 1) := by decide +kernel
theorem dX5_wordValue_79 : decode cX5_wordValue 79 = .ok (.invokevirtual 230, 3) := by decide +kernel
theorem dX5_wordValue_82 : decode cX5_wordValue 82 = .ok (.ireturn, 1) := by decide +kernel
theorem dX5_wordValue_83 : decode cX5_wordValue 83 = .ok (.aload_n 0, 1) := by decide +kernel
theorem dX5_wordValue_84 : decode cX5_wordValue 84 = .ok (.getfield 10, 3) := by decide +kernel
theorem dX5_wordValue_87 : decode cX5_wordValue 87 = .ok (.iload_n 1, 1) := by decide +kernel
theorem dX5_wordValue_88 : decode cX5_wordValue 88 = .ok (.invokevirtual 233, 3) := by decide +kernel
theorem dX5_wordValue_91 : decode cX5_wordValue 91 = .ok (.ireturn, 1) := by decide +kernel
theorem dX5_wordValue_92 : decode cX5_wordValue 92 = .ok (.aload_n 0, 1) := by decide +kernel
theorem dX5_wordValue_93 : decode cX5_wordValue 93 = .ok (.getfield 10, 3) := by decide +kernel
theorem dX5_wordValue_96 : decode cX5_wordValue 96 = .ok (.iload_n 1, 1) := by decide +kernel
theorem dX5_wordValue_97 : decode cX5_wordValue 97 = .ok (.invokevirtual 86, 3) := by decide +kernel
