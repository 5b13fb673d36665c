set_option maxRecDepth 20000 in
theorem ggX5_init_X3_init : GoodIn wsX5_init wsX3_init := goodIn_r _ [23, 24, 2, 3, 25, 26, 27, 28, 29, 30, 31, 32, 33, 34, 35, 36, 37, 38, 39, 40, 64, 65, 66, 67, 68, 69, 70, 71, 72] (by decide +kernel) (by decide +kernel)
set_option maxRecDepth 20000 in
theorem gX5_init_X3_init_n9 : GoodIn wsX5_init (wsX3_init) := ggX5_init_X3_init
set_option maxRecDepth 20000 in
theorem ggX5_init_X1_init : GoodIn wsX5_init wsX1_init := goodIn_r _ [42, 43, 2, 3, 25, 44, 45, 46, 47, 48, 49, 50, 51, 52, 53, 54, 79, 80, 81, 82, 83, 84, 85, 91, 92, 93, 94, 95, 96, 97, 98] (by decide +kernel) (by decide +kernel)
set_option maxRecDepth 20000 in
theorem gX5_init_X1_init_n18 : GoodIn wsX5_init (wsX1_init) := ggX5_init_X1_init
set_option maxRecDepth 20000 in
theorem ggX5_init_X4_init : GoodIn wsX5_init wsX4_init := goodIn_r _ [56, 57, 2, 3, 25, 58, 86, 87, 88] (by decide +kernel) (by decide +kernel)
set_option maxRecDepth 20000 in
theorem gX5_init_X4_init_n28 : GoodIn wsX5_init (wsX4_init) := ggX5_init_X4_init
set_option maxRecDepth 20000 in
theorem ggX5_init_X0_init : GoodIn wsX5_init wsX0_init := goodIn_r _ [60, 61, 2, 3, 62, 5, 6, 63, 22, 23, 24, 25, 26, 27, 28, 29, 30, 31, 32, 33, 34, 35, 36, 37, 38, 39, 40, 64, 65, 66, 67, 68, 69, 70, 71, 72, 89, 90] (by decide +kernel) (by decide +kernel)
set_option maxRecDepth 20000 in
theorem gX5_init_X0_init_n38 : GoodIn wsX5_init (wsX0_init) := ggX5_init_X0_init
theorem dX5_init_0 : decode cX5_init 0 = .ok (.aload_n 0, 1) := by decide +kernel
theorem dX5_init_1 : decode cX5_init 1 = .ok (.invokespecial 1, 3) := by decide +kernel
theorem dX5_init_4 : decode cX5_init 4 = .ok (.aload_n 0, 1) := by decide +kernel
theorem dX5_init_5 : decode cX5_init 5 = .ok (.new 7, 3) := by decide +kernel
theorem dX5_init_8 : decode cX5_init 8 = .ok (.dup, 1) := by decide +kernel
theorem dX5_init_9 : decode cX5_init 9 = .ok (.invokespecial 9, 3) := by decide +kernel
theorem dX5_init_12 : decode cX5_init 12 = .ok (.putfield 10, 3) := by decide +kernel
theorem dX5_init_15 : decode cX5_init 15 = .ok (.aload_n 0, 1) := by decide +kernel
theorem dX5_init_16 : decode cX5_init 16 = .ok (.new 16, 3) := by decide +kernel
theorem dX5_init_19 : decode cX5_init 19 = .ok (.dup, 1) := by decide +kernel
theorem dX5_init_20 : decode cX5_init 20 = .ok (.invokespecial 18, 3) := by decide +kernel
theorem dX5_init_23 : decode cX5_init 23 = .ok (.putfield 19, 3) := by decide +kernel
theorem dX5_init_26 : decode cX5_init 26 = .ok (.aload_n 0, 1) := by decide +kernel
theorem dX5_init_27 : decode cX5_init 27 = .ok (.new 16, 3) := by decide +kernel
theorem dX5_init_30 : decode cX5_init 30 = .ok (.dup, 1) := by decide +kernel
theorem dX5_init_31 : decode cX5_init 31 = .ok (.invokespecial 18, 3) := by decide +kernel
theorem dX5_init_34 : decode cX5_init 34 = .ok (.putfield 23, 3) := by decide +kernel
theorem dX5_init_37 : decode cX5_init 37 = .ok (.aload_n 0, 1) := by decide +kernel
theorem dX5_init_38 : decode cX5_init 38 = .ok (.new 26, 3) := by decide +kernel
theorem dX5_init_41 : decode cX5_init 41 = .ok (.dup, 1) := by decide +kernel
theorem dX5_init_42 : decode cX5_init 42 = .ok (.invokespecial 28, 3) := by decide +kernel
theorem dX5_init_45 : decode cX5_init 45 = .ok (.putfield 29, 3) := by decide +kernel
theorem dX5_init_48 : decode cX5_init 48 = .ok (.aload_n 0, 1) := by decide +kernel
theorem dX5_init_49 : decode cX5_init 49 = .ok (.new 7, 3) := by decide +kernel
theorem dX5_init_52 : decode cX5_init 52 = .ok (.dup, 1) := by decide +kernel
theorem dX5_init_53 : decode cX5_init 53 = .ok (.invokespecial 9, 3) := by decide +kernel
theorem dX5_init_56 : decode cX5_init 56 = .ok (.putfield 33, 3) := by decide +kernel
theorem dX5_init_59 : decode cX5_init 59 = .ok (.aload_n 0, 1) := by decide +kernel
theorem dX5_init_60 : decode cX5_init 60 = .ok (.new 36, 3) := by decide +kernel
theorem dX5_init_63 : decode cX5_init 63 = .ok (.dup, 1) := by decide +kernel
theorem dX5_init_64 : decode cX5_init 64 = .ok (.invokespecial 38, 3) := by decide +kernel
theorem dX5_init_67 : decode cX5_init 67 = .ok (.putfield 39, 3) := by decide +kernel
theorem dX5_init_70 : decode cX5_init 70 = .ok (.return_, 1) := by decide +kernel
set_option maxRecDepth 20000 in
theorem ggX5_insert_X5_checkIndex : GoodIn wsX5_insert wsX5_checkIndex := goodIn_ca (goodIn_r _ [9, 10, 11] (by decide +kernel) (by decide +kernel)) (goodIn_sub (fun _ h => List.mem_cons_of_mem _ (List.mem_append_left _ (List.mem_append_right _ h))) (by decide +kernel))
set_option maxRecDepth 20000 in
theorem gX5_insert_X5_checkIndex : GoodIn wsX5_insert (va_wsS RX5 47 yX5_checkIndex wsX5_checkIndex) := goodIn_app (goodIn_of _ (by decide +kernel)) ggX5_insert_X5_checkIndex
set_option maxRecDepth 20000 in
theorem ggX5_insert_X5_checkRange : GoodIn wsX5_insert wsX5_checkRange := goodIn_ca (goodIn_r _ [14, 15, 16] (by decide +kernel) (by decide +kernel)) (goodIn_sub (fun _ h => List.mem_cons_of_mem _ (List.mem_append_right _ h)) (by decide +kernel))
set_option maxRecDepth 20000 in
theorem gX5_insert_X5_checkRange : GoodIn wsX5_insert (va_wsS RX5 51 yX5_checkRange wsX5_checkRange) := goodIn_app (goodIn_of _ (by decide +kernel)) ggX5_insert_X5_checkRange
set_option maxRecDepth 20000 in
theorem ggX5_insert_X5_checkSigns : GoodIn wsX5_insert wsX5_checkSigns := goodIn_ca (goodIn_r _ [19, 15, 16, 20, 21, 8, 22, 23, 24, 25] (by decide +kernel) (by decide +kernel)) (goodIn_sub (fun _ h => List.mem_cons_of_mem _ (List.mem_append_right _ h)) (by decide +kernel))
set_option maxRecDepth 20000 in
theorem gX5_insert_X5_checkSigns : GoodIn wsX5_insert (va_wsS RX5 55 yX5_checkSigns wsX5_checkSigns) := goodIn_app (goodIn_of _ (by decide +kernel)) ggX5_insert_X5_checkSigns
set_option maxRecDepth 20000 in
theorem ggX5_insert_X0_save : GoodIn wsX5_insert wsX0_save := goodIn_r _ [30, 31, 32, 33, 34, 29, 35, 36, 37, 38, 39, 40, 41, 42, 43, 44, 45, 46, 47, 48, 49, 50, 51, 52, 53, 54, 55, 56, 57, 58, 59, 60, 61, 62, 221, 222, 212, 213, 214, 215, 216, 217, 218, 219, 220] (by decide +kernel) (by decide +kernel)
set_option maxRecDepth 20000 in
theorem gX5_insert_X0_save : GoodIn wsX5_insert (wsV RX5 65 RX0 yX0_save wsX0_save) := goodIn_app (goodIn_of _ (by decide +kernel)) ggX5_insert_X0_save
set_option maxRecDepth 20000 in
theorem ggX5_insert_X3_open : GoodIn wsX5_insert wsX3_open := goodIn_r _ [66, 56, 58, 59, 60, 61, 62, 67, 68, 69, 44, 70, 71, 72, 73, 74, 57, 47, 48, 49, 50, 212, 213, 214, 215, 216, 217, 218, 219, 220] (by decide +kernel) (by decide +kernel)
set_option maxRecDepth 20000 in
theorem gX5_insert_X3_open : GoodIn wsX5_insert (wsV RX5 69 RX3 yX3_open wsX3_open) := goodIn_app (goodIn_of _ (by decide +kernel)) ggX5_insert_X3_open
set_option maxRecDepth 20000 in
theorem ggX5_insert_X3_addLetter : GoodIn wsX5_insert wsX3_addLetter := goodIn_r _ [78, 58, 57, 59, 79, 80, 81, 44, 82, 56, 212, 213, 214, 215, 216, 217, 218, 219, 220] (by decide +kernel) (by decide +kernel)
set_option maxRecDepth 20000 in
theorem gX5_insert_X3_addLetter : GoodIn wsX5_insert (wsV RX5 73 RX3 yX3_addLetter wsX3_addLetter) := goodIn_app (goodIn_of _ (by decide +kernel)) ggX5_insert_X3_addLetter
set_option maxRecDepth 20000 in
theorem ggX5_insert_X3_putSigns : GoodIn wsX5_insert wsX3_putSigns := goodIn_r _ [86, 60, 61, 79, 80, 81, 44, 82, 56, 212, 213, 214, 215, 216, 217, 218, 219, 220] (by decide +kernel) (by decide +kernel)
set_option maxRecDepth 20000 in
theorem gX5_insert_X3_putSigns : GoodIn wsX5_insert (wsV RX5 77 RX3 yX3_putSigns wsX3_putSigns) := goodIn_app (goodIn_of _ (by decide +kernel)) ggX5_insert_X3_putSigns
set_option maxRecDepth 20000 in
theorem ggX5_insert_X5_setLines : GoodIn wsX5_insert wsX5_setLines := goodIn_r _ [90, 91, 3, 92, 93, 94, 44, 95, 46, 96, 97, 98, 99, 100, 101, 102, 103, 48, 49, 50, 104, 105, 106, 107, 108, 109, 110, 111, 112, 113, 114, 115, 116, 117, 118, 119, 120, 73, 121, 122, 123, 124, 125, 72, 74, 126, 127, 128, 129, 130, 59, 60, 61, 79, 80, 81, 82, 56, 131, 8, 132, 133, 134, 135, 136, 137, 138, 139, 140, 141, 142, 143, 144, 145, 146, 147, 148, 149, 150, 151, 152, 153, 154, 51, 155, 156, 157, 158, 159, 160, 161, 162, 163, 164, 165, 166, 62, 167, 168, 169, 170, 171, 172, 173, 174, 175, 176, 177, 178, 179, 180, 181, 182, 183, 184, 185, 186, 187, 188, 189, 190, 191, 192, 193, 194, 195, 196, 197, 198, 199, 200, 201, 202, 203, 204, 205, 206, 207, 208, 209, 210, 211, 212, 213, 214, 215, 216, 217, 218, 219, 220, 223, 224, 225, 226, 227, 228, 229, 230, 231, 232, 233, 234, 235, 236, 237] (by decide +kernel) (by decide +kernel)
set_option maxRecDepth 20000 in
theorem gX5_insert_X5_setLines : GoodIn wsX5_insert (wsV RX5 80 RX5 yX5_setLines wsX5_setLines) := goodIn_app (goodIn_of _ (by decide +kernel)) ggX5_insert_X5_setLines
theorem dX5_insert_0 : decode cX5_insert 0 = .ok (.iload_n 1, 1) := by decide +kernel
theorem dX5_insert_1 : decode cX5_insert 1 = .ok (.aload_n 0, 1) := by decide +kernel
theorem dX5_insert_2 : decode cX5_insert 2 = .ok (.getfield 10, 3) := by decide +kernel
theorem dX5_insert_5 : decode cX5_insert 5 = .ok (.getfield 43, 3) := by decide +kernel
theorem dX5_insert_8 : decode cX5_insert 8 = .ok (.iconst 1, 1) := by decide +kernel
theorem dX5_insert_9 : decode cX5_insert 9 = .ok (.iadd, 1) := by decide +kernel
theorem dX5_insert_10 : decode cX5_insert 10 = .ok (.invokestatic 47, 3) := by decide +kernel
theorem dX5_insert_13 : decode cX5_insert 13 = .ok (.iload_n 2, 1) := by decide +kernel
theorem dX5_insert_14 : decode cX5_insert 14 = .ok (.iconst 0, 1) := by decide +kernel
theorem dX5_insert_15 : decode cX5_insert 15 = .ok (.bipush 25, 2) := by decide +kernel
theorem dX5_insert_17 : decode cX5_insert 17 = .ok (.invokestatic 51, 3) := by decide +kernel
theorem dX5_insert_20 : decode cX5_insert 20 = .ok (.iload_n 3, 1) := by decide +kernel
theorem dX5_insert_21 : decode cX5_insert 21 = .ok (.iconst 1, 1) := by decide +kernel
theorem dX5_insert_22 : decode cX5_insert 22 = .ok (.bipush 12, 2) := by decide +kernel
theorem dX5_insert_24 : decode cX5_insert 24 = .ok (.invokestatic 51, 3) := by decide +kernel
theorem dX5_insert_27 : decode cX5_insert 27 = .ok (.iload 4, 2) := by decide +kernel
theorem dX5_insert_29 : decode cX5_insert 29 = .ok (.iload 5, 2) := by decide +kernel
theorem dX5_insert_31 : decode cX5_insert 31 = .ok (.invokestatic 55, 3) := by decide +kernel
theorem dX5_insert_34 : decode cX5_insert 34 = .ok (.aload_n 0, 1) := by decide +kernel
theorem dX5_insert_35 : decode cX5_insert 35 = .ok (.getfield 10, 3) := by decide +kernel
theorem dX5_insert_38 : decode cX5_insert 38 = .ok (.getfield 43, 3) := by decide +kernel
theorem dX5_insert_41 : decode cX5_insert 41 = .ok (.bipush 60, 2) := by decide +kernel
theorem dX5_insert_43 : decode cX5_insert 43 = .ok (.if_icmp .lt 13, 3) := by decide +kernel
theorem dX5_insert_46 : decode cX5_insert 46 = .ok (.new 58, 3) := by decide +kernel
theorem dX5_insert_49 : decode cX5_insert 49 = .ok (.dup, 1) := by decide +kernel
theorem dX5_insert_50 : decode cX5_insert 50 = .ok (.ldc 60, 2) := by decide +kernel
theorem dX5_insert_52 : decode cX5_insert 52 = .ok (.invokespecial 62, 3) := by decide +kernel
theorem dX5_insert_55 : decode cX5_insert 55 = .ok (.athrow, 1) := by decide +kernel
theorem dX5_insert_56 : decode cX5_insert 56 = .ok (.aload_n 0, 1) := by decide +kernel
theorem dX5_insert_57 : decode cX5_insert 57 = .ok (.getfield 39, 3) := by decide +kernel
theorem dX5_insert_60 : decode cX5_insert 60 = .ok (.aload_n 0, 1) := by decide +kernel
theorem dX5_insert_61 : decode cX5_insert 61 = .ok (.getfield 10, 3) := by decide +kernel
theorem dX5_insert_64 : decode cX5_insert 64 = .ok (.invokevirtual 65, 3) := by decide +kernel
theorem dX5_insert_67 : decode cX5_insert 67 = .ok (.aload_n 0, 1) := by decide +kernel
theorem dX5_insert_68 : decode cX5_insert 68 = .ok (.getfield 10, 3) := by decide +kernel
theorem dX5_insert_71 : decode cX5_insert 71 = .ok (.iload_n 1, 1) := by decide +kernel
theorem dX5_insert_72 : decode cX5_insert 72 = .ok (.invokevirtual 69, 3) := by decide +kernel
theorem dX5_insert_75 : decode cX5_insert 75 = .ok (.iconst 0, 1) := by decide +kernel
theorem dX5_insert_76 : decode cX5_insert 76 = .ok (.istore 6, 2) := by decide +kernel
theorem dX5_insert_78 : decode cX5_insert 78 = .ok (.iload 6, 2) := by decide +kernel
theorem dX5_insert_80 : decode cX5_insert 80 = .ok (.iload_n 3, 1) := by decide +kernel
theorem dX5_insert_81 : decode cX5_insert 81 = .ok (.if_icmp .ge 25, 3) := by decide +kernel
theorem dX5_insert_84 : decode cX5_insert 84 = .ok (.aload_n 0, 1) := by decide +kernel
theorem dX5_insert_85 : decode cX5_insert 85 = .ok (.getfield 10, 3) := by decide +kernel
theorem dX5_insert_88 : decode cX5_insert 88 = .ok (.iload_n 1, 1) := by decide +kernel
theorem dX5_insert_89 : decode cX5_insert 89 = .ok (.iload_n 2, 1) := by decide +kernel
theorem dX5_insert_90 : decode cX5_insert 90 = .ok (.iload 6, 2) := by decide +kernel
theorem dX5_insert_92 : decode cX5_insert 92 = .ok (.iadd, 1) := by decide +kernel
theorem dX5_insert_93 : decode cX5_insert 93 = .ok (.bipush 26, 2) := by decide +kernel
theorem dX5_insert_95 : decode cX5_insert 95 = .ok (.irem, 1) := by decide +kernel
theorem dX5_insert_96 : decode cX5_insert 96 = .ok (.invokevirtual 73, 3) := by decide +kernel
theorem dX5_insert_99 : decode cX5_insert 99 = .ok (.pop, 1) := by decide +kernel
theorem dX5_insert_100 : decode cX5_insert 100 = .ok (.iinc 6 1, 3) := by decide +kernel
theorem dX5_insert_103 : decode cX5_insert 103 = .ok (.goto (-25), 3) := by decide +kernel
theorem dX5_insert_106 : decode cX5_insert 106 = .ok (.aload_n 0, 1) := by decide +kernel
theorem dX5_insert_107 : decode cX5_insert 107 = .ok (.getfield 10, 3) := by decide +kernel
theorem dX5_insert_110 : decode cX5_insert 110 = .ok (.iload_n 1, 1) := by decide +kernel
theorem dX5_insert_111 : decode cX5_insert 111 = .ok (.iload 4, 2) := by decide +kernel
theorem dX5_insert_113 : decode cX5_insert 113 = .ok (.iload 5, 2) := by decide +kernel
theorem dX5_insert_115 : decode cX5_insert 115 = .ok (.invokevirtual 77, 3) := by decide +kernel
theorem dX5_insert_118 : decode cX5_insert 118 = .ok (.aload_n 0, 1) := by decide +kernel
theorem dX5_insert_119 : decode cX5_insert 119 = .ok (.invokevirtual 80, 3) := by decide +kernel
theorem dX5_insert_122 : decode cX5_insert 122 = .ok (.aload_n 0, 1) := by decide +kernel
theorem dX5_insert_123 : decode cX5_insert 123 = .ok (.getfield 10, 3) := by decide +kernel
theorem dX5_insert_126 : decode cX5_insert 126 = .ok (.getfield 43, 3) := by decide +kernel
theorem dX5_insert_129 : decode cX5_insert 129 = .ok (.ireturn, 1) := by decide +kernel
set_option maxRecDepth 20000 in
theorem ggX5_removeWord_X5_checkIndex : GoodIn wsX5_removeWord wsX5_checkIndex := goodIn_ca (goodIn_r _ [7, 8, 9] (by decide +kernel) (by decide +kernel)) (goodIn_sub (fun _ h => List.mem_cons_of_mem _ (List.mem_append_right _ h)) (by decide +kernel))
set_option maxRecDepth 20000 in
theorem gX5_removeWord_X5_checkIndex : GoodIn wsX5_removeWord (va_wsS RX5 47 yX5_checkIndex wsX5_checkIndex) := goodIn_app (goodIn_of _ (by decide +kernel)) ggX5_removeWord_X5_checkIndex
set_option maxRecDepth 20000 in
theorem ggX5_removeWord_X0_save : GoodIn wsX5_removeWord wsX0_save := goodIn_r _ [14, 15, 16, 17, 18, 13, 19, 20, 21, 22, 23, 24, 25, 26, 27, 28, 29, 30, 31, 32, 33, 34, 35, 36, 37, 38, 39, 40, 41, 42, 43, 44, 45, 46, 197, 198, 188, 189, 190, 191, 192, 193, 194, 195, 196] (by decide +kernel) (by decide +kernel)
set_option maxRecDepth 20000 in
theorem gX5_removeWord_X0_save : GoodIn wsX5_removeWord (wsV RX5 65 RX0 yX0_save wsX0_save) := goodIn_app (goodIn_of _ (by decide +kernel)) ggX5_removeWord_X0_save
set_option maxRecDepth 20000 in
theorem ggX5_removeWord_X3_close : GoodIn wsX5_removeWord wsX3_close := goodIn_r _ [50, 40, 51, 52, 53, 28, 54, 55, 56, 57, 58, 59, 60, 61, 62, 41, 31, 32, 33, 34, 42, 43, 44, 45, 46, 188, 189, 190, 191, 192, 193, 194, 195, 196] (by decide +kernel) (by decide +kernel)
set_option maxRecDepth 20000 in
theorem gX5_removeWord_X3_close : GoodIn wsX5_removeWord (wsV RX5 83 RX3 yX3_close wsX3_close) := goodIn_app (goodIn_of _ (by decide +kernel)) ggX5_removeWord_X3_close
set_option maxRecDepth 20000 in
theorem ggX5_removeWord_X5_setLines : GoodIn wsX5_removeWord wsX5_setLines := goodIn_r _ [66, 67, 1, 68, 69, 70, 28, 71, 30, 72, 73, 74, 75, 76, 77, 78, 79, 32, 33, 34, 80, 81, 82, 83, 84, 85, 86, 87, 88, 89, 90, 91, 92, 93, 94, 95, 96, 61, 97, 98, 99, 100, 101, 60, 62, 102, 103, 104, 105, 106, 43, 44, 45, 51, 52, 53, 54, 40, 107, 6, 108, 109, 110, 111, 112, 113, 114, 115, 116, 117, 118, 119, 120, 121, 122, 123, 124, 125, 126, 127, 128, 129, 130, 35, 131, 132, 133, 134, 135, 136, 137, 138, 139, 140, 141, 142, 46, 143, 144, 145, 146, 147, 148, 149, 150, 151, 152, 153, 154, 155, 156, 157, 158, 159, 160, 161, 162, 163, 164, 165, 166, 167, 168, 169, 170, 171, 172, 173, 174, 175, 176, 177, 178, 179, 180, 181, 182, 183, 184, 185, 186, 187, 188, 189, 190, 191, 192, 193, 194, 195, 196, 199, 200, 201, 202, 203, 204, 205, 206, 207, 208, 209, 210, 211, 212, 213] (by decide +kernel) (by decide +kernel)
set_option maxRecDepth 20000 in
theorem gX5_removeWord_X5_setLines : GoodIn wsX5_removeWord (wsV RX5 80 RX5 yX5_setLines wsX5_setLines) := goodIn_app (goodIn_of _ (by decide +kernel)) ggX5_removeWord_X5_setLines
theorem dX5_removeWord_0 : decode cX5_removeWord 0 = .ok (.iload_n 1, 1) := by decide +kernel
theorem dX5_removeWord_1 : decode cX5_removeWord 1 = .ok (.aload_n 0, 1) := by decide +kernel
theorem dX5_removeWord_2 : decode cX5_removeWord 2 = .ok (.getfield 10, 3) := by decide +kernel
theorem dX5_removeWord_5 : decode cX5_removeWord 5 = .ok (.getfield 43, 3) := by decide +kernel
theorem dX5_removeWord_8 : decode cX5_removeWord 8 = .ok (.invokestatic 47, 3) := by decide +kernel
theorem dX5_removeWord_11 : decode cX5_removeWord 11 = .ok (.aload_n 0, 1) := by decide +kernel
theorem dX5_removeWord_12 : decode cX5_removeWord 12 = .ok (.getfield 39, 3) := by decide +kernel
theorem dX5_removeWord_15 : decode cX5_removeWord 15 = .ok (.aload_n 0, 1) := by decide +kernel
theorem dX5_removeWord_16 : decode cX5_removeWord 16 = .ok (.getfield 10, 3) := by decide +kernel
theorem dX5_removeWord_19 : decode cX5_removeWord 19 = .ok (.invokevirtual 65, 3) := by decide +kernel
theorem dX5_removeWord_22 : decode cX5_removeWord 22 = .ok (.aload_n 0, 1) := by decide +kernel
theorem dX5_removeWord_23 : decode cX5_removeWord 23 = .ok (.getfield 10, 3) := by decide +kernel
theorem dX5_removeWord_26 : decode cX5_removeWord 26 = .ok (.iload_n 1, 1) := by decide +kernel
theorem dX5_removeWord_27 : decode cX5_removeWord 27 = .ok (.invokevirtual 83, 3) := by decide +kernel
theorem dX5_removeWord_30 : decode cX5_removeWord 30 = .ok (.aload_n 0, 1) := by decide +kernel
theorem dX5_removeWord_31 : decode cX5_removeWord 31 = .ok (.invokevirtual 80, 3) := by decide +kernel
theorem dX5_removeWord_34 : decode cX5_removeWord 34 = .ok (.aload_n 0, 1) := by decide +kernel
theorem dX5_removeWord_35 : decode cX5_removeWord 35 = .ok (.getfield 10, 3) := by decide +kernel
theorem dX5_removeWord_38 : decode cX5_removeWord 38 = .ok (.getfield 43, 3) := by decide +kernel
theorem dX5_removeWord_41 : decode cX5_removeWord 41 = .ok (.ireturn, 1) := by decide +kernel
set_option maxRecDepth 20000 in
theorem ggX5_endParagraph_X5_checkIndex : GoodIn wsX5_endParagraph wsX5_checkIndex := goodIn_ca (goodIn_r _ [7, 8, 9] (by decide +kernel) (by decide +kernel)) (goodIn_sub (fun _ h => List.mem_cons_of_mem _ (List.mem_append_right _ h)) (by decide +kernel))
set_option maxRecDepth 20000 in
theorem gX5_endParagraph_X5_checkIndex : GoodIn wsX5_endParagraph (va_wsS RX5 47 yX5_checkIndex wsX5_checkIndex) := goodIn_app (goodIn_of _ (by decide +kernel)) ggX5_endParagraph_X5_checkIndex
set_option maxRecDepth 20000 in
theorem ggX5_endParagraph_X0_save : GoodIn wsX5_endParagraph wsX0_save := goodIn_r _ [14, 15, 16, 17, 18, 13, 19, 20, 21, 22, 23, 24, 25, 26, 27, 28, 29, 30, 31, 32, 33, 34, 35, 36, 37, 38, 39, 40, 41, 42, 43, 44, 45, 46, 196, 197, 187, 188, 189, 190, 191, 192, 193, 194, 195] (by decide +kernel) (by decide +kernel)
set_option maxRecDepth 20000 in
theorem gX5_endParagraph_X0_save : GoodIn wsX5_endParagraph (wsV RX5 65 RX0 yX0_save wsX0_save) := goodIn_app (goodIn_of _ (by decide +kernel)) ggX5_endParagraph_X0_save
set_option maxRecDepth 20000 in
theorem ggX5_endParagraph_X3_wasSetToEnd : GoodIn wsX5_endParagraph wsX3_wasSetToEnd := goodIn_r _ [50, 46, 51, 52, 53, 28, 54, 40, 187, 188, 189, 190, 191, 192, 193, 194, 195] (by decide +kernel) (by decide +kernel)
set_option maxRecDepth 20000 in
theorem gX5_endParagraph_X3_wasSetToEnd : GoodIn wsX5_endParagraph (wsV RX5 86 RX3 yX3_wasSetToEnd wsX3_wasSetToEnd) := goodIn_app (goodIn_of _ (by decide +kernel)) ggX5_endParagraph_X3_wasSetToEnd
set_option maxRecDepth 20000 in
theorem ggX5_endParagraph_X3_putEnd : GoodIn wsX5_endParagraph wsX3_putEnd := goodIn_r _ [58, 46, 51, 52, 53, 28, 54, 40, 187, 188, 189, 190, 191, 192, 193, 194, 195] (by decide +kernel) (by decide +kernel)
set_option maxRecDepth 20000 in
theorem gX5_endParagraph_X3_putEnd : GoodIn wsX5_endParagraph (wsV RX5 90 RX3 yX3_putEnd wsX3_putEnd) := goodIn_app (goodIn_of _ (by decide +kernel)) ggX5_endParagraph_X3_putEnd
set_option maxRecDepth 20000 in
theorem ggX5_endParagraph_X5_setLines : GoodIn wsX5_endParagraph wsX5_setLines := goodIn_r _ [62, 63, 1, 64, 65, 66, 28, 67, 30, 68, 69, 70, 71, 72, 73, 74, 75, 32, 33, 34, 76, 77, 78, 79, 80, 81, 82, 83, 84, 85, 86, 87, 88, 89, 90, 91, 92, 93, 94, 95, 96, 97, 98, 99, 100, 101, 102, 103, 104, 105, 43, 44, 45, 51, 52, 53, 54, 40, 106, 6, 107, 108, 109, 110, 111, 112, 113, 114, 115, 116, 117, 118, 119, 120, 121, 122, 123, 124, 125, 126, 127, 128, 129, 35, 130, 131, 132, 133, 134, 135, 136, 137, 138, 139, 140, 141, 46, 142, 143, 144, 145, 146, 147, 148, 149, 150, 151, 152, 153, 154, 155, 156, 157, 158, 159, 160, 161, 162, 163, 164, 165, 166, 167, 168, 169, 170, 171, 172, 173, 174, 175, 176, 177, 178, 179, 180, 181, 182, 183, 184, 185, 186, 187, 188, 189, 190, 191, 192, 193, 194, 195, 198, 199, 200, 201, 202, 203, 204, 205, 206, 207, 208, 209, 210, 211, 212] (by decide +kernel) (by decide +kernel)
set_option maxRecDepth 20000 in
theorem gX5_endParagraph_X5_setLines : GoodIn wsX5_endParagraph (wsV RX5 80 RX5 yX5_setLines wsX5_setLines) := goodIn_app (goodIn_of _ (by decide +kernel)) ggX5_endParagraph_X5_setLines
theorem dX5_endParagraph_0 : decode cX5_endParagraph 0 = .ok (.iload_n 1, 1) := by decide +kernel
theorem dX5_endParagraph_1 : decode cX5_endParagraph 1 = .ok (.aload_n 0, 1) := by decide +kernel
theorem dX5_endParagraph_2 : decode cX5_endParagraph 2 = .ok (.getfield 10, 3) := by decide +kernel
theorem dX5_endParagraph_5 : decode cX5_endParagraph 5 = .ok (.getfield 43, 3) := by decide +kernel
theorem dX5_endParagraph_8 : decode cX5_endParagraph 8 = .ok (.invokestatic 47, 3) := by decide +kernel
theorem dX5_endParagraph_11 : decode cX5_endParagraph 11 = .ok (.aload_n 0, 1) := by decide +kernel
theorem dX5_endParagraph_12 : decode cX5_endParagraph 12 = .ok (.getfield 39, 3) := by decide +kernel
theorem dX5_endParagraph_15 : decode cX5_endParagraph 15 = .ok (.aload_n 0, 1) := by decide +kernel
theorem dX5_endParagraph_16 : decode cX5_endParagraph 16 = .ok (.getfield 10, 3) := by decide +kernel
theorem dX5_endParagraph_19 : decode cX5_endParagraph 19 = .ok (.invokevirtual 65, 3) := by decide +kernel
theorem dX5_endParagraph_22 : decode cX5_endParagraph 22 = .ok (.aload_n 0, 1) := by decide +kernel
theorem dX5_endParagraph_23 : decode cX5_endParagraph 23 = .ok (.getfield 10, 3) := by decide +kernel
theorem dX5_endParagraph_26 : decode cX5_endParagraph 26 = .ok (.iload_n 1, 1) := by decide +kernel
theorem dX5_endParagraph_27 : decode cX5_endParagraph 27 = .ok (.invokevirtual 86, 3) := by decide +kernel
theorem dX5_endParagraph_30 : decode cX5_endParagraph 30 = .ok (.ifCond .eq 7, 3) := by decide +kernel
theorem dX5_endParagraph_33 : decode cX5_endParagraph 33 = .ok (.iconst 1, 1) := by decide +kernel
theorem dX5_endParagraph_34 : decode cX5_endParagraph 34 = .ok (.goto 4, 3) := by decide +kernel
theorem dX5_endParagraph_37 : decode cX5_endParagraph 37 = .ok (.iconst 0, 1) := by decide +kernel
theorem dX5_endParagraph_38 : decode cX5_endParagraph 38 = .ok (.istore_n 3, 1) := by decide +kernel
theorem dX5_endParagraph_39 : decode cX5_endParagraph 39 = .ok (.aload_n 0, 1) := by decide +kernel
theorem dX5_endParagraph_40 : decode cX5_endParagraph 40 = .ok (.getfield 10, 3) := by decide +kernel
theorem dX5_endParagraph_43 : decode cX5_endParagraph 43 = .ok (.iload_n 1, 1) := by decide +kernel
theorem dX5_endParagraph_44 : decode cX5_endParagraph 44 = .ok (.iload_n 2, 1) := by decide +kernel
theorem dX5_endParagraph_45 : decode cX5_endParagraph 45 = .ok (.invokevirtual 90, 3) := by decide +kernel
theorem dX5_endParagraph_48 : decode cX5_endParagraph 48 = .ok (.aload_n 0, 1) := by decide +kernel
theorem dX5_endParagraph_49 : decode cX5_endParagraph 49 = .ok (.invokevirtual 80, 3) := by decide +kernel
theorem dX5_endParagraph_52 : decode cX5_endParagraph 52 = .ok (.iload_n 3, 1) := by decide +kernel
theorem dX5_endParagraph_53 : decode cX5_endParagraph 53 = .ok (.ireturn, 1) := by decide +kernel
set_option maxRecDepth 20000 in
theorem ggX5_setSigns_X5_checkIndex : GoodIn wsX5_setSigns wsX5_checkIndex := goodIn_ca (goodIn_r _ [7, 8, 9] (by decide +kernel) (by decide +kernel)) (goodIn_sub (fun _ h => List.mem_cons_of_mem _ (List.mem_append_left _ (List.mem_append_right _ h))) (by decide +kernel))
set_option maxRecDepth 20000 in
theorem gX5_setSigns_X5_checkIndex : GoodIn wsX5_setSigns (va_wsS RX5 47 yX5_checkIndex wsX5_checkIndex) := goodIn_app (goodIn_of _ (by decide +kernel)) ggX5_setSigns_X5_checkIndex
set_option maxRecDepth 20000 in
theorem ggX5_setSigns_X5_checkSigns : GoodIn wsX5_setSigns wsX5_checkSigns := goodIn_ca (goodIn_r _ [12, 13, 14, 15, 16, 6, 17, 18, 19, 20] (by decide +kernel) (by decide +kernel)) (goodIn_sub (fun _ h => List.mem_cons_of_mem _ (List.mem_append_right _ h)) (by decide +kernel))
set_option maxRecDepth 20000 in
theorem gX5_setSigns_X5_checkSigns : GoodIn wsX5_setSigns (va_wsS RX5 55 yX5_checkSigns wsX5_checkSigns) := goodIn_app (goodIn_of _ (by decide +kernel)) ggX5_setSigns_X5_checkSigns
set_option maxRecDepth 20000 in
theorem ggX5_setSigns_X0_save : GoodIn wsX5_setSigns wsX0_save := goodIn_r _ [25, 26, 27, 28, 29, 24, 30, 31, 32, 33, 34, 35, 36, 37, 38, 39, 40, 41, 42, 43, 44, 45, 46, 47, 48, 49, 50, 51, 52, 53, 54, 55, 56, 57, 204, 205, 195, 196, 197, 198, 199, 200, 201, 202, 203] (by decide +kernel) (by decide +kernel)
set_option maxRecDepth 20000 in
theorem gX5_setSigns_X0_save : GoodIn wsX5_setSigns (wsV RX5 65 RX0 yX0_save wsX0_save) := goodIn_app (goodIn_of _ (by decide +kernel)) ggX5_setSigns_X0_save
set_option maxRecDepth 20000 in
theorem ggX5_setSigns_X3_putSigns : GoodIn wsX5_setSigns wsX3_putSigns := goodIn_r _ [61, 55, 56, 62, 63, 64, 39, 65, 51, 195, 196, 197, 198, 199, 200, 201, 202, 203] (by decide +kernel) (by decide +kernel)
set_option maxRecDepth 20000 in
theorem gX5_setSigns_X3_putSigns : GoodIn wsX5_setSigns (wsV RX5 77 RX3 yX3_putSigns wsX3_putSigns) := goodIn_app (goodIn_of _ (by decide +kernel)) ggX5_setSigns_X3_putSigns
set_option maxRecDepth 20000 in
theorem ggX5_setSigns_X5_setLines : GoodIn wsX5_setSigns wsX5_setLines := goodIn_r _ [69, 70, 1, 71, 72, 73, 39, 74, 41, 75, 76, 77, 78, 79, 80, 81, 82, 43, 44, 45, 83, 84, 85, 86, 87, 88, 89, 90, 91, 92, 93, 94, 95, 96, 97, 98, 99, 100, 101, 102, 103, 104, 105, 106, 107, 108, 109, 110, 111, 112, 54, 55, 56, 62, 63, 64, 65, 51, 113, 6, 114, 115, 116, 117, 118, 119, 120, 121, 122, 123, 124, 125, 126, 127, 128, 129, 130, 131, 132, 133, 134, 135, 136, 46, 137, 138, 139, 140, 141, 142, 143, 144, 145, 146, 147, 148, 57, 149, 150, 151, 152, 153, 154, 155, 156, 157, 158, 159, 160, 161, 162, 163, 164, 165, 166, 167, 168, 169, 170, 171, 172, 173, 174, 175, 176, 177, 178, 179, 180, 181, 182, 183, 184, 185, 186, 187, 189, 190, 191, 192, 193, 194, 195, 196, 197, 198, 199, 200, 201, 202, 203, 206, 207, 208, 209, 210, 211, 212, 213, 214, 215, 216, 217, 218, 219, 220] (by decide +kernel) (by decide +kernel)
set_option maxRecDepth 20000 in
theorem gX5_setSigns_X5_setLines : GoodIn wsX5_setSigns (wsV RX5 80 RX5 yX5_setLines wsX5_setLines) := goodIn_app (goodIn_of _ (by decide +kernel)) ggX5_setSigns_X5_setLines
set_option maxRecDepth 20000 in
theorem ggX5_setSigns_X3_widthOf : GoodIn wsX5_setSigns wsX3_widthOf := goodIn_r _ [112, 54, 55, 56, 62, 63, 64, 39, 65, 51, 113, 6, 114, 115, 195, 196, 197, 198, 199, 200, 201, 202, 203] (by decide +kernel) (by decide +kernel)
set_option maxRecDepth 20000 in
theorem gX5_setSigns_X3_widthOf : GoodIn wsX5_setSigns (wsV RX5 94 RX3 yX3_widthOf wsX3_widthOf) := goodIn_app (goodIn_of _ (by decide +kernel)) ggX5_setSigns_X3_widthOf
theorem dX5_setSigns_0 : decode cX5_setSigns 0 = .ok (.iload_n 1, 1) := by decide +kernel
theorem dX5_setSigns_1 : decode cX5_setSigns 1 = .ok (.aload_n 0, 1) := by decide +kernel
theorem dX5_setSigns_2 : decode cX5_setSigns 2 = .ok (.getfield 10, 3) := by decide +kernel
theorem dX5_setSigns_5 : decode cX5_setSigns 5 = .ok (.getfield 43, 3) := by decide +kernel
theorem dX5_setSigns_8 : decode cX5_setSigns 8 = .ok (.invokestatic 47, 3) := by decide +kernel
theorem dX5_setSigns_11 : decode cX5_setSigns 11 = .ok (.iload_n 2, 1) := by decide +kernel
theorem dX5_setSigns_12 : decode cX5_setSigns 12 = .ok (.iload_n 3, 1) := by decide +kernel
theorem dX5_setSigns_13 : decode cX5_setSigns 13 = .ok (.invokestatic 55, 3) := by decide +kernel
theorem dX5_setSigns_16 : decode cX5_setSigns 16 = .ok (.aload_n 0, 1) := by decide +kernel
theorem dX5_setSigns_17 : decode cX5_setSigns 17 = .ok (.getfield 39, 3) := by decide +kernel
theorem dX5_setSigns_20 : decode cX5_setSigns 20 = .ok (.aload_n 0, 1) := by decide +kernel
theorem dX5_setSigns_21 : decode cX5_setSigns 21 = .ok (.getfield 10, 3) := by decide +kernel
theorem dX5_setSigns_24 : decode cX5_setSigns 24 = .ok (.invokevirtual 65, 3) := by decide +kernel
theorem dX5_setSigns_27 : decode cX5_setSigns 27 = .ok (.aload_n 0, 1) := by decide +kernel
theorem dX5_setSigns_28 : decode cX5_setSigns 28 = .ok (.getfield 10, 3) := by decide +kernel
theorem dX5_setSigns_31 : decode cX5_setSigns 31 = .ok (.iload_n 1, 1) := by decide +kernel
theorem dX5_setSigns_32 : decode cX5_setSigns 32 = .ok (.iload_n 2, 1) := by decide +kernel
theorem dX5_setSigns_33 : decode cX5_setSigns 33 = .ok (.iload_n 3, 1) := by decide +kernel
theorem dX5_setSigns_34 : decode cX5_setSigns 34 = .ok (.invokevirtual 77, 3) := by decide +kernel
theorem dX5_setSigns_37 : decode cX5_setSigns 37 = .ok (.aload_n 0, 1) := by decide +kernel
theorem dX5_setSigns_38 : decode cX5_setSigns 38 = .ok (.invokevirtual 80, 3) := by decide +kernel
theorem dX5_setSigns_41 : decode cX5_setSigns 41 = .ok (.aload_n 0, 1) := by decide +kernel
theorem dX5_setSigns_42 : decode cX5_setSigns 42 = .ok (.getfield 10, 3) := by decide +kernel
theorem dX5_setSigns_45 : decode cX5_setSigns 45 = .ok (.iload_n 1, 1) := by decide +kernel
theorem dX5_setSigns_46 : decode cX5_setSigns 46 = .ok (.invokevirtual 94, 3) := by decide +kernel
theorem dX5_setSigns_49 : decode cX5_setSigns 49 = .ok (.ireturn, 1) := by decide +kernel
set_option maxRecDepth 20000 in
theorem ggX5_set_X5_checkRange : GoodIn wsX5_set wsX5_checkRange := goodIn_ca (goodIn_r _ [9, 10, 11] (by decide +kernel) (by decide +kernel)) (goodIn_sub (fun _ h => List.mem_cons_of_mem _ (List.mem_append_right _ h)) (by decide +kernel))
set_option maxRecDepth 20000 in
theorem gX5_set_X5_checkRange : GoodIn wsX5_set (va_wsS RX5 51 yX5_checkRange wsX5_checkRange) := goodIn_app (goodIn_of _ (by decide +kernel)) ggX5_set_X5_checkRange
set_option maxRecDepth 20000 in
theorem ggX5_set_X0_save : GoodIn wsX5_set wsX0_save := goodIn_r _ [16, 17, 18, 19, 20, 15, 21, 22, 23, 24, 25, 26, 27, 28, 29, 30, 31, 32, 33, 34, 35, 36, 37, 38, 39, 40, 41, 42, 43, 44, 45, 46, 47, 48, 190, 191, 181, 182, 183, 184, 185, 186, 187, 188, 189] (by decide +kernel) (by decide +kernel)
set_option maxRecDepth 20000 in
theorem gX5_set_X0_save : GoodIn wsX5_set (wsV RX5 65 RX0 yX0_save wsX0_save) := goodIn_app (goodIn_of _ (by decide +kernel)) ggX5_set_X0_save
set_option maxRecDepth 20000 in
theorem ggX5_set_X3_setting : GoodIn wsX5_set wsX3_setting := goodIn_r _ [52, 32, 181, 182, 183, 184, 185, 186, 187, 188, 189] (by decide +kernel) (by decide +kernel)
set_option maxRecDepth 20000 in
theorem gX5_set_X3_setting : GoodIn wsX5_set (wsV RX5 105 RX3 yX3_setting wsX3_setting) := goodIn_app (goodIn_of _ (by decide +kernel)) ggX5_set_X3_setting
set_option maxRecDepth 20000 in
theorem ggX5_set_X5_setLines : GoodIn wsX5_set wsX5_setLines := goodIn_r _ [56, 57, 4, 49, 50, 51, 30, 52, 32, 58, 59, 60, 61, 62, 63, 64, 65, 34, 35, 36, 66, 67, 68, 69, 70, 71, 72, 73, 74, 75, 76, 77, 78, 79, 80, 81, 82, 83, 84, 85, 86, 87, 88, 89, 90, 91, 92, 93, 94, 95, 45, 46, 47, 96, 97, 98, 99, 42, 100, 8, 101, 102, 103, 104, 105, 106, 107, 108, 109, 110, 111, 112, 113, 114, 115, 116, 117, 118, 119, 120, 121, 122, 123, 37, 124, 125, 126, 127, 128, 129, 130, 131, 132, 133, 134, 135, 48, 136, 137, 138, 139, 140, 141, 142, 143, 144, 145, 146, 147, 148, 149, 150, 151, 152, 153, 154, 155, 156, 157, 158, 159, 160, 161, 162, 163, 164, 165, 166, 167, 168, 169, 170, 171, 172, 173, 174, 175, 176, 177, 178, 179, 180, 181, 182, 183, 184, 185, 186, 187, 188, 189, 192, 193, 194, 195, 196, 197, 198, 199, 200, 201, 202, 203, 204, 205, 206] (by decide +kernel) (by decide +kernel)
set_option maxRecDepth 20000 in
theorem gX5_set_X5_setLines : GoodIn wsX5_set (wsV RX5 80 RX5 yX5_setLines wsX5_setLines) := goodIn_app (goodIn_of _ (by decide +kernel)) ggX5_set_X5_setLines
theorem dX5_set_0 : decode cX5_set 0 = .ok (.iload_n 1, 1) := by decide +kernel
theorem dX5_set_1 : decode cX5_set 1 = .ok (.iconst 0, 1) := by decide +kernel
theorem dX5_set_2 : decode cX5_set 2 = .ok (.iconst 5, 1) := by decide +kernel
theorem dX5_set_3 : decode cX5_set 3 = .ok (.invokestatic 51, 3) := by decide +kernel
theorem dX5_set_6 : decode cX5_set 6 = .ok (.iload_n 2, 1) := by decide +kernel
theorem dX5_set_7 : decode cX5_set 7 = .ok (.getstatic 98, 3) := by decide +kernel
theorem dX5_set_10 : decode cX5_set 10 = .ok (.iload_n 1, 1) := by decide +kernel
theorem dX5_set_11 : decode cX5_set 11 = .ok (.iaload, 1) := by decide +kernel
theorem dX5_set_12 : decode cX5_set 12 = .ok (.getstatic 102, 3) := by decide +kernel
theorem dX5_set_15 : decode cX5_set 15 = .ok (.iload_n 1, 1) := by decide +kernel
theorem dX5_set_16 : decode cX5_set 16 = .ok (.iaload, 1) := by decide +kernel
theorem dX5_set_17 : decode cX5_set 17 = .ok (.invokestatic 51, 3) := by decide +kernel
theorem dX5_set_20 : decode cX5_set 20 = .ok (.aload_n 0, 1) := by decide +kernel
theorem dX5_set_21 : decode cX5_set 21 = .ok (.getfield 39, 3) := by decide +kernel
theorem dX5_set_24 : decode cX5_set 24 = .ok (.aload_n 0, 1) := by decide +kernel
theorem dX5_set_25 : decode cX5_set 25 = .ok (.getfield 10, 3) := by decide +kernel
theorem dX5_set_28 : decode cX5_set 28 = .ok (.invokevirtual 65, 3) := by decide +kernel
theorem dX5_set_31 : decode cX5_set 31 = .ok (.aload_n 0, 1) := by decide +kernel
theorem dX5_set_32 : decode cX5_set 32 = .ok (.getfield 10, 3) := by decide +kernel
theorem dX5_set_35 : decode cX5_set 35 = .ok (.iload_n 1, 1) := by decide +kernel
theorem dX5_set_36 : decode cX5_set 36 = .ok (.invokevirtual 105, 3) := by decide +kernel
theorem dX5_set_39 : decode cX5_set 39 = .ok (.istore_n 3, 1) := by decide +kernel
theorem dX5_set_40 : decode cX5_set 40 = .ok (.aload_n 0, 1) := by decide +kernel
theorem dX5_set_41 : decode cX5_set 41 = .ok (.getfield 10, 3) := by decide +kernel
theorem dX5_set_44 : decode cX5_set 44 = .ok (.getfield 108, 3) := by decide +kernel
theorem dX5_set_47 : decode cX5_set 47 = .ok (.iload_n 1, 1) := by decide +kernel
theorem dX5_set_48 : decode cX5_set 48 = .ok (.iload_n 2, 1) := by decide +kernel
theorem dX5_set_49 : decode cX5_set 49 = .ok (.iastore, 1) := by decide +kernel
theorem dX5_set_50 : decode cX5_set 50 = .ok (.aload_n 0, 1) := by decide +kernel
theorem dX5_set_51 : decode cX5_set 51 = .ok (.invokevirtual 80, 3) := by decide +kernel
theorem dX5_set_54 : decode cX5_set 54 = .ok (.iload_n 3, 1) := by decide +kernel
theorem dX5_set_55 : decode cX5_set 55 = .ok (.ireturn, 1) := by decide +kernel
set_option maxRecDepth 20000 in
theorem ggX5_setShare_X5_checkIndex : GoodIn wsX5_setShare wsX5_checkIndex := goodIn_ca (goodIn_r _ [7, 8, 9] (by decide +kernel) (by decide +kernel)) (goodIn_sub (fun _ h => List.mem_cons_of_mem _ (List.mem_append_left _ (List.mem_append_right _ h))) (by decide +kernel))
set_option maxRecDepth 20000 in
theorem gX5_setShare_X5_checkIndex : GoodIn wsX5_setShare (va_wsS RX5 47 yX5_checkIndex wsX5_checkIndex) := goodIn_app (goodIn_of _ (by decide +kernel)) ggX5_setShare_X5_checkIndex
set_option maxRecDepth 20000 in
theorem ggX5_setShare_X5_checkRange : GoodIn wsX5_setShare wsX5_checkRange := goodIn_ca (goodIn_r _ [12, 13, 14] (by decide +kernel) (by decide +kernel)) (goodIn_sub (fun _ h => List.mem_cons_of_mem _ (List.mem_append_right _ h)) (by decide +kernel))
set_option maxRecDepth 20000 in
theorem gX5_setShare_X5_checkRange : GoodIn wsX5_setShare (va_wsS RX5 51 yX5_checkRange wsX5_checkRange) := goodIn_app (goodIn_of _ (by decide +kernel)) ggX5_setShare_X5_checkRange
set_option maxRecDepth 20000 in
theorem ggX5_setShare_X0_save : GoodIn wsX5_setShare wsX0_save := goodIn_r _ [19, 20, 21, 22, 23, 18, 24, 25, 26, 27, 28, 29, 30, 31, 32, 33, 34, 35, 36, 37, 38, 39, 40, 41, 42, 43, 44, 45, 46, 47, 48, 49, 50, 51, 194, 195, 185, 186, 187, 188, 189, 190, 191, 192, 193] (by decide +kernel) (by decide +kernel)
set_option maxRecDepth 20000 in
theorem gX5_setShare_X0_save : GoodIn wsX5_setShare (wsV RX5 65 RX0 yX0_save wsX0_save) := goodIn_app (goodIn_of _ (by decide +kernel)) ggX5_setShare_X0_save
set_option maxRecDepth 20000 in
theorem ggX5_setShare_X3_shareOf : GoodIn wsX5_setShare wsX3_shareOf := goodIn_r _ [55, 40, 185, 186, 187, 188, 189, 190, 191, 192, 193] (by decide +kernel) (by decide +kernel)
set_option maxRecDepth 20000 in
theorem gX5_setShare_X3_shareOf : GoodIn wsX5_setShare (wsV RX5 111 RX3 yX3_shareOf wsX3_shareOf) := goodIn_app (goodIn_of _ (by decide +kernel)) ggX5_setShare_X3_shareOf
set_option maxRecDepth 20000 in
theorem ggX5_setShare_X5_setLines : GoodIn wsX5_setShare wsX5_setLines := goodIn_r _ [59, 60, 2, 61, 62, 63, 33, 64, 35, 65, 66, 67, 68, 69, 70, 71, 72, 37, 38, 39, 73, 74, 75, 76, 77, 78, 79, 80, 81, 82, 83, 84, 85, 86, 87, 88, 89, 90, 91, 92, 93, 94, 95, 96, 97, 98, 99, 100, 101, 102, 48, 49, 50, 103, 104, 105, 106, 45, 107, 6, 108, 109, 110, 111, 112, 113, 114, 115, 116, 117, 118, 119, 120, 121, 122, 123, 124, 125, 126, 127, 53, 54, 55, 40, 128, 129, 130, 131, 132, 133, 134, 135, 136, 137, 138, 139, 51, 140, 141, 142, 143, 144, 145, 146, 147, 148, 149, 150, 151, 152, 153, 154, 155, 156, 157, 158, 159, 160, 161, 162, 163, 164, 165, 166, 167, 168, 169, 170, 171, 172, 173, 174, 175, 176, 177, 178, 179, 180, 181, 182, 183, 184, 185, 186, 187, 188, 189, 190, 191, 192, 193, 196, 197, 198, 199, 200, 201, 202, 203, 204, 205, 206, 207, 208, 209, 210] (by decide +kernel) (by decide +kernel)
set_option maxRecDepth 20000 in
theorem gX5_setShare_X5_setLines : GoodIn wsX5_setShare (wsV RX5 80 RX5 yX5_setLines wsX5_setLines) := goodIn_app (goodIn_of _ (by decide +kernel)) ggX5_setShare_X5_setLines
theorem dX5_setShare_0 : decode cX5_setShare 0 = .ok (.iload_n 1, 1) := by decide +kernel
theorem dX5_setShare_1 : decode cX5_setShare 1 = .ok (.bipush 8, 2) := by decide +kernel
theorem dX5_setShare_3 : decode cX5_setShare 3 = .ok (.invokestatic 47, 3) := by decide +kernel
theorem dX5_setShare_6 : decode cX5_setShare 6 = .ok (.iload_n 2, 1) := by decide +kernel
theorem dX5_setShare_7 : decode cX5_setShare 7 = .ok (.iconst 0, 1) := by decide +kernel
theorem dX5_setShare_8 : decode cX5_setShare 8 = .ok (.bipush 100, 2) := by decide +kernel
theorem dX5_setShare_10 : decode cX5_setShare 10 = .ok (.invokestatic 51, 3) := by decide +kernel
theorem dX5_setShare_13 : decode cX5_setShare 13 = .ok (.aload_n 0, 1) := by decide +kernel
theorem dX5_setShare_14 : decode cX5_setShare 14 = .ok (.getfield 39, 3) := by decide +kernel
theorem dX5_setShare_17 : decode cX5_setShare 17 = .ok (.aload_n 0, 1) := by decide +kernel
theorem dX5_setShare_18 : decode cX5_setShare 18 = .ok (.getfield 10, 3) := by decide +kernel
theorem dX5_setShare_21 : decode cX5_setShare 21 = .ok (.invokevirtual 65, 3) := by decide +kernel
theorem dX5_setShare_24 : decode cX5_setShare 24 = .ok (.aload_n 0, 1) := by decide +kernel
theorem dX5_setShare_25 : decode cX5_setShare 25 = .ok (.getfield 10, 3) := by decide +kernel
theorem dX5_setShare_28 : decode cX5_setShare 28 = .ok (.iload_n 1, 1) := by decide +kernel
theorem dX5_setShare_29 : decode cX5_setShare 29 = .ok (.invokevirtual 111, 3) := by decide +kernel
theorem dX5_setShare_32 : decode cX5_setShare 32 = .ok (.istore_n 3, 1) := by decide +kernel
theorem dX5_setShare_33 : decode cX5_setShare 33 = .ok (.aload_n 0, 1) := by decide +kernel
theorem dX5_setShare_34 : decode cX5_setShare 34 = .ok (.getfield 10, 3) := by decide +kernel
theorem dX5_setShare_37 : decode cX5_setShare 37 = .ok (.getfield 114, 3) := by decide +kernel
theorem dX5_setShare_40 : decode cX5_setShare 40 = .ok (.iload_n 1, 1) := by decide +kernel
theorem dX5_setShare_41 : decode cX5_setShare 41 = .ok (.iload_n 2, 1) := by decide +kernel
theorem dX5_setShare_42 : decode cX5_setShare 42 = .ok (.iastore, 1) := by decide +kernel
theorem dX5_setShare_43 : decode cX5_setShare 43 = .ok (.aload_n 0, 1) := by decide +kernel
theorem dX5_setShare_44 : decode cX5_setShare 44 = .ok (.invokevirtual 80, 3) := by decide +kernel
theorem dX5_setShare_47 : decode cX5_setShare 47 = .ok (.iload_n 3, 1) := by decide +kernel
theorem dX5_setShare_48 : decode cX5_setShare 48 = .ok (.ireturn, 1) := by decide +kernel
set_option maxRecDepth 20000 in
theorem ggX5_word_X5_checkIndex : GoodIn wsX5_word wsX5_checkIndex := goodIn_ca (goodIn_r _ [6, 7, 8] (by decide +kernel) (by decide +kernel)) (goodIn_sub (fun _ h => List.mem_cons_of_mem _ (List.mem_append_left _ (List.mem_append_right _ h))) (by decide +kernel))
set_option maxRecDepth 20000 in
theorem gX5_word_X5_checkIndex : GoodIn wsX5_word (va_wsS RX5 47 yX5_checkIndex wsX5_checkIndex) := goodIn_app (goodIn_of _ (by decide +kernel)) ggX5_word_X5_checkIndex
set_option maxRecDepth 20000 in
theorem ggX5_word_X5_checkRange : GoodIn wsX5_word wsX5_checkRange := goodIn_ca (goodIn_r _ [11, 12, 13] (by decide +kernel) (by decide +kernel)) (goodIn_sub (fun _ h => List.mem_cons_of_mem _ (List.mem_append_right _ h)) (by decide +kernel))
set_option maxRecDepth 20000 in
theorem gX5_word_X5_checkRange : GoodIn wsX5_word (va_wsS RX5 51 yX5_checkRange wsX5_checkRange) := goodIn_app (goodIn_of _ (by decide +kernel)) ggX5_word_X5_checkRange
set_option maxRecDepth 20000 in
theorem ggX5_word_X5_wordValue : GoodIn wsX5_word wsX5_wordValue := goodIn_r _ [17, 18, 1, 19, 20, 21, 22, 23, 24, 25, 26, 27, 28, 29, 30, 31, 32, 33, 34, 35, 36, 37, 38, 39, 40, 41, 42, 43, 5, 44, 45, 46, 47, 48, 49, 50, 51, 52, 53, 54, 55, 56, 57, 58, 59, 60, 61, 62, 63, 64, 65, 66, 67, 68, 69, 70, 71, 72, 73, 83, 84, 85, 86, 87, 88, 89, 74, 75, 76, 77, 78, 79, 80, 81, 82] (by decide +kernel) (by decide +kernel)
set_option maxRecDepth 20000 in
theorem gX5_word_X5_wordValue : GoodIn wsX5_word (wsV RX5 117 RX5 yX5_wordValue wsX5_wordValue) := goodIn_app (goodIn_of _ (by decide +kernel)) ggX5_word_X5_wordValue
theorem dX5_word_0 : decode cX5_word 0 = .ok (.iload_n 1, 1) := by decide +kernel
theorem dX5_word_1 : decode cX5_word 1 = .ok (.aload_n 0, 1) := by decide +kernel
theorem dX5_word_2 : decode cX5_word 2 = .ok (.getfield 10, 3) := by decide +kernel
theorem dX5_word_5 : decode cX5_word 5 = .ok (.getfield 43, 3) := by decide +kernel
theorem dX5_word_8 : decode cX5_word 8 = .ok (.invokestatic 47, 3) := by decide +kernel
theorem dX5_word_11 : decode cX5_word 11 = .ok (.iload_n 2, 1) := by decide +kernel
theorem dX5_word_12 : decode cX5_word 12 = .ok (.iconst 0, 1) := by decide +kernel
theorem dX5_word_13 : decode cX5_word 13 = .ok (.bipush 8, 2) := by decide +kernel
theorem dX5_word_15 : decode cX5_word 15 = .ok (.invokestatic 51, 3) := by decide +kernel
theorem dX5_word_18 : decode cX5_word 18 = .ok (.aload_n 0, 1) := by decide +kernel
theorem dX5_word_19 : decode cX5_word 19 = .ok (.iload_n 1, 1) := by decide +kernel
theorem dX5_word_20 : decode cX5_word 20 = .ok (.iload_n 2, 1) := by decide +kernel
theorem dX5_word_21 : decode cX5_word 21 = .ok (.invokevirtual 117, 3) := by decide +kernel
theorem dX5_word_24 : decode cX5_word 24 = .ok (.ireturn, 1) := by decide +kernel
set_option maxRecDepth 20000 in
theorem ggX5_line_X5_checkIndex : GoodIn wsX5_line wsX5_checkIndex := goodIn_ca (goodIn_r _ [6, 7, 8] (by decide +kernel) (by decide +kernel)) (goodIn_sub (fun _ h => List.mem_cons_of_mem _ (List.mem_append_left _ (List.mem_append_right _ h))) (by decide +kernel))
set_option maxRecDepth 20000 in
theorem gX5_line_X5_checkIndex : GoodIn wsX5_line (va_wsS RX5 47 yX5_checkIndex wsX5_checkIndex) := goodIn_app (goodIn_of _ (by decide +kernel)) ggX5_line_X5_checkIndex
set_option maxRecDepth 20000 in
theorem ggX5_line_X5_checkRange : GoodIn wsX5_line wsX5_checkRange := goodIn_ca (goodIn_r _ [11, 12, 13] (by decide +kernel) (by decide +kernel)) (goodIn_sub (fun _ h => List.mem_cons_of_mem _ (List.mem_append_right _ h)) (by decide +kernel))
set_option maxRecDepth 20000 in
theorem gX5_line_X5_checkRange : GoodIn wsX5_line (va_wsS RX5 51 yX5_checkRange wsX5_checkRange) := goodIn_app (goodIn_of _ (by decide +kernel)) ggX5_line_X5_checkRange
set_option maxRecDepth 20000 in
theorem ggX5_line_X1_lineValue : GoodIn wsX5_line wsX1_lineValue := goodIn_r _ [18, 19, 26, 27, 28, 29, 30, 31, 32] (by decide +kernel) (by decide +kernel)
set_option maxRecDepth 20000 in
theorem gX5_line_X1_lineValue : GoodIn wsX5_line (wsV RX5 124 RX1 yX1_lineValue wsX1_lineValue) := goodIn_app (goodIn_of _ (by decide +kernel)) ggX5_line_X1_lineValue
theorem dX5_line_0 : decode cX5_line 0 = .ok (.iload_n 1, 1) := by decide +kernel
theorem dX5_line_1 : decode cX5_line 1 = .ok (.aload_n 0, 1) := by decide +kernel
theorem dX5_line_2 : decode cX5_line 2 = .ok (.getfield 19, 3) := by decide +kernel
theorem dX5_line_5 : decode cX5_line 5 = .ok (.getfield 121, 3) := by decide +kernel
theorem dX5_line_8 : decode cX5_line 8 = .ok (.invokestatic 47, 3) := by decide +kernel
theorem dX5_line_11 : decode cX5_line 11 = .ok (.iload_n 2, 1) := by decide +kernel
theorem dX5_line_12 : decode cX5_line 12 = .ok (.iconst 0, 1) := by decide +kernel
theorem dX5_line_13 : decode cX5_line 13 = .ok (.bipush 11, 2) := by decide +kernel
theorem dX5_line_15 : decode cX5_line 15 = .ok (.invokestatic 51, 3) := by decide +kernel
theorem dX5_line_18 : decode cX5_line 18 = .ok (.aload_n 0, 1) := by decide +kernel
theorem dX5_line_19 : decode cX5_line 19 = .ok (.getfield 19, 3) := by decide +kernel
theorem dX5_line_22 : decode cX5_line 22 = .ok (.iload_n 1, 1) := by decide +kernel
theorem dX5_line_23 : decode cX5_line 23 = .ok (.iload_n 2, 1) := by decide +kernel
theorem dX5_line_24 : decode cX5_line 24 = .ok (.invokevirtual 124, 3) := by decide +kernel
theorem dX5_line_27 : decode cX5_line 27 = .ok (.ireturn, 1) := by decide +kernel
set_option maxRecDepth 20000 in
theorem ggX5_page_X5_checkIndex : GoodIn wsX5_page wsX5_checkIndex := goodIn_ca (goodIn_r _ [6, 7, 8] (by decide +kernel) (by decide +kernel)) (goodIn_sub (fun _ h => List.mem_cons_of_mem _ (List.mem_append_left _ (List.mem_append_right _ h))) (by decide +kernel))
set_option maxRecDepth 20000 in
theorem gX5_page_X5_checkIndex : GoodIn wsX5_page (va_wsS RX5 47 yX5_checkIndex wsX5_checkIndex) := goodIn_app (goodIn_of _ (by decide +kernel)) ggX5_page_X5_checkIndex
set_option maxRecDepth 20000 in
theorem ggX5_page_X5_checkRange : GoodIn wsX5_page wsX5_checkRange := goodIn_ca (goodIn_r _ [11, 12, 13] (by decide +kernel) (by decide +kernel)) (goodIn_sub (fun _ h => List.mem_cons_of_mem _ (List.mem_append_right _ h)) (by decide +kernel))
set_option maxRecDepth 20000 in
theorem gX5_page_X5_checkRange : GoodIn wsX5_page (va_wsS RX5 51 yX5_checkRange wsX5_checkRange) := goodIn_app (goodIn_of _ (by decide +kernel)) ggX5_page_X5_checkRange
set_option maxRecDepth 20000 in
theorem ggX5_page_X1_pageValue : GoodIn wsX5_page wsX1_pageValue := goodIn_r _ [18, 19, 26, 27, 28, 29, 30, 31, 32] (by decide +kernel) (by decide +kernel)
set_option maxRecDepth 20000 in
theorem gX5_page_X1_pageValue : GoodIn wsX5_page (wsV RX5 130 RX1 yX1_pageValue wsX1_pageValue) := goodIn_app (goodIn_of _ (by decide +kernel)) ggX5_page_X1_pageValue
theorem dX5_page_0 : decode cX5_page 0 = .ok (.iload_n 1, 1) := by decide +kernel
theorem dX5_page_1 : decode cX5_page 1 = .ok (.aload_n 0, 1) := by decide +kernel
theorem dX5_page_2 : decode cX5_page 2 = .ok (.getfield 19, 3) := by decide +kernel
theorem dX5_page_5 : decode cX5_page 5 = .ok (.getfield 127, 3) := by decide +kernel
theorem dX5_page_8 : decode cX5_page 8 = .ok (.invokestatic 47, 3) := by decide +kernel
theorem dX5_page_11 : decode cX5_page 11 = .ok (.iload_n 2, 1) := by decide +kernel
theorem dX5_page_12 : decode cX5_page 12 = .ok (.iconst 0, 1) := by decide +kernel
theorem dX5_page_13 : decode cX5_page 13 = .ok (.iconst 5, 1) := by decide +kernel
theorem dX5_page_14 : decode cX5_page 14 = .ok (.invokestatic 51, 3) := by decide +kernel
theorem dX5_page_17 : decode cX5_page 17 = .ok (.aload_n 0, 1) := by decide +kernel
theorem dX5_page_18 : decode cX5_page 18 = .ok (.getfield 19, 3) := by decide +kernel
theorem dX5_page_21 : decode cX5_page 21 = .ok (.iload_n 1, 1) := by decide +kernel
theorem dX5_page_22 : decode cX5_page 22 = .ok (.iload_n 2, 1) := by decide +kernel
theorem dX5_page_23 : decode cX5_page 23 = .ok (.invokevirtual 130, 3) := by decide +kernel
theorem dX5_page_26 : decode cX5_page 26 = .ok (.ireturn, 1) := by decide +kernel
set_option maxRecDepth 20000 in
theorem ggX5_whole_X5_checkRange : GoodIn wsX5_whole wsX5_checkRange := goodIn_ca (goodIn_r _ [4, 5, 6] (by decide +kernel) (by decide +kernel)) (goodIn_sub (fun _ h => List.mem_cons_of_mem _ (List.mem_append_right _ h)) (by decide +kernel))
set_option maxRecDepth 20000 in
theorem gX5_whole_X5_checkRange : GoodIn wsX5_whole (va_wsS RX5 51 yX5_checkRange wsX5_checkRange) := goodIn_app (goodIn_of _ (by decide +kernel)) ggX5_whole_X5_checkRange
set_option maxRecDepth 20000 in
theorem ggX5_whole_X5_wholeValue : GoodIn wsX5_whole wsX5_wholeValue := goodIn_r _ [10, 11, 12, 13, 14, 15, 16, 17, 18, 19, 20, 21, 22, 23, 24, 25, 26, 27, 28, 29, 30, 31, 32, 33, 34, 35, 36, 37, 38, 39, 40, 41, 42, 43, 44, 45, 46, 47, 48, 49, 50, 51, 52, 53, 54, 55, 56, 57, 58, 59, 60, 61, 62, 63, 64, 65, 66, 67, 68, 69, 70, 71, 72, 73, 74, 75, 76, 77, 78, 79, 80, 81] (by decide +kernel) (by decide +kernel)
set_option maxRecDepth 20000 in
theorem gX5_whole_X5_wholeValue : GoodIn wsX5_whole (wsV RX5 133 RX5 yX5_wholeValue wsX5_wholeValue) := goodIn_app (goodIn_of _ (by decide +kernel)) ggX5_whole_X5_wholeValue
theorem dX5_whole_0 : decode cX5_whole 0 = .ok (.iload_n 1, 1) := by decide +kernel
theorem dX5_whole_1 : decode cX5_whole 1 = .ok (.iconst 0, 1) := by decide +kernel
theorem dX5_whole_2 : decode cX5_whole 2 = .ok (.bipush 13, 2) := by decide +kernel
theorem dX5_whole_4 : decode cX5_whole 4 = .ok (.invokestatic 51, 3) := by decide +kernel
theorem dX5_whole_7 : decode cX5_whole 7 = .ok (.aload_n 0, 1) := by decide +kernel
theorem dX5_whole_8 : decode cX5_whole 8 = .ok (.iload_n 1, 1) := by decide +kernel
theorem dX5_whole_9 : decode cX5_whole 9 = .ok (.invokevirtual 133, 3) := by decide +kernel
theorem dX5_whole_12 : decode cX5_whole 12 = .ok (.ireturn, 1) := by decide +kernel
set_option maxRecDepth 20000 in
theorem ggX5_share_X5_checkIndex : GoodIn wsX5_share wsX5_checkIndex := goodIn_ca (goodIn_r _ [5, 6, 7] (by decide +kernel) (by decide +kernel)) (goodIn_sub (fun _ h => List.mem_cons_of_mem _ (List.mem_append_right _ h)) (by decide +kernel))
set_option maxRecDepth 20000 in
theorem gX5_share_X5_checkIndex : GoodIn wsX5_share (va_wsS RX5 47 yX5_checkIndex wsX5_checkIndex) := goodIn_app (goodIn_of _ (by decide +kernel)) ggX5_share_X5_checkIndex
set_option maxRecDepth 20000 in
theorem ggX5_share_X3_shareOf : GoodIn wsX5_share wsX3_shareOf := goodIn_r _ [12, 13, 20, 21, 22, 23, 24, 25, 26, 27, 28] (by decide +kernel) (by decide +kernel)
set_option maxRecDepth 20000 in
theorem gX5_share_X3_shareOf : GoodIn wsX5_share (wsV RX5 111 RX3 yX3_shareOf wsX3_shareOf) := goodIn_app (goodIn_of _ (by decide +kernel)) ggX5_share_X3_shareOf
theorem dX5_share_0 : decode cX5_share 0 = .ok (.iload_n 1, 1) := by decide +kernel
theorem dX5_share_1 : decode cX5_share 1 = .ok (.bipush 8, 2) := by decide +kernel
theorem dX5_share_3 : decode cX5_share 3 = .ok (.invokestatic 47, 3) := by decide +kernel
theorem dX5_share_6 : decode cX5_share 6 = .ok (.aload_n 0, 1) := by decide +kernel
theorem dX5_share_7 : decode cX5_share 7 = .ok (.getfield 10, 3) := by decide +kernel
theorem dX5_share_10 : decode cX5_share 10 = .ok (.iload_n 1, 1) := by decide +kernel
theorem dX5_share_11 : decode cX5_share 11 = .ok (.invokevirtual 111, 3) := by decide +kernel
theorem dX5_share_14 : decode cX5_share 14 = .ok (.ireturn, 1) := by decide +kernel
set_option maxRecDepth 20000 in
theorem ggX5_unevenness_X1_squaresOfEmpty : GoodIn wsX5_unevenness wsX1_squaresOfEmpty := goodIn_r _ [6, 7, 8, 9, 10, 5, 11, 12, 19, 20, 21, 22, 23, 24, 25] (by decide +kernel) (by decide +kernel)
set_option maxRecDepth 20000 in
theorem gX5_unevenness_X1_squaresOfEmpty : GoodIn wsX5_unevenness (wsV RX5 136 RX1 yX1_squaresOfEmpty wsX1_squaresOfEmpty) := goodIn_app (goodIn_of _ (by decide +kernel)) ggX5_unevenness_X1_squaresOfEmpty
theorem dX5_unevenness_0 : decode cX5_unevenness 0 = .ok (.aload_n 0, 1) := by decide +kernel
theorem dX5_unevenness_1 : decode cX5_unevenness 1 = .ok (.getfield 19, 3) := by decide +kernel
theorem dX5_unevenness_4 : decode cX5_unevenness 4 = .ok (.invokevirtual 136, 3) := by decide +kernel
theorem dX5_unevenness_7 : decode cX5_unevenness 7 = .ok (.ireturn, 1) := by decide +kernel
set_option maxRecDepth 20000 in
theorem ggX5_meanEmpty_X1_sumOf : GoodIn wsX5_meanEmpty wsX1_sumOf := goodIn_r _ [7, 8, 9, 10, 11, 6, 12, 13, 20, 21, 22, 23, 24, 25, 26] (by decide +kernel) (by decide +kernel)
set_option maxRecDepth 20000 in
theorem gX5_meanEmpty_X1_sumOf : GoodIn wsX5_meanEmpty (wsV RX5 140 RX1 yX1_sumOf wsX1_sumOf) := goodIn_app (goodIn_of _ (by decide +kernel)) ggX5_meanEmpty_X1_sumOf
theorem dX5_meanEmpty_0 : decode cX5_meanEmpty 0 = .ok (.aload_n 0, 1) := by decide +kernel
theorem dX5_meanEmpty_1 : decode cX5_meanEmpty 1 = .ok (.getfield 19, 3) := by decide +kernel
theorem dX5_meanEmpty_4 : decode cX5_meanEmpty 4 = .ok (.getfield 121, 3) := by decide +kernel
theorem dX5_meanEmpty_7 : decode cX5_meanEmpty 7 = .ok (.ifCond .gt 5, 3) := by decide +kernel
theorem dX5_meanEmpty_10 : decode cX5_meanEmpty 10 = .ok (.dconst 0, 1) := by decide +kernel
theorem dX5_meanEmpty_11 : decode cX5_meanEmpty 11 = .ok (.dreturn, 1) := by decide +kernel
theorem dX5_meanEmpty_12 : decode cX5_meanEmpty 12 = .ok (.aload_n 0, 1) := by decide +kernel
theorem dX5_meanEmpty_13 : decode cX5_meanEmpty 13 = .ok (.getfield 19, 3) := by decide +kernel
theorem dX5_meanEmpty_16 : decode cX5_meanEmpty 16 = .ok (.bipush 11, 2) := by decide +kernel
theorem dX5_meanEmpty_18 : decode cX5_meanEmpty 18 = .ok (.invokevirtual 140, 3) := by decide +kernel
theorem dX5_meanEmpty_21 : decode cX5_meanEmpty 21 = .ok (.i2d, 1) := by decide +kernel
theorem dX5_meanEmpty_22 : decode cX5_meanEmpty 22 = .ok (.aload_n 0, 1) := by decide +kernel
theorem dX5_meanEmpty_23 : decode cX5_meanEmpty 23 = .ok (.getfield 19, 3) := by decide +kernel
theorem dX5_meanEmpty_26 : decode cX5_meanEmpty 26 = .ok (.getfield 121, 3) := by decide +kernel
theorem dX5_meanEmpty_29 : decode cX5_meanEmpty 29 = .ok (.i2d, 1) := by decide +kernel
theorem dX5_meanEmpty_30 : decode cX5_meanEmpty 30 = .ok (.ddiv, 1) := by decide +kernel
theorem dX5_meanEmpty_31 : decode cX5_meanEmpty 31 = .ok (.dreturn, 1) := by decide +kernel
set_option maxRecDepth 20000 in
theorem ggX5_linesWith_X5_checkRange : GoodIn wsX5_linesWith wsX5_checkRange := goodIn_ca (goodIn_r _ [6, 7, 8] (by decide +kernel) (by decide +kernel)) (goodIn_sub (fun _ h => List.mem_cons_of_mem _ (List.mem_append_right _ h)) (by decide +kernel))
set_option maxRecDepth 20000 in
theorem gX5_linesWith_X5_checkRange : GoodIn wsX5_linesWith (va_wsS RX5 51 yX5_checkRange wsX5_checkRange) := goodIn_app (goodIn_of _ (by decide +kernel)) ggX5_linesWith_X5_checkRange
set_option maxRecDepth 20000 in
theorem ggX5_linesWith_X5_tryMeasure : GoodIn wsX5_linesWith wsX5_tryMeasure := goodIn_r _ [12, 1, 13, 14, 15, 16, 17, 18, 19, 20, 21, 22, 23, 24, 25, 26, 27, 28, 29, 30, 31, 32, 33, 34, 35, 36, 37, 38, 39, 40, 41, 42, 43, 44, 45, 46, 47, 48, 49, 50, 51, 52, 53, 54, 55, 56, 57, 58, 59, 60, 61, 62, 63, 64, 65, 66, 67, 68, 69, 5, 70, 71, 72, 73, 74, 75, 76, 77, 78, 79, 80, 81, 82, 83, 84, 85, 86, 87, 88, 89, 90, 91, 92, 93, 94, 95, 96, 97, 98, 99, 100, 101, 102, 103, 104, 105, 106, 107, 108, 109, 110, 111, 112, 113, 114, 115, 116, 117, 118, 119, 120, 121, 122, 123, 124, 125, 126, 127, 128, 129, 130, 131, 132, 133, 134, 135, 136, 137, 138, 139, 140, 141, 142, 143, 144, 145, 146, 147, 148, 149, 150, 151, 159, 160, 161, 162, 163, 164, 165, 166, 167, 152, 153, 154, 155, 156, 157, 158, 168, 169, 170, 171, 172, 173, 174, 175] (by decide +kernel) (by decide +kernel)
set_option maxRecDepth 20000 in
theorem gX5_linesWith_X5_tryMeasure : GoodIn wsX5_linesWith (wsV RX5 143 RX5 yX5_tryMeasure wsX5_tryMeasure) := goodIn_app (goodIn_of _ (by decide +kernel)) ggX5_linesWith_X5_tryMeasure
theorem dX5_linesWith_0 : decode cX5_linesWith 0 = .ok (.iload_n 1, 1) := by decide +kernel
theorem dX5_linesWith_1 : decode cX5_linesWith 1 = .ok (.bipush 20, 2) := by decide +kernel
theorem dX5_linesWith_3 : decode cX5_linesWith 3 = .ok (.sipush 200, 3) := by decide +kernel
theorem dX5_linesWith_6 : decode cX5_linesWith 6 = .ok (.invokestatic 51, 3) := by decide +kernel
theorem dX5_linesWith_9 : decode cX5_linesWith 9 = .ok (.aload_n 0, 1) := by decide +kernel
theorem dX5_linesWith_10 : decode cX5_linesWith 10 = .ok (.iload_n 1, 1) := by decide +kernel
theorem dX5_linesWith_11 : decode cX5_linesWith 11 = .ok (.invokevirtual 143, 3) := by decide +kernel
theorem dX5_linesWith_14 : decode cX5_linesWith 14 = .ok (.aload_n 0, 1) := by decide +kernel
theorem dX5_linesWith_15 : decode cX5_linesWith 15 = .ok (.getfield 23, 3) := by decide +kernel
theorem dX5_linesWith_18 : decode cX5_linesWith 18 = .ok (.getfield 121, 3) := by decide +kernel
theorem dX5_linesWith_21 : decode cX5_linesWith 21 = .ok (.ireturn, 1) := by decide +kernel
set_option maxRecDepth 20000 in
theorem ggX5_measureFor_X5_checkRange : GoodIn wsX5_measureFor wsX5_checkRange := goodIn_ca (goodIn_r _ [6, 7, 8] (by decide +kernel) (by decide +kernel)) (goodIn_sub (fun _ h => List.mem_cons_of_mem _ (List.mem_append_right _ h)) (by decide +kernel))
set_option maxRecDepth 20000 in
theorem gX5_measureFor_X5_checkRange : GoodIn wsX5_measureFor (va_wsS RX5 51 yX5_checkRange wsX5_checkRange) := goodIn_app (goodIn_of _ (by decide +kernel)) ggX5_measureFor_X5_checkRange
set_option maxRecDepth 20000 in
theorem ggX5_measureFor_X5_tryMeasure : GoodIn wsX5_measureFor wsX5_tryMeasure := goodIn_r _ [12, 1, 13, 14, 15, 16, 17, 18, 19, 20, 21, 22, 23, 24, 25, 26, 27, 28, 29, 30, 31, 32, 33, 34, 35, 36, 37, 38, 39, 40, 41, 42, 43, 44, 45, 46, 47, 48, 49, 50, 51, 52, 53, 54, 55, 56, 57, 58, 59, 60, 61, 62, 63, 64, 65, 66, 67, 68, 69, 5, 70, 71, 72, 73, 74, 75, 76, 77, 78, 79, 80, 81, 82, 83, 84, 85, 86, 87, 88, 89, 90, 91, 92, 93, 94, 95, 96, 97, 98, 99, 100, 101, 102, 103, 104, 105, 106, 107, 108, 109, 110, 111, 112, 113, 114, 115, 116, 117, 118, 119, 120, 121, 122, 123, 124, 125, 126, 127, 128, 129, 130, 131, 132, 133, 134, 135, 136, 137, 138, 139, 140, 141, 142, 143, 144, 145, 146, 147, 148, 149, 150, 151, 159, 160, 161, 162, 163, 164, 165, 166, 167, 152, 153, 154, 155, 156, 157, 158, 168, 169, 170, 171, 172, 173, 174, 175] (by decide +kernel) (by decide +kernel)
set_option maxRecDepth 20000 in
theorem gX5_measureFor_X5_tryMeasure : GoodIn wsX5_measureFor (wsV RX5 143 RX5 yX5_tryMeasure wsX5_tryMeasure) := goodIn_app (goodIn_of _ (by decide +kernel)) ggX5_measureFor_X5_tryMeasure
theorem dX5_measureFor_0 : decode cX5_measureFor 0 = .ok (.iload_n 1, 1) := by decide +kernel
theorem dX5_measureFor_1 : decode cX5_measureFor 1 = .ok (.iconst 1, 1) := by decide +kernel
theorem dX5_measureFor_2 : decode cX5_measureFor 2 = .ok (.bipush 60, 2) := by decide +kernel
theorem dX5_measureFor_4 : decode cX5_measureFor 4 = .ok (.invokestatic 51, 3) := by decide +kernel
theorem dX5_measureFor_7 : decode cX5_measureFor 7 = .ok (.bipush 20, 2) := by decide +kernel
theorem dX5_measureFor_9 : decode cX5_measureFor 9 = .ok (.istore_n 2, 1) := by decide +kernel
theorem dX5_measureFor_10 : decode cX5_measureFor 10 = .ok (.iload_n 2, 1) := by decide +kernel
theorem dX5_measureFor_11 : decode cX5_measureFor 11 = .ok (.sipush 200, 3) := by decide +kernel
theorem dX5_measureFor_14 : decode cX5_measureFor 14 = .ok (.if_icmp .gt 27, 3) := by decide +kernel
theorem dX5_measureFor_17 : decode cX5_measureFor 17 = .ok (.aload_n 0, 1) := by decide +kernel
theorem dX5_measureFor_18 : decode cX5_measureFor 18 = .ok (.iload_n 2, 1) := by decide +kernel
theorem dX5_measureFor_19 : decode cX5_measureFor 19 = .ok (.invokevirtual 143, 3) := by decide +kernel
theorem dX5_measureFor_22 : decode cX5_measureFor 22 = .ok (.aload_n 0, 1) := by decide +kernel
theorem dX5_measureFor_23 : decode cX5_measureFor 23 = .ok (.getfield 23, 3) := by decide +kernel
theorem dX5_measureFor_26 : decode cX5_measureFor 26 = .ok (.getfield 121, 3) := by decide +kernel
theorem dX5_measureFor_29 : decode cX5_measureFor 29 = .ok (.iload_n 1, 1) := by decide +kernel
theorem dX5_measureFor_30 : decode cX5_measureFor 30 = .ok (.if_icmp .gt 5, 3) := by decide +kernel
theorem dX5_measureFor_33 : decode cX5_measureFor 33 = .ok (.iload_n 2, 1) := by decide +kernel
theorem dX5_measureFor_34 : decode cX5_measureFor 34 = .ok (.ireturn, 1) := by decide +kernel
theorem dX5_measureFor_35 : decode cX5_measureFor 35 = .ok (.iinc 2 1, 3) := by decide +kernel
theorem dX5_measureFor_38 : decode cX5_measureFor 38 = .ok (.goto (-28), 3) := by decide +kernel
theorem dX5_measureFor_41 : decode cX5_measureFor 41 = .ok (.iconst (-1), 1) := by decide +kernel
theorem dX5_measureFor_42 : decode cX5_measureFor 42 = .ok (.ireturn, 1) := by decide +kernel
set_option maxRecDepth 20000 in
theorem ggX5_linesUnlent_X3_setting : GoodIn wsX5_linesUnlent wsX3_setting := goodIn_r _ [8, 9, 150, 151, 152, 153, 154, 155, 156, 157, 158] (by decide +kernel) (by decide +kernel)
set_option maxRecDepth 20000 in
theorem gX5_linesUnlent_X3_setting : GoodIn wsX5_linesUnlent (wsV RX5 105 RX3 yX3_setting wsX3_setting) := goodIn_app (goodIn_of _ (by decide +kernel)) ggX5_linesUnlent_X3_setting
set_option maxRecDepth 20000 in
theorem ggX5_linesUnlent_X1_arrange : GoodIn wsX5_linesUnlent wsX1_arrange := goodIn_r _ [14, 15, 16, 17, 18, 19, 20, 21, 22, 23, 24, 25, 26, 13, 27, 28, 29, 30, 31, 32, 33, 34, 35, 36, 37, 38, 39, 40, 41, 42, 43, 44, 45, 46, 47, 48, 49, 7, 50, 51, 52, 53, 54, 55, 56, 57, 58, 59, 60, 61, 62, 63, 64, 65, 66, 67, 68, 69, 70, 71, 72, 73, 74, 75, 76, 77, 78, 79, 80, 81, 82, 83, 84, 85, 86, 87, 88, 89, 90, 91, 92, 93, 94, 95, 96, 97, 98, 99, 100, 101, 102, 103, 104, 105, 106, 107, 108, 109, 110, 111, 112, 113, 114, 115, 116, 117, 118, 119, 120, 121, 122, 123, 124, 125, 126, 127, 128, 129, 130, 131, 132, 133, 134, 135, 136, 150, 151, 152, 153, 154, 155, 156, 157, 158, 143, 144, 145, 146, 147, 148, 149, 159, 160, 161, 162, 163, 164, 165, 166] (by decide +kernel) (by decide +kernel)
set_option maxRecDepth 20000 in
theorem gX5_linesUnlent_X1_arrange : GoodIn wsX5_linesUnlent (wsV RX5 146 RX1 yX1_arrange wsX1_arrange) := goodIn_app (goodIn_of _ (by decide +kernel)) ggX5_linesUnlent_X1_arrange
theorem dX5_linesUnlent_0 : decode cX5_linesUnlent 0 = .ok (.aload_n 0, 1) := by decide +kernel
theorem dX5_linesUnlent_1 : decode cX5_linesUnlent 1 = .ok (.getfield 23, 3) := by decide +kernel
theorem dX5_linesUnlent_4 : decode cX5_linesUnlent 4 = .ok (.aload_n 0, 1) := by decide +kernel
theorem dX5_linesUnlent_5 : decode cX5_linesUnlent 5 = .ok (.getfield 10, 3) := by decide +kernel
theorem dX5_linesUnlent_8 : decode cX5_linesUnlent 8 = .ok (.aload_n 0, 1) := by decide +kernel
theorem dX5_linesUnlent_9 : decode cX5_linesUnlent 9 = .ok (.getfield 10, 3) := by decide +kernel
theorem dX5_linesUnlent_12 : decode cX5_linesUnlent 12 = .ok (.iconst 0, 1) := by decide +kernel
theorem dX5_linesUnlent_13 : decode cX5_linesUnlent 13 = .ok (.invokevirtual 105, 3) := by decide +kernel
theorem dX5_linesUnlent_16 : decode cX5_linesUnlent 16 = .ok (.iconst 0, 1) := by decide +kernel
theorem dX5_linesUnlent_17 : decode cX5_linesUnlent 17 = .ok (.iconst 0, 1) := by decide +kernel
theorem dX5_linesUnlent_18 : decode cX5_linesUnlent 18 = .ok (.invokevirtual 146, 3) := by decide +kernel
theorem dX5_linesUnlent_21 : decode cX5_linesUnlent 21 = .ok (.aload_n 0, 1) := by decide +kernel
theorem dX5_linesUnlent_22 : decode cX5_linesUnlent 22 = .ok (.getfield 23, 3) := by decide +kernel
theorem dX5_linesUnlent_25 : decode cX5_linesUnlent 25 = .ok (.getfield 121, 3) := by decide +kernel
theorem dX5_linesUnlent_28 : decode cX5_linesUnlent 28 = .ok (.ireturn, 1) := by decide +kernel
set_option maxRecDepth 20000 in
theorem ggX5_evenest_X5_checkRange : GoodIn wsX5_evenest wsX5_checkRange := goodIn_ca (goodIn_r _ [14, 15, 16] (by decide +kernel) (by decide +kernel)) (goodIn_sub (fun _ h => List.mem_cons_of_mem _ (List.mem_append_right _ h)) (by decide +kernel))
set_option maxRecDepth 20000 in
theorem gX5_evenest_X5_checkRange : GoodIn wsX5_evenest (va_wsS RX5 51 yX5_checkRange wsX5_checkRange) := goodIn_app (goodIn_of _ (by decide +kernel)) ggX5_evenest_X5_checkRange
set_option maxRecDepth 20000 in
theorem ggX5_evenest_X3_setting : GoodIn wsX5_evenest wsX3_setting := goodIn_r _ [21, 22, 158, 159, 160, 161, 162, 163, 164, 165, 166] (by decide +kernel) (by decide +kernel)
set_option maxRecDepth 20000 in
theorem gX5_evenest_X3_setting : GoodIn wsX5_evenest (wsV RX5 105 RX3 yX3_setting wsX3_setting) := goodIn_app (goodIn_of _ (by decide +kernel)) ggX5_evenest_X3_setting
set_option maxRecDepth 20000 in
theorem ggX5_evenest_X5_tryMeasure : GoodIn wsX5_evenest wsX5_tryMeasure := goodIn_r _ [26, 10, 1, 17, 18, 19, 20, 21, 22, 27, 28, 29, 30, 31, 32, 33, 34, 35, 36, 37, 38, 39, 40, 41, 42, 43, 44, 45, 46, 47, 48, 49, 50, 51, 52, 53, 3, 4, 5, 54, 55, 56, 57, 8, 9, 58, 59, 60, 61, 62, 63, 64, 65, 66, 67, 68, 69, 70, 71, 13, 72, 73, 74, 75, 76, 77, 78, 79, 80, 81, 82, 83, 84, 85, 86, 87, 88, 89, 90, 91, 92, 93, 94, 95, 96, 97, 98, 99, 100, 101, 102, 103, 104, 105, 106, 107, 108, 109, 110, 111, 112, 113, 114, 115, 116, 117, 118, 119, 120, 121, 122, 123, 124, 125, 126, 127, 128, 129, 130, 131, 132, 133, 134, 135, 136, 137, 138, 139, 140, 141, 142, 143, 144, 145, 146, 147, 152, 153, 154, 155, 156, 157, 158, 159, 160, 161, 162, 163, 164, 165, 166, 167, 168, 169, 170, 171, 172, 173, 174, 175, 176, 177, 178, 179, 180, 181] (by decide +kernel) (by decide +kernel)
set_option maxRecDepth 20000 in
theorem gX5_evenest_X5_tryMeasure : GoodIn wsX5_evenest (wsV RX5 143 RX5 yX5_tryMeasure wsX5_tryMeasure) := goodIn_app (goodIn_of _ (by decide +kernel)) ggX5_evenest_X5_tryMeasure
set_option maxRecDepth 20000 in
theorem ggX5_evenest_X1_squaresOfEmpty : GoodIn wsX5_evenest wsX1_squaresOfEmpty := goodIn_r _ [151, 38, 135, 136, 137, 30, 138, 118, 167, 168, 169, 170, 171, 172, 173] (by decide +kernel) (by decide +kernel)
set_option maxRecDepth 20000 in
theorem gX5_evenest_X1_squaresOfEmpty : GoodIn wsX5_evenest (wsV RX5 136 RX1 yX1_squaresOfEmpty wsX1_squaresOfEmpty) := goodIn_app (goodIn_of _ (by decide +kernel)) ggX5_evenest_X1_squaresOfEmpty
theorem dX5_evenest_0 : decode cX5_evenest 0 = .ok (.iload_n 1, 1) := by decide +kernel
theorem dX5_evenest_1 : decode cX5_evenest 1 = .ok (.iconst 0, 1) := by decide +kernel
theorem dX5_evenest_2 : decode cX5_evenest 2 = .ok (.bipush 20, 2) := by decide +kernel
theorem dX5_evenest_4 : decode cX5_evenest 4 = .ok (.invokestatic 51, 3) := by decide +kernel
theorem dX5_evenest_7 : decode cX5_evenest 7 = .ok (.aload_n 0, 1) := by decide +kernel
theorem dX5_evenest_8 : decode cX5_evenest 8 = .ok (.getfield 10, 3) := by decide +kernel
theorem dX5_evenest_11 : decode cX5_evenest 11 = .ok (.iconst 0, 1) := by decide +kernel
theorem dX5_evenest_12 : decode cX5_evenest 12 = .ok (.invokevirtual 105, 3) := by decide +kernel
theorem dX5_evenest_15 : decode cX5_evenest 15 = .ok (.istore_n 2, 1) := by decide +kernel
theorem dX5_evenest_16 : decode cX5_evenest 16 = .ok (.sipush 200, 3) := by decide +kernel
theorem dX5_evenest_19 : decode cX5_evenest 19 = .ok (.iload_n 2, 1) := by decide +kernel
theorem dX5_evenest_20 : decode cX5_evenest 20 = .ok (.iload_n 1, 1) := by decide +kernel
theorem dX5_evenest_21 : decode cX5_evenest 21 = .ok (.iadd, 1) := by decide +kernel
theorem dX5_evenest_22 : decode cX5_evenest 22 = .ok (.invokestatic 150, 3) := by decide +kernel
theorem dX5_evenest_25 : decode cX5_evenest 25 = .ok (.istore_n 3, 1) := by decide +kernel
theorem dX5_evenest_26 : decode cX5_evenest 26 = .ok (.iload_n 2, 1) := by decide +kernel
theorem dX5_evenest_27 : decode cX5_evenest 27 = .ok (.istore 4, 2) := by decide +kernel
theorem dX5_evenest_29 : decode cX5_evenest 29 = .ok (.ldc 157, 2) := by decide +kernel
theorem dX5_evenest_31 : decode cX5_evenest 31 = .ok (.istore 5, 2) := by decide +kernel
theorem dX5_evenest_33 : decode cX5_evenest 33 = .ok (.bipush 20, 2) := by decide +kernel
theorem dX5_evenest_35 : decode cX5_evenest 35 = .ok (.iload_n 2, 1) := by decide +kernel
theorem dX5_evenest_36 : decode cX5_evenest 36 = .ok (.iload_n 1, 1) := by decide +kernel
theorem dX5_evenest_37 : decode cX5_evenest 37 = .ok (.isub, 1) := by decide +kernel
theorem dX5_evenest_38 : decode cX5_evenest 38 = .ok (.invokestatic 158, 3) := by decide +kernel
theorem dX5_evenest_41 : decode cX5_evenest 41 = .ok (.istore 6, 2) := by decide +kernel
theorem dX5_evenest_43 : decode cX5_evenest 43 = .ok (.iload 6, 2) := by decide +kernel
theorem dX5_evenest_45 : decode cX5_evenest 45 = .ok (.iload_n 3, 1) := by decide +kernel
theorem dX5_evenest_46 : decode cX5_evenest 46 = .ok (.if_icmp .gt 39, 3) := by decide +kernel
theorem dX5_evenest_49 : decode cX5_evenest 49 = .ok (.aload_n 0, 1) := by decide +kernel
theorem dX5_evenest_50 : decode cX5_evenest 50 = .ok (.iload 6, 2) := by decide +kernel
theorem dX5_evenest_52 : decode cX5_evenest 52 = .ok (.invokevirtual 143, 3) := by decide +kernel
theorem dX5_evenest_55 : decode cX5_evenest 55 = .ok (.aload_n 0, 1) := by decide +kernel
theorem dX5_evenest_56 : decode cX5_evenest 56 = .ok (.getfield 23, 3) := by decide +kernel
theorem dX5_evenest_59 : decode cX5_evenest 59 = .ok (.invokevirtual 136, 3) := by decide +kernel
theorem dX5_evenest_62 : decode cX5_evenest 62 = .ok (.istore 7, 2) := by decide +kernel
theorem dX5_evenest_64 : decode cX5_evenest 64 = .ok (.iload 7, 2) := by decide +kernel
theorem dX5_evenest_66 : decode cX5_evenest 66 = .ok (.iload 5, 2) := by decide +kernel
theorem dX5_evenest_68 : decode cX5_evenest 68 = .ok (.if_icmp .ge 11, 3) := by decide +kernel
theorem dX5_evenest_71 : decode cX5_evenest 71 = .ok (.iload 7, 2) := by decide +kernel
theorem dX5_evenest_73 : decode cX5_evenest 73 = .ok (.istore 5, 2) := by decide +kernel
theorem dX5_evenest_75 : decode cX5_evenest 75 = .ok (.iload 6, 2) := by decide +kernel
theorem dX5_evenest_77 : decode cX5_evenest 77 = .ok (.istore 4, 2) := by decide +kernel
theorem dX5_evenest_79 : decode cX5_evenest 79 = .ok (.iinc 6 1, 3) := by decide +kernel
theorem dX5_evenest_82 : decode cX5_evenest 82 = .ok (.goto (-39), 3) := by decide +kernel
theorem dX5_evenest_85 : decode cX5_evenest 85 = .ok (.iload 4, 2) := by decide +kernel
theorem dX5_evenest_87 : decode cX5_evenest 87 = .ok (.ireturn, 1) := by decide +kernel
set_option maxRecDepth 20000 in
theorem ggX5_type_X5_checkRange : GoodIn wsX5_type wsX5_checkRange := goodIn_ca (goodIn_r _ [8, 9, 10] (by decide +kernel) (by decide +kernel)) (goodIn_sub (fun _ h => List.mem_cons_of_mem _ (List.mem_append_right _ h)) (by decide +kernel))
set_option maxRecDepth 20000 in
theorem gX5_type_X5_checkRange : GoodIn wsX5_type (va_wsS RX5 51 yX5_checkRange wsX5_checkRange) := goodIn_app (goodIn_of _ (by decide +kernel)) ggX5_type_X5_checkRange
set_option maxRecDepth 20000 in
theorem ggX5_type_X4_append : GoodIn wsX5_type wsX4_append := goodIn_r _ [15, 16, 17, 24, 25, 26] (by decide +kernel) (by decide +kernel)
set_option maxRecDepth 20000 in
theorem gX5_type_X4_append : GoodIn wsX5_type (wsV RX5 166 RX4 yX4_append wsX4_append) := goodIn_app (goodIn_of _ (by decide +kernel)) ggX5_type_X4_append
theorem dX5_type_0 : decode cX5_type 0 = .ok (.iload_n 1, 1) := by decide +kernel
theorem dX5_type_1 : decode cX5_type 1 = .ok (.iconst 0, 1) := by decide +kernel
theorem dX5_type_2 : decode cX5_type 2 = .ok (.bipush 127, 2) := by decide +kernel
theorem dX5_type_4 : decode cX5_type 4 = .ok (.invokestatic 51, 3) := by decide +kernel
theorem dX5_type_7 : decode cX5_type 7 = .ok (.aload_n 0, 1) := by decide +kernel
theorem dX5_type_8 : decode cX5_type 8 = .ok (.getfield 29, 3) := by decide +kernel
theorem dX5_type_11 : decode cX5_type 11 = .ok (.getfield 161, 3) := by decide +kernel
theorem dX5_type_14 : decode cX5_type 14 = .ok (.sipush 200, 3) := by decide +kernel
theorem dX5_type_17 : decode cX5_type 17 = .ok (.if_icmp .lt 13, 3) := by decide +kernel
theorem dX5_type_20 : decode cX5_type 20 = .ok (.new 58, 3) := by decide +kernel
theorem dX5_type_23 : decode cX5_type 23 = .ok (.dup, 1) := by decide +kernel
theorem dX5_type_24 : decode cX5_type 24 = .ok (.ldc 164, 2) := by decide +kernel
theorem dX5_type_26 : decode cX5_type 26 = .ok (.invokespecial 62, 3) := by decide +kernel
theorem dX5_type_29 : decode cX5_type 29 = .ok (.athrow, 1) := by decide +kernel
theorem dX5_type_30 : decode cX5_type 30 = .ok (.aload_n 0, 1) := by decide +kernel
theorem dX5_type_31 : decode cX5_type 31 = .ok (.getfield 29, 3) := by decide +kernel
theorem dX5_type_34 : decode cX5_type 34 = .ok (.iload_n 1, 1) := by decide +kernel
theorem dX5_type_35 : decode cX5_type 35 = .ok (.invokevirtual 166, 3) := by decide +kernel
theorem dX5_type_38 : decode cX5_type 38 = .ok (.aload_n 0, 1) := by decide +kernel
theorem dX5_type_39 : decode cX5_type 39 = .ok (.getfield 29, 3) := by decide +kernel
theorem dX5_type_42 : decode cX5_type 42 = .ok (.getfield 161, 3) := by decide +kernel
theorem dX5_type_45 : decode cX5_type 45 = .ok (.ireturn, 1) := by decide +kernel
theorem dX5_clearText_0 : decode cX5_clearText 0 = .ok (.aload_n 0, 1) := by decide +kernel
theorem dX5_clearText_1 : decode cX5_clearText 1 = .ok (.getfield 29, 3) := by decide +kernel
theorem dX5_clearText_4 : decode cX5_clearText 4 = .ok (.getfield 161, 3) := by decide +kernel
theorem dX5_clearText_7 : decode cX5_clearText 7 = .ok (.istore_n 1, 1) := by decide +kernel
theorem dX5_clearText_8 : decode cX5_clearText 8 = .ok (.aload_n 0, 1) := by decide +kernel
theorem dX5_clearText_9 : decode cX5_clearText 9 = .ok (.getfield 29, 3) := by decide +kernel
theorem dX5_clearText_12 : decode cX5_clearText 12 = .ok (.iconst 0, 1) := by decide +kernel
theorem dX5_clearText_13 : decode cX5_clearText 13 = .ok (.putfield 161, 3) := by decide +kernel
theorem dX5_clearText_16 : decode cX5_clearText 16 = .ok (.iload_n 1, 1) := by decide +kernel
theorem dX5_clearText_17 : decode cX5_clearText 17 = .ok (.ireturn, 1) := by decide +kernel
set_option maxRecDepth 20000 in
theorem ggX5_readWords_X4_readInto : GoodIn wsX5_readWords wsX4_readInto := goodIn_r _ [10, 11, 12, 13, 14, 15, 16, 17, 9, 18, 19, 20, 21, 22, 23, 24, 25, 26, 27, 28, 29, 30, 31, 32, 33, 34, 35, 36, 37, 38, 39, 40, 41, 42, 43, 44, 45, 46, 47, 48, 49, 50, 51, 52, 53, 54, 55, 56, 57, 58, 59, 60, 61, 62, 63, 64, 65, 66, 67, 68, 69, 70, 71, 72, 73, 74, 75, 76, 77, 78, 79, 228, 229, 230, 231, 232, 233, 234, 235, 236, 237, 238, 239] (by decide +kernel) (by decide +kernel)
set_option maxRecDepth 20000 in
theorem gX5_readWords_X4_readInto : GoodIn wsX5_readWords (wsV RX5 169 RX4 yX4_readInto wsX4_readInto) := goodIn_app (goodIn_of _ (by decide +kernel)) ggX5_readWords_X4_readInto
set_option maxRecDepth 20000 in
theorem ggX5_readWords_X0_save : GoodIn wsX5_readWords wsX0_save := goodIn_r _ [84, 85, 86, 87, 88, 83, 89, 90, 91, 92, 93, 94, 95, 96, 97, 26, 98, 99, 43, 44, 45, 46, 100, 101, 102, 103, 104, 28, 42, 29, 30, 31, 32, 33, 240, 241, 228, 229, 230, 231, 232, 233, 234, 235, 236] (by decide +kernel) (by decide +kernel)
set_option maxRecDepth 20000 in
theorem gX5_readWords_X0_save : GoodIn wsX5_readWords (wsV RX5 65 RX0 yX0_save wsX0_save) := goodIn_app (goodIn_of _ (by decide +kernel)) ggX5_readWords_X0_save
set_option maxRecDepth 20000 in
theorem ggX5_readWords_X3_takeWords : GoodIn wsX5_readWords wsX3_takeWords := goodIn_r _ [104, 28, 42, 43, 44, 45, 46, 29, 30, 31, 32, 33, 228, 229, 230, 231, 232, 233, 234, 235, 236] (by decide +kernel) (by decide +kernel)
set_option maxRecDepth 20000 in
theorem gX5_readWords_X3_takeWords : GoodIn wsX5_readWords (wsV RX5 173 RX3 yX3_takeWords wsX3_takeWords) := goodIn_app (goodIn_of _ (by decide +kernel)) ggX5_readWords_X3_takeWords
set_option maxRecDepth 20000 in
theorem ggX5_readWords_X5_setLines : GoodIn wsX5_readWords wsX5_setLines := goodIn_r _ [109, 110, 4, 111, 112, 113, 26, 114, 99, 115, 116, 117, 118, 119, 120, 121, 122, 44, 45, 46, 123, 124, 125, 126, 127, 128, 129, 130, 131, 132, 133, 134, 135, 136, 137, 138, 139, 40, 140, 141, 142, 143, 144, 39, 41, 145, 146, 147, 148, 149, 30, 31, 32, 54, 55, 56, 57, 28, 150, 48, 151, 152, 153, 154, 155, 156, 157, 158, 159, 160, 161, 162, 69, 70, 71, 163, 164, 165, 166, 167, 168, 169, 170, 100, 171, 172, 173, 174, 175, 176, 177, 178, 179, 180, 181, 182, 33, 183, 184, 185, 186, 187, 188, 189, 190, 191, 192, 193, 194, 195, 196, 197, 198, 199, 200, 201, 202, 203, 204, 205, 206, 207, 208, 209, 210, 211, 212, 213, 214, 215, 216, 217, 218, 219, 220, 221, 222, 223, 224, 225, 226, 227, 228, 229, 230, 231, 232, 233, 234, 235, 236, 242, 243, 244, 245, 246, 247, 248, 249, 250, 251, 252, 253, 254, 255, 256] (by decide +kernel) (by decide +kernel)
set_option maxRecDepth 20000 in
theorem gX5_readWords_X5_setLines : GoodIn wsX5_readWords (wsV RX5 80 RX5 yX5_setLines wsX5_setLines) := goodIn_app (goodIn_of _ (by decide +kernel)) ggX5_readWords_X5_setLines
theorem dX5_readWords_0 : decode cX5_readWords 0 = .ok (.aload_n 0, 1) := by decide +kernel
theorem dX5_readWords_1 : decode cX5_readWords 1 = .ok (.getfield 29, 3) := by decide +kernel
theorem dX5_readWords_4 : decode cX5_readWords 4 = .ok (.aload_n 0, 1) := by decide +kernel
theorem dX5_readWords_5 : decode cX5_readWords 5 = .ok (.getfield 33, 3) := by decide +kernel
theorem dX5_readWords_8 : decode cX5_readWords 8 = .ok (.invokevirtual 169, 3) := by decide +kernel
theorem dX5_readWords_11 : decode cX5_readWords 11 = .ok (.istore_n 1, 1) := by decide +kernel
theorem dX5_readWords_12 : decode cX5_readWords 12 = .ok (.iload_n 1, 1) := by decide +kernel
theorem dX5_readWords_13 : decode cX5_readWords 13 = .ok (.iconst (-1), 1) := by decide +kernel
theorem dX5_readWords_14 : decode cX5_readWords 14 = .ok (.if_icmp .eq 8, 3) := by decide +kernel
theorem dX5_readWords_17 : decode cX5_readWords 17 = .ok (.bipush (-10), 2) := by decide +kernel
theorem dX5_readWords_19 : decode cX5_readWords 19 = .ok (.iload_n 1, 1) := by decide +kernel
theorem dX5_readWords_20 : decode cX5_readWords 20 = .ok (.isub, 1) := by decide +kernel
theorem dX5_readWords_21 : decode cX5_readWords 21 = .ok (.ireturn, 1) := by decide +kernel
theorem dX5_readWords_22 : decode cX5_readWords 22 = .ok (.aload_n 0, 1) := by decide +kernel
theorem dX5_readWords_23 : decode cX5_readWords 23 = .ok (.getfield 39, 3) := by decide +kernel
theorem dX5_readWords_26 : decode cX5_readWords 26 = .ok (.aload_n 0, 1) := by decide +kernel
theorem dX5_readWords_27 : decode cX5_readWords 27 = .ok (.getfield 10, 3) := by decide +kernel
theorem dX5_readWords_30 : decode cX5_readWords 30 = .ok (.invokevirtual 65, 3) := by decide +kernel
theorem dX5_readWords_33 : decode cX5_readWords 33 = .ok (.aload_n 0, 1) := by decide +kernel
theorem dX5_readWords_34 : decode cX5_readWords 34 = .ok (.getfield 10, 3) := by decide +kernel
theorem dX5_readWords_37 : decode cX5_readWords 37 = .ok (.aload_n 0, 1) := by decide +kernel
theorem dX5_readWords_38 : decode cX5_readWords 38 = .ok (.getfield 33, 3) := by decide +kernel
theorem dX5_readWords_41 : decode cX5_readWords 41 = .ok (.invokevirtual 173, 3) := by decide +kernel
theorem dX5_readWords_44 : decode cX5_readWords 44 = .ok (.aload_n 0, 1) := by decide +kernel
theorem dX5_readWords_45 : decode cX5_readWords 45 = .ok (.invokevirtual 80, 3) := by decide +kernel
theorem dX5_readWords_48 : decode cX5_readWords 48 = .ok (.aload_n 0, 1) := by decide +kernel
theorem dX5_readWords_49 : decode cX5_readWords 49 = .ok (.getfield 10, 3) := by decide +kernel
theorem dX5_readWords_52 : decode cX5_readWords 52 = .ok (.getfield 43, 3) := by decide +kernel
theorem dX5_readWords_55 : decode cX5_readWords 55 = .ok (.ireturn, 1) := by decide +kernel
set_option maxRecDepth 20000 in
theorem ggX5_lineByte_X5_checkIndex : GoodIn wsX5_lineByte wsX5_checkIndex := goodIn_ca (goodIn_r _ [8, 9, 10] (by decide +kernel) (by decide +kernel)) (goodIn_sub (fun _ h => List.mem_cons_of_mem _ (List.mem_append_right _ h)) (by decide +kernel))
set_option maxRecDepth 20000 in
theorem gX5_lineByte_X5_checkIndex : GoodIn wsX5_lineByte (va_wsS RX5 47 yX5_checkIndex wsX5_checkIndex) := goodIn_app (goodIn_of _ (by decide +kernel)) ggX5_lineByte_X5_checkIndex
set_option maxRecDepth 20000 in
theorem ggX5_lineByte_X5_writtenByte : GoodIn wsX5_lineByte wsX5_writtenByte := goodIn_r _ [14, 3, 15, 16, 17, 18, 19, 20, 21, 22, 23, 24, 25, 26, 27, 28, 29, 30, 31, 32, 33, 34, 35, 36, 37, 38, 39, 40, 41, 42, 43, 44, 45, 46, 47, 48, 49, 50, 51, 52, 7, 53, 54, 55, 56, 57, 58, 59, 60, 61, 62, 63, 64, 65, 66, 67, 68, 69, 70, 71, 72, 73, 74, 75, 76] (by decide +kernel) (by decide +kernel)
set_option maxRecDepth 20000 in
theorem gX5_lineByte_X5_writtenByte : GoodIn wsX5_lineByte (wsV RX5 181 RX5 yX5_writtenByte wsX5_writtenByte) := goodIn_app (goodIn_of _ (by decide +kernel)) ggX5_lineByte_X5_writtenByte
theorem dX5_lineByte_0 : decode cX5_lineByte 0 = .ok (.iload_n 1, 1) := by decide +kernel
theorem dX5_lineByte_1 : decode cX5_lineByte 1 = .ok (.aload_n 0, 1) := by decide +kernel
theorem dX5_lineByte_2 : decode cX5_lineByte 2 = .ok (.getfield 19, 3) := by decide +kernel
theorem dX5_lineByte_5 : decode cX5_lineByte 5 = .ok (.getfield 121, 3) := by decide +kernel
theorem dX5_lineByte_8 : decode cX5_lineByte 8 = .ok (.invokestatic 47, 3) := by decide +kernel
theorem dX5_lineByte_11 : decode cX5_lineByte 11 = .ok (.iload_n 2, 1) := by decide +kernel
theorem dX5_lineByte_12 : decode cX5_lineByte 12 = .ok (.ifCond .ge 13, 3) := by decide +kernel
theorem dX5_lineByte_15 : decode cX5_lineByte 15 = .ok (.new 176, 3) := by decide +kernel
theorem dX5_lineByte_18 : decode cX5_lineByte 18 = .ok (.dup, 1) := by decide +kernel
theorem dX5_lineByte_19 : decode cX5_lineByte 19 = .ok (.ldc 178, 2) := by decide +kernel
theorem dX5_lineByte_21 : decode cX5_lineByte 21 = .ok (.invokespecial 180, 3) := by decide +kernel
theorem dX5_lineByte_24 : decode cX5_lineByte 24 = .ok (.athrow, 1) := by decide +kernel
theorem dX5_lineByte_25 : decode cX5_lineByte 25 = .ok (.aload_n 0, 1) := by decide +kernel
theorem dX5_lineByte_26 : decode cX5_lineByte 26 = .ok (.iload_n 1, 1) := by decide +kernel
theorem dX5_lineByte_27 : decode cX5_lineByte 27 = .ok (.iload_n 2, 1) := by decide +kernel
theorem dX5_lineByte_28 : decode cX5_lineByte 28 = .ok (.invokevirtual 181, 3) := by decide +kernel
theorem dX5_lineByte_31 : decode cX5_lineByte 31 = .ok (.ireturn, 1) := by decide +kernel
set_option maxRecDepth 20000 in
theorem ggX5_undo_X0_restore : GoodIn wsX5_undo wsX0_restore := goodIn_r _ [10, 11, 12, 13, 14, 9, 15, 16, 17, 18, 19, 20, 21, 22, 23, 24, 25, 26, 27, 28, 29, 30, 31, 32, 33, 34, 35, 36, 37, 38, 172, 173, 174, 175, 176, 177, 178, 179, 180, 181, 182] (by decide +kernel) (by decide +kernel)
set_option maxRecDepth 20000 in
theorem gX5_undo_X0_restore : GoodIn wsX5_undo (wsV RX5 187 RX0 yX0_restore wsX0_restore) := goodIn_app (goodIn_of _ (by decide +kernel)) ggX5_undo_X0_restore
set_option maxRecDepth 20000 in
theorem ggX5_undo_X5_setLines : GoodIn wsX5_undo wsX5_setLines := goodIn_r _ [43, 44, 5, 45, 46, 47, 20, 48, 22, 49, 50, 51, 52, 53, 54, 55, 56, 24, 25, 26, 57, 58, 59, 60, 61, 62, 63, 64, 65, 66, 67, 68, 69, 70, 71, 72, 73, 74, 75, 76, 77, 78, 79, 80, 81, 82, 83, 84, 85, 86, 35, 36, 37, 87, 88, 89, 90, 32, 91, 42, 92, 93, 94, 95, 96, 97, 98, 99, 100, 101, 102, 103, 104, 105, 106, 107, 108, 109, 110, 111, 112, 113, 114, 27, 115, 116, 117, 118, 119, 120, 121, 122, 123, 124, 125, 126, 38, 127, 128, 129, 130, 131, 132, 133, 134, 135, 136, 137, 138, 139, 140, 141, 142, 143, 144, 145, 146, 147, 148, 149, 150, 151, 152, 153, 154, 155, 156, 157, 158, 159, 160, 161, 162, 163, 164, 165, 166, 167, 168, 169, 170, 171, 174, 175, 176, 177, 178, 179, 180, 181, 182, 183, 184, 185, 186, 187, 188, 189, 190, 191, 192, 193, 194, 195, 196, 197] (by decide +kernel) (by decide +kernel)
set_option maxRecDepth 20000 in
theorem gX5_undo_X5_setLines : GoodIn wsX5_undo (wsV RX5 80 RX5 yX5_setLines wsX5_setLines) := goodIn_app (goodIn_of _ (by decide +kernel)) ggX5_undo_X5_setLines
theorem dX5_undo_0 : decode cX5_undo 0 = .ok (.aload_n 0, 1) := by decide +kernel
theorem dX5_undo_1 : decode cX5_undo 1 = .ok (.getfield 39, 3) := by decide +kernel
theorem dX5_undo_4 : decode cX5_undo 4 = .ok (.getfield 184, 3) := by decide +kernel
theorem dX5_undo_7 : decode cX5_undo 7 = .ok (.ifCond .gt 13, 3) := by decide +kernel
theorem dX5_undo_10 : decode cX5_undo 10 = .ok (.new 58, 3) := by decide +kernel
theorem dX5_undo_13 : decode cX5_undo 13 = .ok (.dup, 1) := by decide +kernel
theorem dX5_undo_14 : decode cX5_undo 14 = .ok (.ldc 185, 2) := by decide +kernel
theorem dX5_undo_16 : decode cX5_undo 16 = .ok (.invokespecial 62, 3) := by decide +kernel
theorem dX5_undo_19 : decode cX5_undo 19 = .ok (.athrow, 1) := by decide +kernel
theorem dX5_undo_20 : decode cX5_undo 20 = .ok (.aload_n 0, 1) := by decide +kernel
theorem dX5_undo_21 : decode cX5_undo 21 = .ok (.getfield 39, 3) := by decide +kernel
theorem dX5_undo_24 : decode cX5_undo 24 = .ok (.aload_n 0, 1) := by decide +kernel
theorem dX5_undo_25 : decode cX5_undo 25 = .ok (.getfield 10, 3) := by decide +kernel
theorem dX5_undo_28 : decode cX5_undo 28 = .ok (.invokevirtual 187, 3) := by decide +kernel
theorem dX5_undo_31 : decode cX5_undo 31 = .ok (.aload_n 0, 1) := by decide +kernel
theorem dX5_undo_32 : decode cX5_undo 32 = .ok (.invokevirtual 80, 3) := by decide +kernel
theorem dX5_undo_35 : decode cX5_undo 35 = .ok (.aload_n 0, 1) := by decide +kernel
theorem dX5_undo_36 : decode cX5_undo 36 = .ok (.getfield 39, 3) := by decide +kernel
theorem dX5_undo_39 : decode cX5_undo 39 = .ok (.getfield 184, 3) := by decide +kernel
theorem dX5_undo_42 : decode cX5_undo 42 = .ok (.ireturn, 1) := by decide +kernel
set_option maxRecDepth 20000 in
theorem ggX5_digest_X5_mix : GoodIn wsX5_digest wsX5_mix := goodIn_r _ [8, 9] (by decide +kernel) (by decide +kernel)
set_option maxRecDepth 20000 in
theorem gX5_digest_X5_mix : GoodIn wsX5_digest (va_wsS RX5 192 yX5_mix wsX5_mix) := goodIn_app (goodIn_of _ (by decide +kernel)) ggX5_digest_X5_mix
set_option maxRecDepth 20000 in
theorem ggX5_digest_X5_wholeValue : GoodIn wsX5_digest wsX5_wholeValue := goodIn_r _ [13, 4, 14, 15, 16, 17, 18, 19, 20, 21, 22, 23, 24, 25, 26, 27, 28, 29, 30, 31, 32, 33, 34, 35, 36, 37, 38, 39, 40, 41, 42, 43, 44, 45, 46, 47, 48, 49, 50, 51, 52, 53, 54, 55, 56, 57, 58, 149, 150, 151, 152, 153, 154, 157, 158, 159, 160, 161, 162, 163, 164, 165, 166, 167, 168, 169, 170, 171, 172, 173, 174, 175] (by decide +kernel) (by decide +kernel)
set_option maxRecDepth 20000 in
theorem gX5_digest_X5_wholeValue : GoodIn wsX5_digest (wsV RX5 133 RX5 yX5_wholeValue wsX5_wholeValue) := goodIn_app (goodIn_of _ (by decide +kernel)) ggX5_digest_X5_wholeValue
set_option maxRecDepth 20000 in
theorem ggX5_digest_X3_shareOf : GoodIn wsX5_digest wsX3_shareOf := goodIn_r _ [62, 63, 157, 158, 159, 160, 161, 162, 163, 164, 165] (by decide +kernel) (by decide +kernel)
set_option maxRecDepth 20000 in
theorem gX5_digest_X3_shareOf : GoodIn wsX5_digest (wsV RX5 111 RX3 yX3_shareOf wsX3_shareOf) := goodIn_app (goodIn_of _ (by decide +kernel)) ggX5_digest_X3_shareOf
set_option maxRecDepth 20000 in
theorem ggX5_digest_X5_mixWords : GoodIn wsX5_digest wsX5_mixWords := goodIn_r _ [67, 4, 14, 68, 69, 70, 7, 71, 15, 72, 73, 74, 38, 75, 76, 77, 78, 79, 23, 80, 81, 31, 32, 33, 34, 25, 82, 83, 84, 85, 86, 87, 88, 89, 90, 91, 92, 93, 94, 95, 96, 97, 98, 99, 100, 101, 102, 103, 30, 104, 46, 47, 48, 49, 105, 106, 107, 108, 5, 6, 8, 9, 149, 150, 151, 152, 153, 154, 157, 158, 159, 160, 161, 162, 163, 164, 165, 166, 167, 168, 169, 170, 171, 172] (by decide +kernel) (by decide +kernel)
set_option maxRecDepth 20000 in
theorem gX5_digest_X5_mixWords : GoodIn wsX5_digest (wsV RX5 196 RX5 yX5_mixWords wsX5_mixWords) := goodIn_app (goodIn_of _ (by decide +kernel)) ggX5_digest_X5_mixWords
set_option maxRecDepth 20000 in
theorem ggX5_digest_X5_mixLines : GoodIn wsX5_digest wsX5_mixLines := goodIn_r _ [112, 15, 16, 104, 46, 47, 38, 48, 49, 5, 6, 7, 8, 9, 113, 114, 115, 116, 117, 118, 119, 120, 4, 121, 122, 123, 23, 124, 125, 93, 94, 95, 87, 31, 32, 33, 34, 25, 126, 97, 98, 99, 88, 127, 78, 79, 80, 81, 128, 129, 130, 131, 132, 133, 134, 135, 136, 137, 138, 139, 149, 150, 151, 152, 153, 154, 166, 167, 168, 169, 170, 171, 172, 157, 158, 159, 160, 161, 162, 163, 164, 165] (by decide +kernel) (by decide +kernel)
set_option maxRecDepth 20000 in
theorem gX5_digest_X5_mixLines : GoodIn wsX5_digest (wsV RX5 200 RX5 yX5_mixLines wsX5_mixLines) := goodIn_app (goodIn_of _ (by decide +kernel)) ggX5_digest_X5_mixLines
set_option maxRecDepth 20000 in
theorem ggX5_digest_X5_mixPages : GoodIn wsX5_digest wsX5_mixPages := goodIn_r _ [143, 15, 17, 144, 145, 146, 38, 147, 148, 5, 6, 7, 8, 9, 149, 150, 151, 152, 153, 154, 166, 167, 168, 169, 170, 171, 172] (by decide +kernel) (by decide +kernel)
set_option maxRecDepth 20000 in
theorem gX5_digest_X5_mixPages : GoodIn wsX5_digest (wsV RX5 203 RX5 yX5_mixPages wsX5_mixPages) := goodIn_app (goodIn_of _ (by decide +kernel)) ggX5_digest_X5_mixPages
theorem dX5_digest_0 : decode cX5_digest 0 = .ok (.ldc2_w 190, 3) := by decide +kernel
theorem dX5_digest_3 : decode cX5_digest 3 = .ok (.aload_n 0, 1) := by decide +kernel
theorem dX5_digest_4 : decode cX5_digest 4 = .ok (.getfield 39, 3) := by decide +kernel
theorem dX5_digest_7 : decode cX5_digest 7 = .ok (.getfield 184, 3) := by decide +kernel
theorem dX5_digest_10 : decode cX5_digest 10 = .ok (.invokestatic 192, 3) := by decide +kernel
theorem dX5_digest_13 : decode cX5_digest 13 = .ok (.lstore_n 1, 1) := by decide +kernel
theorem dX5_digest_14 : decode cX5_digest 14 = .ok (.iconst 0, 1) := by decide +kernel
theorem dX5_digest_15 : decode cX5_digest 15 = .ok (.istore_n 3, 1) := by decide +kernel
theorem dX5_digest_16 : decode cX5_digest 16 = .ok (.iload_n 3, 1) := by decide +kernel
theorem dX5_digest_17 : decode cX5_digest 17 = .ok (.bipush 14, 2) := by decide +kernel
theorem dX5_digest_19 : decode cX5_digest 19 = .ok (.if_icmp .ge 19, 3) := by decide +kernel
theorem dX5_digest_22 : decode cX5_digest 22 = .ok (.lload_n 1, 1) := by decide +kernel
theorem dX5_digest_23 : decode cX5_digest 23 = .ok (.aload_n 0, 1) := by decide +kernel
theorem dX5_digest_24 : decode cX5_digest 24 = .ok (.iload_n 3, 1) := by decide +kernel
theorem dX5_digest_25 : decode cX5_digest 25 = .ok (.invokevirtual 133, 3) := by decide +kernel
theorem dX5_digest_28 : decode cX5_digest 28 = .ok (.invokestatic 192, 3) := by decide +kernel
theorem dX5_digest_31 : decode cX5_digest 31 = .ok (.lstore_n 1, 1) := by decide +kernel
theorem dX5_digest_32 : decode cX5_digest 32 = .ok (.iinc 3 1, 3) := by decide +kernel
theorem dX5_digest_35 : decode cX5_digest 35 = .ok (.goto (-19), 3) := by decide +kernel
theorem dX5_digest_38 : decode cX5_digest 38 = .ok (.iconst 0, 1) := by decide +kernel
theorem dX5_digest_39 : decode cX5_digest 39 = .ok (.istore_n 3, 1) := by decide +kernel
theorem dX5_digest_40 : decode cX5_digest 40 = .ok (.iload_n 3, 1) := by decide +kernel
theorem dX5_digest_41 : decode cX5_digest 41 = .ok (.bipush 8, 2) := by decide +kernel
theorem dX5_digest_43 : decode cX5_digest 43 = .ok (.if_icmp .ge 22, 3) := by decide +kernel
theorem dX5_digest_46 : decode cX5_digest 46 = .ok (.lload_n 1, 1) := by decide +kernel
theorem dX5_digest_47 : decode cX5_digest 47 = .ok (.aload_n 0, 1) := by decide +kernel
theorem dX5_digest_48 : decode cX5_digest 48 = .ok (.getfield 10, 3) := by decide +kernel
theorem dX5_digest_51 : decode cX5_digest 51 = .ok (.iload_n 3, 1) := by decide +kernel
theorem dX5_digest_52 : decode cX5_digest 52 = .ok (.invokevirtual 111, 3) := by decide +kernel
theorem dX5_digest_55 : decode cX5_digest 55 = .ok (.invokestatic 192, 3) := by decide +kernel
theorem dX5_digest_58 : decode cX5_digest 58 = .ok (.lstore_n 1, 1) := by decide +kernel
theorem dX5_digest_59 : decode cX5_digest 59 = .ok (.iinc 3 1, 3) := by decide +kernel
theorem dX5_digest_62 : decode cX5_digest 62 = .ok (.goto (-22), 3) := by decide +kernel
theorem dX5_digest_65 : decode cX5_digest 65 = .ok (.aload_n 0, 1) := by decide +kernel
theorem dX5_digest_66 : decode cX5_digest 66 = .ok (.lload_n 1, 1) := by decide +kernel
theorem dX5_digest_67 : decode cX5_digest 67 = .ok (.invokevirtual 196, 3) := by decide +kernel
theorem dX5_digest_70 : decode cX5_digest 70 = .ok (.lstore_n 1, 1) := by decide +kernel
theorem dX5_digest_71 : decode cX5_digest 71 = .ok (.aload_n 0, 1) := by decide +kernel
theorem dX5_digest_72 : decode cX5_digest 72 = .ok (.lload_n 1, 1) := by decide +kernel
theorem dX5_digest_73 : decode cX5_digest 73 = .ok (.invokevirtual 200, 3) := by decide +kernel
theorem dX5_digest_76 : decode cX5_digest 76 = .ok (.lstore_n 1, 1) := by decide +kernel
theorem dX5_digest_77 : decode cX5_digest 77 = .ok (.aload_n 0, 1) := by decide +kernel
theorem dX5_digest_78 : decode cX5_digest 78 = .ok (.lload_n 1, 1) := by decide +kernel
theorem dX5_digest_79 : decode cX5_digest 79 = .ok (.invokevirtual 203, 3) := by decide +kernel
theorem dX5_digest_82 : decode cX5_digest 82 = .ok (.lreturn, 1) := by decide +kernel
theorem dX5_checkIndex_0 : decode cX5_checkIndex 0 = .ok (.iload_n 0, 1) := by decide +kernel
theorem dX5_checkIndex_1 : decode cX5_checkIndex 1 = .ok (.ifCond .lt 8, 3) := by decide +kernel
theorem dX5_checkIndex_4 : decode cX5_checkIndex 4 = .ok (.iload_n 0, 1) := by decide +kernel
theorem dX5_checkIndex_5 : decode cX5_checkIndex 5 = .ok (.iload_n 1, 1) := by decide +kernel
theorem dX5_checkIndex_6 : decode cX5_checkIndex 6 = .ok (.if_icmp .lt 13, 3) := by decide +kernel
theorem dX5_checkIndex_9 : decode cX5_checkIndex 9 = .ok (.new 206, 3) := by decide +kernel
theorem dX5_checkIndex_12 : decode cX5_checkIndex 12 = .ok (.dup, 1) := by decide +kernel
theorem dX5_checkIndex_13 : decode cX5_checkIndex 13 = .ok (.ldc 208, 2) := by decide +kernel
theorem dX5_checkIndex_15 : decode cX5_checkIndex 15 = .ok (.invokespecial 210, 3) := by decide +kernel
theorem dX5_checkIndex_18 : decode cX5_checkIndex 18 = .ok (.athrow, 1) := by decide +kernel
theorem dX5_checkIndex_19 : decode cX5_checkIndex 19 = .ok (.return_, 1) := by decide +kernel
theorem dX5_checkRange_0 : decode cX5_checkRange 0 = .ok (.iload_n 0, 1) := by decide +kernel
theorem dX5_checkRange_1 : decode cX5_checkRange 1 = .ok (.iload_n 1, 1) := by decide +kernel
theorem dX5_checkRange_2 : decode cX5_checkRange 2 = .ok (.if_icmp .lt 8, 3) := by decide +kernel
theorem dX5_checkRange_5 : decode cX5_checkRange 5 = .ok (.iload_n 0, 1) := by decide +kernel
theorem dX5_checkRange_6 : decode cX5_checkRange 6 = .ok (.iload_n 2, 1) := by decide +kernel
theorem dX5_checkRange_7 : decode cX5_checkRange 7 = .ok (.if_icmp .le 13, 3) := by decide +kernel
theorem dX5_checkRange_10 : decode cX5_checkRange 10 = .ok (.new 176, 3) := by decide +kernel
theorem dX5_checkRange_13 : decode cX5_checkRange 13 = .ok (.dup, 1) := by decide +kernel
theorem dX5_checkRange_14 : decode cX5_checkRange 14 = .ok (.ldc 211, 2) := by decide +kernel
theorem dX5_checkRange_16 : decode cX5_checkRange 16 = .ok (.invokespecial 180, 3) := by decide +kernel
theorem dX5_checkRange_19 : decode cX5_checkRange 19 = .ok (.athrow, 1) := by decide +kernel
theorem dX5_checkRange_20 : decode cX5_checkRange 20 = .ok (.return_, 1) := by decide +kernel
set_option maxRecDepth 20000 in
theorem ggX5_checkSigns_X5_mayStandAhead : GoodIn wsX5_checkSigns wsX5_mayStandAhead := goodIn_r _ [6] (by decide +kernel) (by decide +kernel)
set_option maxRecDepth 20000 in
theorem gX5_checkSigns_X5_mayStandAhead : GoodIn wsX5_checkSigns (va_wsS RX5 213 yX5_mayStandAhead wsX5_mayStandAhead) := goodIn_app (goodIn_of _ (by decide +kernel)) ggX5_checkSigns_X5_mayStandAhead
set_option maxRecDepth 20000 in
theorem ggX5_checkSigns_X5_mayStandBehind : GoodIn wsX5_checkSigns wsX5_mayStandBehind := goodIn_r _ [9] (by decide +kernel) (by decide +kernel)
set_option maxRecDepth 20000 in
theorem gX5_checkSigns_X5_mayStandBehind : GoodIn wsX5_checkSigns (va_wsS RX5 216 yX5_mayStandBehind wsX5_mayStandBehind) := goodIn_app (goodIn_of _ (by decide +kernel)) ggX5_checkSigns_X5_mayStandBehind
theorem dX5_checkSigns_0 : decode cX5_checkSigns 0 = .ok (.iload_n 0, 1) := by decide +kernel
theorem dX5_checkSigns_1 : decode cX5_checkSigns 1 = .ok (.iconst (-1), 1) := by decide +kernel
theorem dX5_checkSigns_2 : decode cX5_checkSigns 2 = .ok (.if_icmp .eq 10, 3) := by decide +kernel
theorem dX5_checkSigns_5 : decode cX5_checkSigns 5 = .ok (.iload_n 0, 1) := by decide +kernel
theorem dX5_checkSigns_6 : decode cX5_checkSigns 6 = .ok (.invokestatic 213, 3) := by decide +kernel
theorem dX5_checkSigns_9 : decode cX5_checkSigns 9 = .ok (.ifCond .eq 15, 3) := by decide +kernel
theorem dX5_checkSigns_12 : decode cX5_checkSigns 12 = .ok (.iload_n 1, 1) := by decide +kernel
theorem dX5_checkSigns_13 : decode cX5_checkSigns 13 = .ok (.iconst (-1), 1) := by decide +kernel
theorem dX5_checkSigns_14 : decode cX5_checkSigns 14 = .ok (.if_icmp .eq 20, 3) := by decide +kernel
theorem dX5_checkSigns_17 : decode cX5_checkSigns 17 = .ok (.iload_n 1, 1) := by decide +kernel
theorem dX5_checkSigns_18 : decode cX5_checkSigns 18 = .ok (.invokestatic 216, 3) := by decide +kernel
theorem dX5_checkSigns_21 : decode cX5_checkSigns 21 = .ok (.ifCond .ne 13, 3) := by decide +kernel
theorem dX5_checkSigns_24 : decode cX5_checkSigns 24 = .ok (.new 176, 3) := by decide +kernel
theorem dX5_checkSigns_27 : decode cX5_checkSigns 27 = .ok (.dup, 1) := by decide +kernel
theorem dX5_checkSigns_28 : decode cX5_checkSigns 28 = .ok (.ldc 219, 2) := by decide +kernel
theorem dX5_checkSigns_30 : decode cX5_checkSigns 30 = .ok (.invokespecial 180, 3) := by decide +kernel
theorem dX5_checkSigns_33 : decode cX5_checkSigns 33 = .ok (.athrow, 1) := by decide +kernel
theorem dX5_checkSigns_34 : decode cX5_checkSigns 34 = .ok (.return_, 1) := by decide +kernel
theorem dX5_mayStandAhead_0 : decode cX5_mayStandAhead 0 = .ok (.iload_n 0, 1) := by decide +kernel
theorem dX5_mayStandAhead_1 : decode cX5_mayStandAhead 1 = .ok (.ifCond .eq 8, 3) := by decide +kernel
theorem dX5_mayStandAhead_4 : decode cX5_mayStandAhead 4 = .ok (.iload_n 0, 1) := by decide +kernel
theorem dX5_mayStandAhead_5 : decode cX5_mayStandAhead 5 = .ok (.iconst 1, 1) := by decide +kernel
theorem dX5_mayStandAhead_6 : decode cX5_mayStandAhead 6 = .ok (.if_icmp .ne 7, 3) := by decide +kernel
theorem dX5_mayStandAhead_9 : decode cX5_mayStandAhead 9 = .ok (.iconst 1, 1) := by decide +kernel
theorem dX5_mayStandAhead_10 : decode cX5_mayStandAhead 10 = .ok (.goto 4, 3) := by decide +kernel
theorem dX5_mayStandAhead_13 : decode cX5_mayStandAhead 13 = .ok (.iconst 0, 1) := by decide +kernel
theorem dX5_mayStandAhead_14 : decode cX5_mayStandAhead 14 = .ok (.ireturn, 1) := by decide +kernel
theorem dX5_mayStandBehind_0 : decode cX5_mayStandBehind 0 = .ok (.iload_n 0, 1) := by decide +kernel
theorem dX5_mayStandBehind_1 : decode cX5_mayStandBehind 1 = .ok (.ifCond .eq 14, 3) := by decide +kernel
theorem dX5_mayStandBehind_4 : decode cX5_mayStandBehind 4 = .ok (.iload_n 0, 1) := by decide +kernel
theorem dX5_mayStandBehind_5 : decode cX5_mayStandBehind 5 = .ok (.iconst 2, 1) := by decide +kernel
theorem dX5_mayStandBehind_6 : decode cX5_mayStandBehind 6 = .ok (.if_icmp .lt 13, 3) := by decide +kernel
theorem dX5_mayStandBehind_9 : decode cX5_mayStandBehind 9 = .ok (.iload_n 0, 1) := by decide +kernel
theorem dX5_mayStandBehind_10 : decode cX5_mayStandBehind 10 = .ok (.bipush 8, 2) := by decide +kernel
theorem dX5_mayStandBehind_12 : decode cX5_mayStandBehind 12 = .ok (.if_icmp .ge 7, 3) := by decide +kernel
theorem dX5_mayStandBehind_15 : decode cX5_mayStandBehind 15 = .ok (.iconst 1, 1) := by decide +kernel
theorem dX5_mayStandBehind_16 : decode cX5_mayStandBehind 16 = .ok (.goto 4, 3) := by decide +kernel
theorem dX5_mayStandBehind_19 : decode cX5_mayStandBehind 19 = .ok (.iconst 0, 1) := by decide +kernel
theorem dX5_mayStandBehind_20 : decode cX5_mayStandBehind 20 = .ok (.ireturn, 1) := by decide +kernel
theorem dX5_signWidth_0 : decode cX5_signWidth 0 = .ok (.iload_n 0, 1) := by decide +kernel
theorem dX5_signWidth_1 : decode cX5_signWidth 1 = .ok (.ifCond .lt 17, 3) := by decide +kernel
theorem dX5_signWidth_4 : decode cX5_signWidth 4 = .ok (.iload_n 0, 1) := by decide +kernel
theorem dX5_signWidth_5 : decode cX5_signWidth 5 = .ok (.bipush 8, 2) := by decide +kernel
theorem dX5_signWidth_7 : decode cX5_signWidth 7 = .ok (.if_icmp .ge 11, 3) := by decide +kernel
theorem dX5_signWidth_10 : decode cX5_signWidth 10 = .ok (.getstatic 221, 3) := by decide +kernel
theorem dX5_signWidth_13 : decode cX5_signWidth 13 = .ok (.iload_n 0, 1) := by decide +kernel
theorem dX5_signWidth_14 : decode cX5_signWidth 14 = .ok (.iaload, 1) := by decide +kernel
theorem dX5_signWidth_15 : decode cX5_signWidth 15 = .ok (.goto 4, 3) := by decide +kernel
theorem dX5_signWidth_18 : decode cX5_signWidth 18 = .ok (.iconst 0, 1) := by decide +kernel
theorem dX5_signWidth_19 : decode cX5_signWidth 19 = .ok (.ireturn, 1) := by decide +kernel
theorem dX5_signByte_0 : decode cX5_signByte 0 = .ok (.iload_n 0, 1) := by decide +kernel
theorem dX5_signByte_1 : decode cX5_signByte 1 = .ok (.ifCond .lt 17, 3) := by decide +kernel
theorem dX5_signByte_4 : decode cX5_signByte 4 = .ok (.iload_n 0, 1) := by decide +kernel
theorem dX5_signByte_5 : decode cX5_signByte 5 = .ok (.bipush 8, 2) := by decide +kernel
theorem dX5_signByte_7 : decode cX5_signByte 7 = .ok (.if_icmp .ge 11, 3) := by decide +kernel
theorem dX5_signByte_10 : decode cX5_signByte 10 = .ok (.getstatic 224, 3) := by decide +kernel
theorem dX5_signByte_13 : decode cX5_signByte 13 = .ok (.iload_n 0, 1) := by decide +kernel
theorem dX5_signByte_14 : decode cX5_signByte 14 = .ok (.iaload, 1) := by decide +kernel
theorem dX5_signByte_15 : decode cX5_signByte 15 = .ok (.goto 4, 3) := by decide +kernel
theorem dX5_signByte_18 : decode cX5_signByte 18 = .ok (.iconst (-1), 1) := by decide +kernel
theorem dX5_signByte_19 : decode cX5_signByte 19 = .ok (.ireturn, 1) := by decide +kernel
set_option maxRecDepth 20000 in
theorem ggX5_setLines_X3_setting : GoodIn wsX5_setLines wsX3_setting := goodIn_r _ [7, 8, 142, 143, 144, 145, 146, 147, 148, 149, 150] (by decide +kernel) (by decide +kernel)
set_option maxRecDepth 20000 in
theorem gX5_setLines_X3_setting : GoodIn wsX5_setLines (wsV RX5 105 RX3 yX3_setting wsX3_setting) := goodIn_app (goodIn_of _ (by decide +kernel)) ggX5_setLines_X3_setting
set_option maxRecDepth 20000 in
theorem ggX5_setLines_X1_arrange : GoodIn wsX5_setLines wsX1_arrange := goodIn_r _ [13, 14, 15, 16, 17, 18, 19, 20, 21, 22, 23, 24, 25, 12, 26, 27, 28, 29, 30, 31, 32, 33, 34, 35, 36, 37, 38, 39, 40, 41, 42, 43, 44, 45, 46, 47, 48, 6, 49, 50, 51, 52, 53, 54, 55, 56, 57, 58, 59, 60, 61, 62, 63, 64, 65, 66, 67, 68, 69, 70, 71, 72, 73, 74, 75, 76, 77, 78, 79, 80, 81, 82, 83, 84, 85, 86, 87, 88, 89, 90, 91, 92, 93, 94, 95, 96, 97, 98, 99, 100, 101, 102, 103, 104, 105, 106, 107, 108, 109, 110, 111, 112, 113, 114, 115, 116, 117, 118, 119, 120, 121, 122, 123, 124, 125, 126, 127, 128, 129, 130, 131, 132, 133, 134, 135, 142, 143, 144, 145, 146, 147, 148, 149, 150, 151, 152, 153, 154, 155, 156, 157, 158, 159, 160, 161, 162, 163, 164, 165] (by decide +kernel) (by decide +kernel)
set_option maxRecDepth 20000 in
theorem gX5_setLines_X1_arrange : GoodIn wsX5_setLines (wsV RX5 146 RX1 yX1_arrange wsX1_arrange) := goodIn_app (goodIn_of _ (by decide +kernel)) ggX5_setLines_X1_arrange
theorem dX5_setLines_0 : decode cX5_setLines 0 = .ok (.aload_n 0, 1) := by decide +kernel
theorem dX5_setLines_1 : decode cX5_setLines 1 = .ok (.getfield 19, 3) := by decide +kernel
theorem dX5_setLines_4 : decode cX5_setLines 4 = .ok (.aload_n 0, 1) := by decide +kernel
theorem dX5_setLines_5 : decode cX5_setLines 5 = .ok (.getfield 10, 3) := by decide +kernel
theorem dX5_setLines_8 : decode cX5_setLines 8 = .ok (.aload_n 0, 1) := by decide +kernel
theorem dX5_setLines_9 : decode cX5_setLines 9 = .ok (.getfield 10, 3) := by decide +kernel
theorem dX5_setLines_12 : decode cX5_setLines 12 = .ok (.iconst 0, 1) := by decide +kernel
theorem dX5_setLines_13 : decode cX5_setLines 13 = .ok (.invokevirtual 105, 3) := by decide +kernel
theorem dX5_setLines_16 : decode cX5_setLines 16 = .ok (.aload_n 0, 1) := by decide +kernel
theorem dX5_setLines_17 : decode cX5_setLines 17 = .ok (.getfield 10, 3) := by decide +kernel
theorem dX5_setLines_20 : decode cX5_setLines 20 = .ok (.iconst 2, 1) := by decide +kernel
theorem dX5_setLines_21 : decode cX5_setLines 21 = .ok (.invokevirtual 105, 3) := by decide +kernel
theorem dX5_setLines_24 : decode cX5_setLines 24 = .ok (.aload_n 0, 1) := by decide +kernel
theorem dX5_setLines_25 : decode cX5_setLines 25 = .ok (.getfield 10, 3) := by decide +kernel
theorem dX5_setLines_28 : decode cX5_setLines 28 = .ok (.iconst 3, 1) := by decide +kernel
theorem dX5_setLines_29 : decode cX5_setLines 29 = .ok (.invokevirtual 105, 3) := by decide +kernel
theorem dX5_setLines_32 : decode cX5_setLines 32 = .ok (.invokevirtual 146, 3) := by decide +kernel
theorem dX5_setLines_35 : decode cX5_setLines 35 = .ok (.return_, 1) := by decide +kernel
set_option maxRecDepth 20000 in
theorem ggX5_tryMeasure_X3_setting : GoodIn wsX5_tryMeasure wsX3_setting := goodIn_r _ [7, 8, 142, 143, 144, 145, 146, 147, 148, 149, 150] (by decide +kernel) (by decide +kernel)
set_option maxRecDepth 20000 in
theorem gX5_tryMeasure_X3_setting : GoodIn wsX5_tryMeasure (wsV RX5 105 RX3 yX3_setting wsX3_setting) := goodIn_app (goodIn_of _ (by decide +kernel)) ggX5_tryMeasure_X3_setting
set_option maxRecDepth 20000 in
theorem ggX5_tryMeasure_X1_arrange : GoodIn wsX5_tryMeasure wsX1_arrange := goodIn_r _ [13, 14, 15, 16, 17, 18, 19, 20, 21, 22, 23, 24, 25, 12, 26, 27, 28, 29, 30, 31, 32, 33, 34, 35, 36, 37, 38, 39, 40, 41, 42, 43, 44, 45, 46, 47, 48, 6, 49, 50, 51, 52, 53, 54, 55, 56, 57, 58, 59, 60, 61, 62, 63, 64, 65, 66, 67, 68, 69, 70, 71, 72, 73, 74, 75, 76, 77, 78, 79, 80, 81, 82, 83, 84, 85, 86, 87, 88, 89, 90, 91, 92, 93, 94, 95, 96, 97, 98, 99, 100, 101, 102, 103, 104, 105, 106, 107, 108, 109, 110, 111, 112, 113, 114, 115, 116, 117, 118, 119, 120, 121, 122, 123, 124, 125, 126, 127, 128, 129, 130, 131, 132, 133, 134, 135, 142, 143, 144, 145, 146, 147, 148, 149, 150, 151, 152, 153, 154, 155, 156, 157, 158, 159, 160, 161, 162, 163, 164, 165] (by decide +kernel) (by decide +kernel)
set_option maxRecDepth 20000 in
theorem gX5_tryMeasure_X1_arrange : GoodIn wsX5_tryMeasure (wsV RX5 146 RX1 yX1_arrange wsX1_arrange) := goodIn_app (goodIn_of _ (by decide +kernel)) ggX5_tryMeasure_X1_arrange
theorem dX5_tryMeasure_0 : decode cX5_tryMeasure 0 = .ok (.aload_n 0, 1) := by decide +kernel
theorem dX5_tryMeasure_1 : decode cX5_tryMeasure 1 = .ok (.getfield 23, 3) := by decide +kernel
theorem dX5_tryMeasure_4 : decode cX5_tryMeasure 4 = .ok (.aload_n 0, 1) := by decide +kernel
theorem dX5_tryMeasure_5 : decode cX5_tryMeasure 5 = .ok (.getfield 10, 3) := by decide +kernel
theorem dX5_tryMeasure_8 : decode cX5_tryMeasure 8 = .ok (.iload_n 1, 1) := by decide +kernel
theorem dX5_tryMeasure_9 : decode cX5_tryMeasure 9 = .ok (.aload_n 0, 1) := by decide +kernel
theorem dX5_tryMeasure_10 : decode cX5_tryMeasure 10 = .ok (.getfield 10, 3) := by decide +kernel
theorem dX5_tryMeasure_13 : decode cX5_tryMeasure 13 = .ok (.iconst 2, 1) := by decide +kernel
theorem dX5_tryMeasure_14 : decode cX5_tryMeasure 14 = .ok (.invokevirtual 105, 3) := by decide +kernel
theorem dX5_tryMeasure_17 : decode cX5_tryMeasure 17 = .ok (.aload_n 0, 1) := by decide +kernel
theorem dX5_tryMeasure_18 : decode cX5_tryMeasure 18 = .ok (.getfield 10, 3) := by decide +kernel
theorem dX5_tryMeasure_21 : decode cX5_tryMeasure 21 = .ok (.iconst 3, 1) := by decide +kernel
theorem dX5_tryMeasure_22 : decode cX5_tryMeasure 22 = .ok (.invokevirtual 105, 3) := by decide +kernel
theorem dX5_tryMeasure_25 : decode cX5_tryMeasure 25 = .ok (.invokevirtual 146, 3) := by decide +kernel
theorem dX5_tryMeasure_28 : decode cX5_tryMeasure 28 = .ok (.return_, 1) := by decide +kernel
set_option maxRecDepth 20000 in
theorem ggX5_wordValue_X1_lineOfWord : GoodIn wsX5_wordValue wsX1_lineOfWord := goodIn_r _ [7, 8, 59, 60, 61, 62, 63, 64, 65] (by decide +kernel) (by decide +kernel)
set_option maxRecDepth 20000 in
theorem gX5_wordValue_X1_lineOfWord : GoodIn wsX5_wordValue (wsV RX5 227 RX1 yX1_lineOfWord wsX1_lineOfWord) := goodIn_app (goodIn_of _ (by decide +kernel)) ggX5_wordValue_X1_lineOfWord
set_option maxRecDepth 20000 in
theorem ggX5_wordValue_X3_lengthOf : GoodIn wsX5_wordValue wsX3_lengthOf := goodIn_r _ [13, 14, 15, 16, 17, 12, 18, 19, 66, 67, 68, 69, 70, 71, 72, 73, 74] (by decide +kernel) (by decide +kernel)
set_option maxRecDepth 20000 in
theorem gX5_wordValue_X3_lengthOf : GoodIn wsX5_wordValue (wsV RX5 230 RX3 yX3_lengthOf wsX3_lengthOf) := goodIn_app (goodIn_of _ (by decide +kernel)) ggX5_wordValue_X3_lengthOf
set_option maxRecDepth 20000 in
theorem ggX5_wordValue_X3_widthOf : GoodIn wsX5_wordValue wsX3_widthOf := goodIn_r _ [23, 24, 25, 26, 15, 16, 17, 12, 18, 19, 27, 28, 29, 30, 66, 67, 68, 69, 70, 71, 72, 73, 74] (by decide +kernel) (by decide +kernel)
set_option maxRecDepth 20000 in
theorem gX5_wordValue_X3_widthOf : GoodIn wsX5_wordValue (wsV RX5 94 RX3 yX3_widthOf wsX3_widthOf) := goodIn_app (goodIn_of _ (by decide +kernel)) ggX5_wordValue_X3_widthOf
set_option maxRecDepth 20000 in
theorem ggX5_wordValue_X3_aheadOf : GoodIn wsX5_wordValue wsX3_aheadOf := goodIn_r _ [34, 25, 15, 16, 17, 12, 18, 19, 66, 67, 68, 69, 70, 71, 72, 73, 74] (by decide +kernel) (by decide +kernel)
set_option maxRecDepth 20000 in
theorem gX5_wordValue_X3_aheadOf : GoodIn wsX5_wordValue (wsV RX5 233 RX3 yX3_aheadOf wsX3_aheadOf) := goodIn_app (goodIn_of _ (by decide +kernel)) ggX5_wordValue_X3_aheadOf
set_option maxRecDepth 20000 in
theorem ggX5_wordValue_X3_behindOf : GoodIn wsX5_wordValue wsX3_behindOf := goodIn_r _ [38, 26, 15, 16, 17, 12, 18, 19, 66, 67, 68, 69, 70, 71, 72, 73, 74] (by decide +kernel) (by decide +kernel)
set_option maxRecDepth 20000 in
theorem gX5_wordValue_X3_behindOf : GoodIn wsX5_wordValue (wsV RX5 236 RX3 yX3_behindOf wsX3_behindOf) := goodIn_app (goodIn_of _ (by decide +kernel)) ggX5_wordValue_X3_behindOf
set_option maxRecDepth 20000 in
theorem ggX5_wordValue_X3_wasSetToEnd : GoodIn wsX5_wordValue wsX3_wasSetToEnd := goodIn_r _ [42, 43, 15, 16, 17, 12, 18, 19, 66, 67, 68, 69, 70, 71, 72, 73, 74] (by decide +kernel) (by decide +kernel)
set_option maxRecDepth 20000 in
theorem gX5_wordValue_X3_wasSetToEnd : GoodIn wsX5_wordValue (wsV RX5 86 RX3 yX3_wasSetToEnd wsX3_wasSetToEnd) := goodIn_app (goodIn_of _ (by decide +kernel)) ggX5_wordValue_X3_wasSetToEnd
set_option maxRecDepth 20000 in
theorem ggX5_wordValue_X1_lineValue : GoodIn wsX5_wordValue wsX1_lineValue := goodIn_r _ [47, 48, 59, 60, 61, 62, 63, 64, 65] (by decide +kernel) (by decide +kernel)
set_option maxRecDepth 20000 in
theorem gX5_wordValue_X1_lineValue : GoodIn wsX5_wordValue (wsV RX5 124 RX1 yX1_lineValue wsX1_lineValue) := goodIn_app (goodIn_of _ (by decide +kernel)) ggX5_wordValue_X1_lineValue
set_option maxRecDepth 20000 in
theorem ggX5_wordValue_X5_leftEdge : GoodIn wsX5_wordValue wsX5_leftEdge := goodIn_r _ [52, 1, 2, 44, 45, 46, 6, 47, 48, 20, 21, 22, 12, 23, 24, 25, 26, 15, 16, 17, 18, 19, 27, 28, 29, 30, 53, 54, 55, 56, 57, 58, 59, 60, 61, 62, 63, 64, 65, 66, 67, 68, 69, 70, 71, 72, 73, 74] (by decide +kernel) (by decide +kernel)
set_option maxRecDepth 20000 in
theorem gX5_wordValue_X5_leftEdge : GoodIn wsX5_wordValue (wsV RX5 239 RX5 yX5_leftEdge wsX5_leftEdge) := goodIn_app (goodIn_of _ (by decide +kernel)) ggX5_wordValue_X5_leftEdge
theorem dX5_wordValue_0 : decode cX5_wordValue 0 = .ok (.aload_n 0, 1) := by decide +kernel
theorem dX5_wordValue_1 : decode cX5_wordValue 1 = .ok (.getfield 19, 3) := by decide +kernel
theorem dX5_wordValue_4 : decode cX5_wordValue 4 = .ok (.iload_n 1, 1) := by decide +kernel
theorem dX5_wordValue_5 : decode cX5_wordValue 5 = .ok (.invokevirtual 227, 3) := by decide +kernel
theorem dX5_wordValue_8 : decode cX5_wordValue 8 = .ok (.istore_n 3, 1) := by decide +kernel
theorem dX5_wordValue_9 : decode cX5_wordValue 9 = .ok (.iload_n 2, 1) := by decide +kernel
theorem dX5_wordValue_10 : decode cX5_wordValue 10 = .ok (.tableswitch 123 0 7 #[46, 55, 64, 73, 82, 99, 101, 113], 46) := by decide +kernel
theorem dX5_wordValue_56 : decode cX5_wordValue 56 = .ok (.aload_n 0, 1) := by decide +kernel
theorem dX5_wordValue_57 : decode cX5_wordValue 57 = .ok (.getfield 10, 3) := by decide +kernel
theorem dX5_wordValue_60 : decode cX5_wordValue 60 = .ok (.iload_n 1, 1) := by decide +kernel
theorem dX5_wordValue_61 : decode cX5_wordValue 61 = .ok (.invokevirtual 230, 3) := by decide +kernel
theorem dX5_wordValue_64 : decode cX5_wordValue 64 = .ok (.ireturn, 1) := by decide +kernel
theorem dX5_wordValue_65 : decode cX5_wordValue 65 = .ok (.aload_n 0, 1) := by decide +kernel
theorem dX5_wordValue_66 : decode cX5_wordValue 66 = .ok (.getfield 10, 3) := by decide +kernel
theorem dX5_wordValue_69 : decode cX5_wordValue 69 = .ok (.iload_n 1, 1) := by decide +kernel
theorem dX5_wordValue_70 : decode cX5_wordValue 70 = .ok (.invokevirtual 94, 3) := by decide +kernel
theorem dX5_wordValue_73 : decode cX5_wordValue 73 = .ok (.ireturn, 1) := by decide +kernel
theorem dX5_wordValue_74 : decode cX5_wordValue 74 = .ok (.aload_n 0, 1) := by decide +kernel
theorem dX5_wordValue_75 : decode cX5_wordValue 75 = .ok (.getfield 10, 3) := by decide +kernel
theorem dX5_wordValue_78 : decode cX5_wordValue 78 = .ok (.iload_n 1, 1) := by decide +kernel
theorem dX5_wordValue_79 : decode cX5_wordValue 79 = .ok (.invokevirtual 233, 3) := by decide +kernel
theorem dX5_wordValue_82 : decode cX5_wordValue 82 = .ok (.ireturn, 1) := by decide +kernel
theorem dX5_wordValue_83 : decode cX5_wordValue 83 = .ok (.aload_n 0, 1) := by decide +kernel
theorem dX5_wordValue_84 : decode cX5_wordValue 84 = .ok (.getfield 10, 3) := by decide +kernel
theorem dX5_wordValue_87 : decode cX5_wordValue 87 = .ok (.iload_n 1, 1) := by decide +kernel
theorem dX5_wordValue_88 : decode cX5_wordValue 88 = .ok (.invokevirtual 236, 3) := by decide +kernel
theorem dX5_wordValue_91 : decode cX5_wordValue 91 = .ok (.ireturn, 1) := by decide +kernel
theorem dX5_wordValue_92 : decode cX5_wordValue 92 = .ok (.aload_n 0, 1) := by decide +kernel
theorem dX5_wordValue_93 : decode cX5_wordValue 93 = .ok (.getfield 10, 3) := by decide +kernel
theorem dX5_wordValue_96 : decode cX5_wordValue 96 = .ok (.iload_n 1, 1) := by decide +kernel
theorem dX5_wordValue_97 : decode cX5_wordValue 97 = .ok (.invokevirtual 86, 3) := by decide +kernel
theorem dX5_wordValue_100 : decode cX5_wordValue 100 = .ok (.ifCond .eq 7, 3) := by decide +kernel
theorem dX5_wordValue_103 : decode cX5_wordValue 103 = .ok (.iconst 1, 1) := by decide +kernel
theorem dX5_wordValue_104 : decode cX5_wordValue 104 = .ok (.goto 4, 3) := by decide +kernel
theorem dX5_wordValue_107 : decode cX5_wordValue 107 = .ok (.iconst 0, 1) := by decide +kernel
theorem dX5_wordValue_108 : decode cX5_wordValue 108 = .ok (.ireturn, 1) := by decide +kernel
theorem dX5_wordValue_109 : decode cX5_wordValue 109 = .ok (.iload_n 3, 1) := by decide +kernel
theorem dX5_wordValue_110 : decode cX5_wordValue 110 = .ok (.ireturn, 1) := by decide +kernel
theorem dX5_wordValue_111 : decode cX5_wordValue 111 = .ok (.iload_n 1, 1) := by decide +kernel
theorem dX5_wordValue_112 : decode cX5_wordValue 112 = .ok (.aload_n 0, 1) := by decide +kernel
theorem dX5_wordValue_113 : decode cX5_wordValue 113 = .ok (.getfield 19, 3) := by decide +kernel
theorem dX5_wordValue_116 : decode cX5_wordValue 116 = .ok (.iload_n 3, 1) := by decide +kernel
theorem dX5_wordValue_117 : decode cX5_wordValue 117 = .ok (.iconst 1, 1) := by decide +kernel
theorem dX5_wordValue_118 : decode cX5_wordValue 118 = .ok (.invokevirtual 124, 3) := by decide +kernel
theorem dX5_wordValue_121 : decode cX5_wordValue 121 = .ok (.isub, 1) := by decide +kernel
theorem dX5_wordValue_122 : decode cX5_wordValue 122 = .ok (.ireturn, 1) := by decide +kernel
theorem dX5_wordValue_123 : decode cX5_wordValue 123 = .ok (.aload_n 0, 1) := by decide +kernel
theorem dX5_wordValue_124 : decode cX5_wordValue 124 = .ok (.getfield 19, 3) := by decide +kernel
theorem dX5_wordValue_127 : decode cX5_wordValue 127 = .ok (.iload_n 3, 1) := by decide +kernel
theorem dX5_wordValue_128 : decode cX5_wordValue 128 = .ok (.iconst 0, 1) := by decide +kernel
theorem dX5_wordValue_129 : decode cX5_wordValue 129 = .ok (.invokevirtual 124, 3) := by decide +kernel
theorem dX5_wordValue_132 : decode cX5_wordValue 132 = .ok (.ireturn, 1) := by decide +kernel
theorem dX5_wordValue_133 : decode cX5_wordValue 133 = .ok (.aload_n 0, 1) := by decide +kernel
theorem dX5_wordValue_134 : decode cX5_wordValue 134 = .ok (.iload_n 3, 1) := by decide +kernel
theorem dX5_wordValue_135 : decode cX5_wordValue 135 = .ok (.iload_n 1, 1) := by decide +kernel
theorem dX5_wordValue_136 : decode cX5_wordValue 136 = .ok (.invokevirtual 239, 3) := by decide +kernel
theorem dX5_wordValue_139 : decode cX5_wordValue 139 = .ok (.ireturn, 1) := by decide +kernel
set_option maxRecDepth 20000 in
theorem ggX5_leftEdge_X1_lineValue : GoodIn wsX5_leftEdge wsX1_lineValue := goodIn_r _ [7, 8, 32, 33, 34, 35, 36, 37, 38] (by decide +kernel) (by decide +kernel)
set_option maxRecDepth 20000 in
theorem gX5_leftEdge_X1_lineValue : GoodIn wsX5_leftEdge (wsV RX5 124 RX1 yX1_lineValue wsX1_lineValue) := goodIn_app (goodIn_of _ (by decide +kernel)) ggX5_leftEdge_X1_lineValue
set_option maxRecDepth 20000 in
theorem ggX5_leftEdge_X3_widthOf : GoodIn wsX5_leftEdge wsX3_widthOf := goodIn_r _ [13, 14, 15, 16, 17, 18, 19, 12, 20, 21, 22, 23, 24, 25, 39, 40, 41, 42, 43, 44, 45, 46, 47] (by decide +kernel) (by decide +kernel)
set_option maxRecDepth 20000 in
theorem gX5_leftEdge_X3_widthOf : GoodIn wsX5_leftEdge (wsV RX5 94 RX3 yX3_widthOf wsX3_widthOf) := goodIn_app (goodIn_of _ (by decide +kernel)) ggX5_leftEdge_X3_widthOf
theorem dX5_leftEdge_0 : decode cX5_leftEdge 0 = .ok (.aload_n 0, 1) := by decide +kernel
theorem dX5_leftEdge_1 : decode cX5_leftEdge 1 = .ok (.getfield 19, 3) := by decide +kernel
theorem dX5_leftEdge_4 : decode cX5_leftEdge 4 = .ok (.iload_n 1, 1) := by decide +kernel
theorem dX5_leftEdge_5 : decode cX5_leftEdge 5 = .ok (.iconst 5, 1) := by decide +kernel
theorem dX5_leftEdge_6 : decode cX5_leftEdge 6 = .ok (.invokevirtual 124, 3) := by decide +kernel
theorem dX5_leftEdge_9 : decode cX5_leftEdge 9 = .ok (.ineg, 1) := by decide +kernel
theorem dX5_leftEdge_10 : decode cX5_leftEdge 10 = .ok (.istore_n 3, 1) := by decide +kernel
theorem dX5_leftEdge_11 : decode cX5_leftEdge 11 = .ok (.aload_n 0, 1) := by decide +kernel
theorem dX5_leftEdge_12 : decode cX5_leftEdge 12 = .ok (.getfield 19, 3) := by decide +kernel
theorem dX5_leftEdge_15 : decode cX5_leftEdge 15 = .ok (.iload_n 1, 1) := by decide +kernel
theorem dX5_leftEdge_16 : decode cX5_leftEdge 16 = .ok (.iconst 1, 1) := by decide +kernel
theorem dX5_leftEdge_17 : decode cX5_leftEdge 17 = .ok (.invokevirtual 124, 3) := by decide +kernel
theorem dX5_leftEdge_20 : decode cX5_leftEdge 20 = .ok (.istore 4, 2) := by decide +kernel
theorem dX5_leftEdge_22 : decode cX5_leftEdge 22 = .ok (.iload 4, 2) := by decide +kernel
theorem dX5_leftEdge_24 : decode cX5_leftEdge 24 = .ok (.iload_n 2, 1) := by decide +kernel
theorem dX5_leftEdge_25 : decode cX5_leftEdge 25 = .ok (.if_icmp .ge 23, 3) := by decide +kernel
theorem dX5_leftEdge_28 : decode cX5_leftEdge 28 = .ok (.iload_n 3, 1) := by decide +kernel
theorem dX5_leftEdge_29 : decode cX5_leftEdge 29 = .ok (.aload_n 0, 1) := by decide +kernel
theorem dX5_leftEdge_30 : decode cX5_leftEdge 30 = .ok (.getfield 10, 3) := by decide +kernel
theorem dX5_leftEdge_33 : decode cX5_leftEdge 33 = .ok (.iload 4, 2) := by decide +kernel
theorem dX5_leftEdge_35 : decode cX5_leftEdge 35 = .ok (.invokevirtual 94, 3) := by decide +kernel
theorem dX5_leftEdge_38 : decode cX5_leftEdge 38 = .ok (.iconst 2, 1) := by decide +kernel
theorem dX5_leftEdge_39 : decode cX5_leftEdge 39 = .ok (.iadd, 1) := by decide +kernel
theorem dX5_leftEdge_40 : decode cX5_leftEdge 40 = .ok (.iadd, 1) := by decide +kernel
theorem dX5_leftEdge_41 : decode cX5_leftEdge 41 = .ok (.istore_n 3, 1) := by decide +kernel
theorem dX5_leftEdge_42 : decode cX5_leftEdge 42 = .ok (.iinc 4 1, 3) := by decide +kernel
theorem dX5_leftEdge_45 : decode cX5_leftEdge 45 = .ok (.goto (-23), 3) := by decide +kernel
theorem dX5_leftEdge_48 : decode cX5_leftEdge 48 = .ok (.iload_n 3, 1) := by decide +kernel
theorem dX5_leftEdge_49 : decode cX5_leftEdge 49 = .ok (.ireturn, 1) := by decide +kernel
set_option maxRecDepth 20000 in
theorem ggX5_wholeValue_X3_paragraphs : GoodIn wsX5_wholeValue wsX3_paragraphs := goodIn_r _ [12, 13, 14, 15, 16, 11, 17, 18, 19, 20, 21, 22, 53, 54, 55, 56, 57, 58, 59, 60, 61] (by decide +kernel) (by decide +kernel)
set_option maxRecDepth 20000 in
theorem gX5_wholeValue_X3_paragraphs : GoodIn wsX5_wholeValue (wsV RX5 242 RX3 yX3_paragraphs wsX3_paragraphs) := goodIn_app (goodIn_of _ (by decide +kernel)) ggX5_wholeValue_X3_paragraphs
set_option maxRecDepth 20000 in
theorem ggX5_wholeValue_X1_lendingLines : GoodIn wsX5_wholeValue wsX1_lendingLines := goodIn_r _ [27, 28, 29, 30, 31, 26, 32, 33, 34, 35, 36, 37, 62, 63, 64, 65, 66, 67, 68] (by decide +kernel) (by decide +kernel)
set_option maxRecDepth 20000 in
theorem gX5_wholeValue_X1_lendingLines : GoodIn wsX5_wholeValue (wsV RX5 245 RX1 yX1_lendingLines wsX1_lendingLines) := goodIn_app (goodIn_of _ (by decide +kernel)) ggX5_wholeValue_X1_lendingLines
set_option maxRecDepth 20000 in
theorem ggX5_wholeValue_X1_sumOf : GoodIn wsX5_wholeValue wsX1_sumOf := goodIn_r _ [41, 28, 33, 34, 35, 26, 36, 37, 62, 63, 64, 65, 66, 67, 68] (by decide +kernel) (by decide +kernel)
set_option maxRecDepth 20000 in
theorem gX5_wholeValue_X1_sumOf : GoodIn wsX5_wholeValue (wsV RX5 140 RX1 yX1_sumOf wsX1_sumOf) := goodIn_app (goodIn_of _ (by decide +kernel)) ggX5_wholeValue_X1_sumOf
set_option maxRecDepth 20000 in
theorem ggX5_wholeValue_X3_setting : GoodIn wsX5_wholeValue wsX3_setting := goodIn_r _ [45, 46, 53, 54, 55, 56, 57, 58, 59, 60, 61] (by decide +kernel) (by decide +kernel)
set_option maxRecDepth 20000 in
theorem gX5_wholeValue_X3_setting : GoodIn wsX5_wholeValue (wsV RX5 105 RX3 yX3_setting wsX3_setting) := goodIn_app (goodIn_of _ (by decide +kernel)) ggX5_wholeValue_X3_setting
theorem dX5_wholeValue_0 : decode cX5_wholeValue 0 = .ok (.iload_n 1, 1) := by decide +kernel
theorem dX5_wholeValue_1 : decode cX5_wholeValue 1 = .ok (.tableswitch 148 0 13 #[71, 79, 87, 95, 148, 148, 148, 148, 148, 148, 103, 111, 121, 140], 71) := by decide +kernel
theorem dX5_wholeValue_72 : decode cX5_wholeValue 72 = .ok (.aload_n 0, 1) := by decide +kernel
theorem dX5_wholeValue_73 : decode cX5_wholeValue 73 = .ok (.getfield 10, 3) := by decide +kernel
theorem dX5_wholeValue_76 : decode cX5_wholeValue 76 = .ok (.getfield 43, 3) := by decide +kernel
theorem dX5_wholeValue_79 : decode cX5_wholeValue 79 = .ok (.ireturn, 1) := by decide +kernel
theorem dX5_wholeValue_80 : decode cX5_wholeValue 80 = .ok (.aload_n 0, 1) := by decide +kernel
theorem dX5_wholeValue_81 : decode cX5_wholeValue 81 = .ok (.getfield 19, 3) := by decide +kernel
theorem dX5_wholeValue_84 : decode cX5_wholeValue 84 = .ok (.getfield 121, 3) := by decide +kernel
theorem dX5_wholeValue_87 : decode cX5_wholeValue 87 = .ok (.ireturn, 1) := by decide +kernel
theorem dX5_wholeValue_88 : decode cX5_wholeValue 88 = .ok (.aload_n 0, 1) := by decide +kernel
theorem dX5_wholeValue_89 : decode cX5_wholeValue 89 = .ok (.getfield 19, 3) := by decide +kernel
theorem dX5_wholeValue_92 : decode cX5_wholeValue 92 = .ok (.getfield 127, 3) := by decide +kernel
theorem dX5_wholeValue_95 : decode cX5_wholeValue 95 = .ok (.ireturn, 1) := by decide +kernel
theorem dX5_wholeValue_96 : decode cX5_wholeValue 96 = .ok (.aload_n 0, 1) := by decide +kernel
theorem dX5_wholeValue_97 : decode cX5_wholeValue 97 = .ok (.getfield 10, 3) := by decide +kernel
theorem dX5_wholeValue_100 : decode cX5_wholeValue 100 = .ok (.invokevirtual 242, 3) := by decide +kernel
theorem dX5_wholeValue_103 : decode cX5_wholeValue 103 = .ok (.ireturn, 1) := by decide +kernel
theorem dX5_wholeValue_104 : decode cX5_wholeValue 104 = .ok (.aload_n 0, 1) := by decide +kernel
theorem dX5_wholeValue_105 : decode cX5_wholeValue 105 = .ok (.getfield 19, 3) := by decide +kernel
theorem dX5_wholeValue_108 : decode cX5_wholeValue 108 = .ok (.invokevirtual 245, 3) := by decide +kernel
theorem dX5_wholeValue_111 : decode cX5_wholeValue 111 = .ok (.ireturn, 1) := by decide +kernel
theorem dX5_wholeValue_112 : decode cX5_wholeValue 112 = .ok (.aload_n 0, 1) := by decide +kernel
theorem dX5_wholeValue_113 : decode cX5_wholeValue 113 = .ok (.getfield 19, 3) := by decide +kernel
theorem dX5_wholeValue_116 : decode cX5_wholeValue 116 = .ok (.bipush 9, 2) := by decide +kernel
theorem dX5_wholeValue_118 : decode cX5_wholeValue 118 = .ok (.invokevirtual 140, 3) := by decide +kernel
theorem dX5_wholeValue_121 : decode cX5_wholeValue 121 = .ok (.ireturn, 1) := by decide +kernel
theorem dX5_wholeValue_122 : decode cX5_wholeValue 122 = .ok (.aload_n 0, 1) := by decide +kernel
theorem dX5_wholeValue_123 : decode cX5_wholeValue 123 = .ok (.getfield 19, 3) := by decide +kernel
theorem dX5_wholeValue_126 : decode cX5_wholeValue 126 = .ok (.iconst 5, 1) := by decide +kernel
theorem dX5_wholeValue_127 : decode cX5_wholeValue 127 = .ok (.invokevirtual 140, 3) := by decide +kernel
theorem dX5_wholeValue_130 : decode cX5_wholeValue 130 = .ok (.aload_n 0, 1) := by decide +kernel
theorem dX5_wholeValue_131 : decode cX5_wholeValue 131 = .ok (.getfield 19, 3) := by decide +kernel
theorem dX5_wholeValue_134 : decode cX5_wholeValue 134 = .ok (.bipush 6, 2) := by decide +kernel
theorem dX5_wholeValue_136 : decode cX5_wholeValue 136 = .ok (.invokevirtual 140, 3) := by decide +kernel
theorem dX5_wholeValue_139 : decode cX5_wholeValue 139 = .ok (.iadd, 1) := by decide +kernel
theorem dX5_wholeValue_140 : decode cX5_wholeValue 140 = .ok (.ireturn, 1) := by decide +kernel
theorem dX5_wholeValue_141 : decode cX5_wholeValue 141 = .ok (.aload_n 0, 1) := by decide +kernel
theorem dX5_wholeValue_142 : decode cX5_wholeValue 142 = .ok (.getfield 29, 3) := by decide +kernel
theorem dX5_wholeValue_145 : decode cX5_wholeValue 145 = .ok (.getfield 161, 3) := by decide +kernel
theorem dX5_wholeValue_148 : decode cX5_wholeValue 148 = .ok (.ireturn, 1) := by decide +kernel
theorem dX5_wholeValue_149 : decode cX5_wholeValue 149 = .ok (.aload_n 0, 1) := by decide +kernel
theorem dX5_wholeValue_150 : decode cX5_wholeValue 150 = .ok (.getfield 10, 3) := by decide +kernel
theorem dX5_wholeValue_153 : decode cX5_wholeValue 153 = .ok (.iload_n 1, 1) := by decide +kernel
theorem dX5_wholeValue_154 : decode cX5_wholeValue 154 = .ok (.iconst 4, 1) := by decide +kernel
theorem dX5_wholeValue_155 : decode cX5_wholeValue 155 = .ok (.isub, 1) := by decide +kernel
theorem dX5_wholeValue_156 : decode cX5_wholeValue 156 = .ok (.invokevirtual 105, 3) := by decide +kernel
theorem dX5_wholeValue_159 : decode cX5_wholeValue 159 = .ok (.ireturn, 1) := by decide +kernel
set_option maxRecDepth 20000 in
theorem ggX5_writtenByte_X1_lineValue : GoodIn wsX5_writtenByte wsX1_lineValue := goodIn_r _ [7, 8, 49, 50, 51, 52, 53, 54, 55] (by decide +kernel) (by decide +kernel)
set_option maxRecDepth 20000 in
theorem gX5_writtenByte_X1_lineValue : GoodIn wsX5_writtenByte (wsV RX5 124 RX1 yX1_lineValue wsX1_lineValue) := goodIn_app (goodIn_of _ (by decide +kernel)) ggX5_writtenByte_X1_lineValue
set_option maxRecDepth 20000 in
theorem ggX5_writtenByte_X3_writtenLength : GoodIn wsX5_writtenByte wsX3_writtenLength := goodIn_r _ [13, 14, 15, 16, 12, 17, 18, 19, 20, 21, 22, 23, 24, 25, 26, 27, 28, 29, 30, 31, 32, 33, 56, 57, 58, 59, 60, 61, 62, 63, 64] (by decide +kernel) (by decide +kernel)
set_option maxRecDepth 20000 in
theorem gX5_writtenByte_X3_writtenLength : GoodIn wsX5_writtenByte (wsV RX5 248 RX3 yX3_writtenLength wsX3_writtenLength) := goodIn_app (goodIn_of _ (by decide +kernel)) ggX5_writtenByte_X3_writtenLength
set_option maxRecDepth 20000 in
theorem ggX5_writtenByte_X3_writtenByteOf : GoodIn wsX5_writtenByte wsX3_writtenByteOf := goodIn_r _ [37, 33, 38, 28, 14, 15, 16, 12, 17, 18, 19, 20, 21, 22, 23, 39, 40, 41, 42, 56, 57, 58, 59, 60, 61, 62, 63, 64] (by decide +kernel) (by decide +kernel)
set_option maxRecDepth 20000 in
theorem gX5_writtenByte_X3_writtenByteOf : GoodIn wsX5_writtenByte (wsV RX5 251 RX3 yX3_writtenByteOf wsX3_writtenByteOf) := goodIn_app (goodIn_of _ (by decide +kernel)) ggX5_writtenByte_X3_writtenByteOf
theorem dX5_writtenByte_0 : decode cX5_writtenByte 0 = .ok (.aload_n 0, 1) := by decide +kernel
theorem dX5_writtenByte_1 : decode cX5_writtenByte 1 = .ok (.getfield 19, 3) := by decide +kernel
theorem dX5_writtenByte_4 : decode cX5_writtenByte 4 = .ok (.iload_n 1, 1) := by decide +kernel
theorem dX5_writtenByte_5 : decode cX5_writtenByte 5 = .ok (.iconst 1, 1) := by decide +kernel
theorem dX5_writtenByte_6 : decode cX5_writtenByte 6 = .ok (.invokevirtual 124, 3) := by decide +kernel
theorem dX5_writtenByte_9 : decode cX5_writtenByte 9 = .ok (.istore_n 3, 1) := by decide +kernel
theorem dX5_writtenByte_10 : decode cX5_writtenByte 10 = .ok (.aload_n 0, 1) := by decide +kernel
theorem dX5_writtenByte_11 : decode cX5_writtenByte 11 = .ok (.getfield 19, 3) := by decide +kernel
theorem dX5_writtenByte_14 : decode cX5_writtenByte 14 = .ok (.iload_n 1, 1) := by decide +kernel
theorem dX5_writtenByte_15 : decode cX5_writtenByte 15 = .ok (.iconst 2, 1) := by decide +kernel
theorem dX5_writtenByte_16 : decode cX5_writtenByte 16 = .ok (.invokevirtual 124, 3) := by decide +kernel
theorem dX5_writtenByte_19 : decode cX5_writtenByte 19 = .ok (.istore 4, 2) := by decide +kernel
theorem dX5_writtenByte_21 : decode cX5_writtenByte 21 = .ok (.iload_n 2, 1) := by decide +kernel
theorem dX5_writtenByte_22 : decode cX5_writtenByte 22 = .ok (.istore 5, 2) := by decide +kernel
theorem dX5_writtenByte_24 : decode cX5_writtenByte 24 = .ok (.iconst 0, 1) := by decide +kernel
theorem dX5_writtenByte_25 : decode cX5_writtenByte 25 = .ok (.istore 6, 2) := by decide +kernel
theorem dX5_writtenByte_27 : decode cX5_writtenByte 27 = .ok (.iload 6, 2) := by decide +kernel
theorem dX5_writtenByte_29 : decode cX5_writtenByte 29 = .ok (.iload 4, 2) := by decide +kernel
theorem dX5_writtenByte_31 : decode cX5_writtenByte 31 = .ok (.if_icmp .ge 75, 3) := by decide +kernel
theorem dX5_writtenByte_34 : decode cX5_writtenByte 34 = .ok (.aload_n 0, 1) := by decide +kernel
theorem dX5_writtenByte_35 : decode cX5_writtenByte 35 = .ok (.getfield 10, 3) := by decide +kernel
theorem dX5_writtenByte_38 : decode cX5_writtenByte 38 = .ok (.iload_n 3, 1) := by decide +kernel
theorem dX5_writtenByte_39 : decode cX5_writtenByte 39 = .ok (.iload 6, 2) := by decide +kernel
theorem dX5_writtenByte_41 : decode cX5_writtenByte 41 = .ok (.iadd, 1) := by decide +kernel
theorem dX5_writtenByte_42 : decode cX5_writtenByte 42 = .ok (.invokevirtual 248, 3) := by decide +kernel
theorem dX5_writtenByte_45 : decode cX5_writtenByte 45 = .ok (.istore 7, 2) := by decide +kernel
theorem dX5_writtenByte_47 : decode cX5_writtenByte 47 = .ok (.iload 5, 2) := by decide +kernel
theorem dX5_writtenByte_49 : decode cX5_writtenByte 49 = .ok (.iload 7, 2) := by decide +kernel
theorem dX5_writtenByte_51 : decode cX5_writtenByte 51 = .ok (.if_icmp .ge 17, 3) := by decide +kernel
theorem dX5_writtenByte_54 : decode cX5_writtenByte 54 = .ok (.aload_n 0, 1) := by decide +kernel
theorem dX5_writtenByte_55 : decode cX5_writtenByte 55 = .ok (.getfield 10, 3) := by decide +kernel
theorem dX5_writtenByte_58 : decode cX5_writtenByte 58 = .ok (.iload_n 3, 1) := by decide +kernel
theorem dX5_writtenByte_59 : decode cX5_writtenByte 59 = .ok (.iload 6, 2) := by decide +kernel
theorem dX5_writtenByte_61 : decode cX5_writtenByte 61 = .ok (.iadd, 1) := by decide +kernel
theorem dX5_writtenByte_62 : decode cX5_writtenByte 62 = .ok (.iload 5, 2) := by decide +kernel
theorem dX5_writtenByte_64 : decode cX5_writtenByte 64 = .ok (.invokevirtual 251, 3) := by decide +kernel
theorem dX5_writtenByte_67 : decode cX5_writtenByte 67 = .ok (.ireturn, 1) := by decide +kernel
theorem dX5_writtenByte_68 : decode cX5_writtenByte 68 = .ok (.iload 5, 2) := by decide +kernel
theorem dX5_writtenByte_70 : decode cX5_writtenByte 70 = .ok (.iload 7, 2) := by decide +kernel
theorem dX5_writtenByte_72 : decode cX5_writtenByte 72 = .ok (.if_icmp .ne 19, 3) := by decide +kernel
theorem dX5_writtenByte_75 : decode cX5_writtenByte 75 = .ok (.iload 6, 2) := by decide +kernel
theorem dX5_writtenByte_77 : decode cX5_writtenByte 77 = .ok (.iconst 1, 1) := by decide +kernel
theorem dX5_writtenByte_78 : decode cX5_writtenByte 78 = .ok (.iadd, 1) := by decide +kernel
theorem dX5_writtenByte_79 : decode cX5_writtenByte 79 = .ok (.iload 4, 2) := by decide +kernel
theorem dX5_writtenByte_81 : decode cX5_writtenByte 81 = .ok (.if_icmp .ge 8, 3) := by decide +kernel
theorem dX5_writtenByte_84 : decode cX5_writtenByte 84 = .ok (.bipush 32, 2) := by decide +kernel
theorem dX5_writtenByte_86 : decode cX5_writtenByte 86 = .ok (.goto 4, 3) := by decide +kernel
theorem dX5_writtenByte_89 : decode cX5_writtenByte 89 = .ok (.iconst (-1), 1) := by decide +kernel
theorem dX5_writtenByte_90 : decode cX5_writtenByte 90 = .ok (.ireturn, 1) := by decide +kernel
theorem dX5_writtenByte_91 : decode cX5_writtenByte 91 = .ok (.iload 5, 2) := by decide +kernel
theorem dX5_writtenByte_93 : decode cX5_writtenByte 93 = .ok (.iload 7, 2) := by decide +kernel
theorem dX5_writtenByte_95 : decode cX5_writtenByte 95 = .ok (.iconst 1, 1) := by decide +kernel
theorem dX5_writtenByte_96 : decode cX5_writtenByte 96 = .ok (.iadd, 1) := by decide +kernel
theorem dX5_writtenByte_97 : decode cX5_writtenByte 97 = .ok (.isub, 1) := by decide +kernel
theorem dX5_writtenByte_98 : decode cX5_writtenByte 98 = .ok (.istore 5, 2) := by decide +kernel
theorem dX5_writtenByte_100 : decode cX5_writtenByte 100 = .ok (.iinc 6 1, 3) := by decide +kernel
theorem dX5_writtenByte_103 : decode cX5_writtenByte 103 = .ok (.goto (-76), 3) := by decide +kernel
theorem dX5_writtenByte_106 : decode cX5_writtenByte 106 = .ok (.iconst (-1), 1) := by decide +kernel
theorem dX5_writtenByte_107 : decode cX5_writtenByte 107 = .ok (.ireturn, 1) := by decide +kernel
set_option maxRecDepth 20000 in
theorem ggX5_writtenLength_X1_lineValue : GoodIn wsX5_writtenLength wsX1_lineValue := goodIn_r _ [11, 12, 44, 45, 46, 47, 48, 49, 50] (by decide +kernel) (by decide +kernel)
set_option maxRecDepth 20000 in
theorem gX5_writtenLength_X1_lineValue : GoodIn wsX5_writtenLength (wsV RX5 124 RX1 yX1_lineValue wsX1_lineValue) := goodIn_app (goodIn_of _ (by decide +kernel)) ggX5_writtenLength_X1_lineValue
set_option maxRecDepth 20000 in
theorem ggX5_writtenLength_X3_writtenLength : GoodIn wsX5_writtenLength wsX3_writtenLength := goodIn_r _ [17, 18, 19, 20, 16, 21, 22, 23, 24, 25, 26, 27, 28, 29, 30, 31, 32, 33, 34, 35, 36, 37, 51, 52, 53, 54, 55, 56, 57, 58, 59] (by decide +kernel) (by decide +kernel)
set_option maxRecDepth 20000 in
theorem gX5_writtenLength_X3_writtenLength : GoodIn wsX5_writtenLength (wsV RX5 248 RX3 yX3_writtenLength wsX3_writtenLength) := goodIn_app (goodIn_of _ (by decide +kernel)) ggX5_writtenLength_X3_writtenLength
theorem dX5_writtenLength_0 : decode cX5_writtenLength 0 = .ok (.aload_n 0, 1) := by decide +kernel
theorem dX5_writtenLength_1 : decode cX5_writtenLength 1 = .ok (.getfield 19, 3) := by decide +kernel
theorem dX5_writtenLength_4 : decode cX5_writtenLength 4 = .ok (.iload_n 1, 1) := by decide +kernel
theorem dX5_writtenLength_5 : decode cX5_writtenLength 5 = .ok (.iconst 1, 1) := by decide +kernel
theorem dX5_writtenLength_6 : decode cX5_writtenLength 6 = .ok (.invokevirtual 124, 3) := by decide +kernel
theorem dX5_writtenLength_9 : decode cX5_writtenLength 9 = .ok (.istore_n 2, 1) := by decide +kernel
theorem dX5_writtenLength_10 : decode cX5_writtenLength 10 = .ok (.aload_n 0, 1) := by decide +kernel
theorem dX5_writtenLength_11 : decode cX5_writtenLength 11 = .ok (.getfield 19, 3) := by decide +kernel
theorem dX5_writtenLength_14 : decode cX5_writtenLength 14 = .ok (.iload_n 1, 1) := by decide +kernel
theorem dX5_writtenLength_15 : decode cX5_writtenLength 15 = .ok (.iconst 2, 1) := by decide +kernel
theorem dX5_writtenLength_16 : decode cX5_writtenLength 16 = .ok (.invokevirtual 124, 3) := by decide +kernel
theorem dX5_writtenLength_19 : decode cX5_writtenLength 19 = .ok (.istore_n 3, 1) := by decide +kernel
theorem dX5_writtenLength_20 : decode cX5_writtenLength 20 = .ok (.iconst 0, 1) := by decide +kernel
theorem dX5_writtenLength_21 : decode cX5_writtenLength 21 = .ok (.iload_n 3, 1) := by decide +kernel
theorem dX5_writtenLength_22 : decode cX5_writtenLength 22 = .ok (.iconst 1, 1) := by decide +kernel
theorem dX5_writtenLength_23 : decode cX5_writtenLength 23 = .ok (.isub, 1) := by decide +kernel
theorem dX5_writtenLength_24 : decode cX5_writtenLength 24 = .ok (.invokestatic 158, 3) := by decide +kernel
theorem dX5_writtenLength_27 : decode cX5_writtenLength 27 = .ok (.istore 4, 2) := by decide +kernel
theorem dX5_writtenLength_29 : decode cX5_writtenLength 29 = .ok (.iconst 0, 1) := by decide +kernel
theorem dX5_writtenLength_30 : decode cX5_writtenLength 30 = .ok (.istore 5, 2) := by decide +kernel
theorem dX5_writtenLength_32 : decode cX5_writtenLength 32 = .ok (.iload 5, 2) := by decide +kernel
theorem dX5_writtenLength_34 : decode cX5_writtenLength 34 = .ok (.iload_n 3, 1) := by decide +kernel
theorem dX5_writtenLength_35 : decode cX5_writtenLength 35 = .ok (.if_icmp .ge 25, 3) := by decide +kernel
theorem dX5_writtenLength_38 : decode cX5_writtenLength 38 = .ok (.iload 4, 2) := by decide +kernel
theorem dX5_writtenLength_40 : decode cX5_writtenLength 40 = .ok (.aload_n 0, 1) := by decide +kernel
theorem dX5_writtenLength_41 : decode cX5_writtenLength 41 = .ok (.getfield 10, 3) := by decide +kernel
theorem dX5_writtenLength_44 : decode cX5_writtenLength 44 = .ok (.iload_n 2, 1) := by decide +kernel
theorem dX5_writtenLength_45 : decode cX5_writtenLength 45 = .ok (.iload 5, 2) := by decide +kernel
theorem dX5_writtenLength_47 : decode cX5_writtenLength 47 = .ok (.iadd, 1) := by decide +kernel
theorem dX5_writtenLength_48 : decode cX5_writtenLength 48 = .ok (.invokevirtual 248, 3) := by decide +kernel
theorem dX5_writtenLength_51 : decode cX5_writtenLength 51 = .ok (.iadd, 1) := by decide +kernel
theorem dX5_writtenLength_52 : decode cX5_writtenLength 52 = .ok (.istore 4, 2) := by decide +kernel
theorem dX5_writtenLength_54 : decode cX5_writtenLength 54 = .ok (.iinc 5 1, 3) := by decide +kernel
theorem dX5_writtenLength_57 : decode cX5_writtenLength 57 = .ok (.goto (-25), 3) := by decide +kernel
theorem dX5_writtenLength_60 : decode cX5_writtenLength 60 = .ok (.iload 4, 2) := by decide +kernel
theorem dX5_writtenLength_62 : decode cX5_writtenLength 62 = .ok (.ireturn, 1) := by decide +kernel
theorem dX5_mix_0 : decode cX5_mix 0 = .ok (.ldc2_w 254, 3) := by decide +kernel
theorem dX5_mix_3 : decode cX5_mix 3 = .ok (.lload_n 0, 1) := by decide +kernel
theorem dX5_mix_4 : decode cX5_mix 4 = .ok (.lmul, 1) := by decide +kernel
theorem dX5_mix_5 : decode cX5_mix 5 = .ok (.iload_n 2, 1) := by decide +kernel
theorem dX5_mix_6 : decode cX5_mix 6 = .ok (.i2l, 1) := by decide +kernel
theorem dX5_mix_7 : decode cX5_mix 7 = .ok (.ladd, 1) := by decide +kernel
theorem dX5_mix_8 : decode cX5_mix 8 = .ok (.lreturn, 1) := by decide +kernel
set_option maxRecDepth 20000 in
theorem ggX5_mixWords_X5_wordValue : GoodIn wsX5_mixWords wsX5_wordValue := goodIn_r _ [7, 8, 1, 9, 10, 11, 12, 13, 14, 15, 16, 17, 18, 19, 20, 21, 22, 23, 24, 25, 26, 27, 28, 29, 30, 31, 32, 33, 6, 34, 35, 36, 37, 38, 39, 40, 41, 42, 43, 44, 45, 46, 47, 48, 49, 50, 51, 52, 53, 54, 55, 56, 57, 62, 63, 64, 65, 66, 67, 77, 78, 79, 80, 81, 82, 83, 68, 69, 70, 71, 72, 73, 74, 75, 76] (by decide +kernel) (by decide +kernel)
set_option maxRecDepth 20000 in
theorem gX5_mixWords_X5_wordValue : GoodIn wsX5_mixWords (wsV RX5 117 RX5 yX5_wordValue wsX5_wordValue) := goodIn_app (goodIn_of _ (by decide +kernel)) ggX5_mixWords_X5_wordValue
set_option maxRecDepth 20000 in
theorem ggX5_mixWords_X5_mix : GoodIn wsX5_mixWords wsX5_mix := goodIn_r _ [60, 61] (by decide +kernel) (by decide +kernel)
set_option maxRecDepth 20000 in
theorem gX5_mixWords_X5_mix : GoodIn wsX5_mixWords (va_wsS RX5 192 yX5_mix wsX5_mix) := goodIn_app (goodIn_of _ (by decide +kernel)) ggX5_mixWords_X5_mix
theorem dX5_mixWords_0 : decode cX5_mixWords 0 = .ok (.lload_n 1, 1) := by decide +kernel
theorem dX5_mixWords_1 : decode cX5_mixWords 1 = .ok (.lstore_n 3, 1) := by decide +kernel
theorem dX5_mixWords_2 : decode cX5_mixWords 2 = .ok (.iconst 0, 1) := by decide +kernel
theorem dX5_mixWords_3 : decode cX5_mixWords 3 = .ok (.istore 5, 2) := by decide +kernel
theorem dX5_mixWords_5 : decode cX5_mixWords 5 = .ok (.iload 5, 2) := by decide +kernel
theorem dX5_mixWords_7 : decode cX5_mixWords 7 = .ok (.aload_n 0, 1) := by decide +kernel
theorem dX5_mixWords_8 : decode cX5_mixWords 8 = .ok (.getfield 10, 3) := by decide +kernel
theorem dX5_mixWords_11 : decode cX5_mixWords 11 = .ok (.getfield 43, 3) := by decide +kernel
theorem dX5_mixWords_14 : decode cX5_mixWords 14 = .ok (.if_icmp .ge 38, 3) := by decide +kernel
theorem dX5_mixWords_17 : decode cX5_mixWords 17 = .ok (.iconst 0, 1) := by decide +kernel
theorem dX5_mixWords_18 : decode cX5_mixWords 18 = .ok (.istore 6, 2) := by decide +kernel
theorem dX5_mixWords_20 : decode cX5_mixWords 20 = .ok (.iload 6, 2) := by decide +kernel
theorem dX5_mixWords_22 : decode cX5_mixWords 22 = .ok (.bipush 9, 2) := by decide +kernel
theorem dX5_mixWords_24 : decode cX5_mixWords 24 = .ok (.if_icmp .ge 22, 3) := by decide +kernel
theorem dX5_mixWords_27 : decode cX5_mixWords 27 = .ok (.lload_n 3, 1) := by decide +kernel
theorem dX5_mixWords_28 : decode cX5_mixWords 28 = .ok (.aload_n 0, 1) := by decide +kernel
theorem dX5_mixWords_29 : decode cX5_mixWords 29 = .ok (.iload 5, 2) := by decide +kernel
theorem dX5_mixWords_31 : decode cX5_mixWords 31 = .ok (.iload 6, 2) := by decide +kernel
theorem dX5_mixWords_33 : decode cX5_mixWords 33 = .ok (.invokevirtual 117, 3) := by decide +kernel
theorem dX5_mixWords_36 : decode cX5_mixWords 36 = .ok (.invokestatic 192, 3) := by decide +kernel
theorem dX5_mixWords_39 : decode cX5_mixWords 39 = .ok (.lstore_n 3, 1) := by decide +kernel
theorem dX5_mixWords_40 : decode cX5_mixWords 40 = .ok (.iinc 6 1, 3) := by decide +kernel
theorem dX5_mixWords_43 : decode cX5_mixWords 43 = .ok (.goto (-23), 3) := by decide +kernel
theorem dX5_mixWords_46 : decode cX5_mixWords 46 = .ok (.iinc 5 1, 3) := by decide +kernel
theorem dX5_mixWords_49 : decode cX5_mixWords 49 = .ok (.goto (-44), 3) := by decide +kernel
theorem dX5_mixWords_52 : decode cX5_mixWords 52 = .ok (.lload_n 3, 1) := by decide +kernel
theorem dX5_mixWords_53 : decode cX5_mixWords 53 = .ok (.lreturn, 1) := by decide +kernel
set_option maxRecDepth 20000 in
theorem ggX5_mixLines_X1_lineValue : GoodIn wsX5_mixLines wsX1_lineValue := goodIn_r _ [7, 8, 66, 67, 68, 69, 70, 71, 72] (by decide +kernel) (by decide +kernel)
set_option maxRecDepth 20000 in
theorem gX5_mixLines_X1_lineValue : GoodIn wsX5_mixLines (wsV RX5 124 RX1 yX1_lineValue wsX1_lineValue) := goodIn_app (goodIn_of _ (by decide +kernel)) ggX5_mixLines_X1_lineValue
set_option maxRecDepth 20000 in
theorem ggX5_mixLines_X5_mix : GoodIn wsX5_mixLines wsX5_mix := goodIn_r _ [12, 13] (by decide +kernel) (by decide +kernel)
set_option maxRecDepth 20000 in
theorem gX5_mixLines_X5_mix : GoodIn wsX5_mixLines (va_wsS RX5 192 yX5_mix wsX5_mix) := goodIn_app (goodIn_of _ (by decide +kernel)) ggX5_mixLines_X5_mix
set_option maxRecDepth 20000 in
theorem ggX5_mixLines_X5_writtenLength : GoodIn wsX5_mixLines wsX5_writtenLength := goodIn_r _ [17, 1, 18, 19, 20, 21, 22, 3, 4, 5, 6, 7, 8, 23, 24, 25, 26, 27, 28, 29, 30, 31, 32, 33, 34, 35, 36, 37, 38, 39, 40, 41, 42, 43, 44, 45, 46, 47, 60, 61, 62, 63, 64, 65, 66, 67, 68, 69, 70, 71, 72, 73, 74, 75, 76, 77, 78, 79, 80, 81] (by decide +kernel) (by decide +kernel)
set_option maxRecDepth 20000 in
theorem gX5_mixLines_X5_writtenLength : GoodIn wsX5_mixLines (wsV RX5 256 RX5 yX5_writtenLength wsX5_writtenLength) := goodIn_app (goodIn_of _ (by decide +kernel)) ggX5_mixLines_X5_writtenLength
set_option maxRecDepth 20000 in
theorem ggX5_mixLines_X5_writtenByte : GoodIn wsX5_mixLines wsX5_writtenByte := goodIn_r _ [51, 1, 22, 3, 4, 5, 6, 7, 8, 23, 24, 25, 26, 27, 28, 29, 30, 31, 32, 33, 34, 35, 36, 37, 38, 39, 40, 41, 42, 43, 44, 45, 46, 47, 52, 53, 54, 55, 56, 57, 11, 58, 59, 60, 61, 62, 63, 64, 65, 66, 67, 68, 69, 70, 71, 72, 73, 74, 75, 76, 77, 78, 79, 80, 81] (by decide +kernel) (by decide +kernel)
set_option maxRecDepth 20000 in
theorem gX5_mixLines_X5_writtenByte : GoodIn wsX5_mixLines (wsV RX5 181 RX5 yX5_writtenByte wsX5_writtenByte) := goodIn_app (goodIn_of _ (by decide +kernel)) ggX5_mixLines_X5_writtenByte
theorem dX5_mixLines_0 : decode cX5_mixLines 0 = .ok (.lload_n 1, 1) := by decide +kernel
theorem dX5_mixLines_1 : decode cX5_mixLines 1 = .ok (.lstore_n 3, 1) := by decide +kernel
theorem dX5_mixLines_2 : decode cX5_mixLines 2 = .ok (.iconst 0, 1) := by decide +kernel
theorem dX5_mixLines_3 : decode cX5_mixLines 3 = .ok (.istore 5, 2) := by decide +kernel
theorem dX5_mixLines_5 : decode cX5_mixLines 5 = .ok (.iload 5, 2) := by decide +kernel
theorem dX5_mixLines_7 : decode cX5_mixLines 7 = .ok (.aload_n 0, 1) := by decide +kernel
theorem dX5_mixLines_8 : decode cX5_mixLines 8 = .ok (.getfield 19, 3) := by decide +kernel
theorem dX5_mixLines_11 : decode cX5_mixLines 11 = .ok (.getfield 121, 3) := by decide +kernel
theorem dX5_mixLines_14 : decode cX5_mixLines 14 = .ok (.if_icmp .ge 78, 3) := by decide +kernel
theorem dX5_mixLines_17 : decode cX5_mixLines 17 = .ok (.iconst 0, 1) := by decide +kernel
theorem dX5_mixLines_18 : decode cX5_mixLines 18 = .ok (.istore 6, 2) := by decide +kernel
theorem dX5_mixLines_20 : decode cX5_mixLines 20 = .ok (.iload 6, 2) := by decide +kernel
theorem dX5_mixLines_22 : decode cX5_mixLines 22 = .ok (.bipush 12, 2) := by decide +kernel
theorem dX5_mixLines_24 : decode cX5_mixLines 24 = .ok (.if_icmp .ge 25, 3) := by decide +kernel
theorem dX5_mixLines_27 : decode cX5_mixLines 27 = .ok (.lload_n 3, 1) := by decide +kernel
theorem dX5_mixLines_28 : decode cX5_mixLines 28 = .ok (.aload_n 0, 1) := by decide +kernel
theorem dX5_mixLines_29 : decode cX5_mixLines 29 = .ok (.getfield 19, 3) := by decide +kernel
theorem dX5_mixLines_32 : decode cX5_mixLines 32 = .ok (.iload 5, 2) := by decide +kernel
theorem dX5_mixLines_34 : decode cX5_mixLines 34 = .ok (.iload 6, 2) := by decide +kernel
theorem dX5_mixLines_36 : decode cX5_mixLines 36 = .ok (.invokevirtual 124, 3) := by decide +kernel
theorem dX5_mixLines_39 : decode cX5_mixLines 39 = .ok (.invokestatic 192, 3) := by decide +kernel
theorem dX5_mixLines_42 : decode cX5_mixLines 42 = .ok (.lstore_n 3, 1) := by decide +kernel
theorem dX5_mixLines_43 : decode cX5_mixLines 43 = .ok (.iinc 6 1, 3) := by decide +kernel
theorem dX5_mixLines_46 : decode cX5_mixLines 46 = .ok (.goto (-26), 3) := by decide +kernel
theorem dX5_mixLines_49 : decode cX5_mixLines 49 = .ok (.aload_n 0, 1) := by decide +kernel
theorem dX5_mixLines_50 : decode cX5_mixLines 50 = .ok (.iload 5, 2) := by decide +kernel
theorem dX5_mixLines_52 : decode cX5_mixLines 52 = .ok (.invokevirtual 256, 3) := by decide +kernel
theorem dX5_mixLines_55 : decode cX5_mixLines 55 = .ok (.istore 6, 2) := by decide +kernel
theorem dX5_mixLines_57 : decode cX5_mixLines 57 = .ok (.iconst 0, 1) := by decide +kernel
theorem dX5_mixLines_58 : decode cX5_mixLines 58 = .ok (.istore 7, 2) := by decide +kernel
theorem dX5_mixLines_60 : decode cX5_mixLines 60 = .ok (.iload 7, 2) := by decide +kernel
theorem dX5_mixLines_62 : decode cX5_mixLines 62 = .ok (.iload 6, 2) := by decide +kernel
theorem dX5_mixLines_64 : decode cX5_mixLines 64 = .ok (.if_icmp .ge 22, 3) := by decide +kernel
theorem dX5_mixLines_67 : decode cX5_mixLines 67 = .ok (.lload_n 3, 1) := by decide +kernel
theorem dX5_mixLines_68 : decode cX5_mixLines 68 = .ok (.aload_n 0, 1) := by decide +kernel
theorem dX5_mixLines_69 : decode cX5_mixLines 69 = .ok (.iload 5, 2) := by decide +kernel
theorem dX5_mixLines_71 : decode cX5_mixLines 71 = .ok (.iload 7, 2) := by decide +kernel
theorem dX5_mixLines_73 : decode cX5_mixLines 73 = .ok (.invokevirtual 181, 3) := by decide +kernel
theorem dX5_mixLines_76 : decode cX5_mixLines 76 = .ok (.invokestatic 192, 3) := by decide +kernel
theorem dX5_mixLines_79 : decode cX5_mixLines 79 = .ok (.lstore_n 3, 1) := by decide +kernel
theorem dX5_mixLines_80 : decode cX5_mixLines 80 = .ok (.iinc 7 1, 3) := by decide +kernel
theorem dX5_mixLines_83 : decode cX5_mixLines 83 = .ok (.goto (-23), 3) := by decide +kernel
theorem dX5_mixLines_86 : decode cX5_mixLines 86 = .ok (.iinc 5 1, 3) := by decide +kernel
theorem dX5_mixLines_89 : decode cX5_mixLines 89 = .ok (.goto (-84), 3) := by decide +kernel
theorem dX5_mixLines_92 : decode cX5_mixLines 92 = .ok (.lload_n 3, 1) := by decide +kernel
theorem dX5_mixLines_93 : decode cX5_mixLines 93 = .ok (.lreturn, 1) := by decide +kernel
set_option maxRecDepth 20000 in
theorem ggX5_mixPages_X1_pageValue : GoodIn wsX5_mixPages wsX1_pageValue := goodIn_r _ [7, 8, 20, 21, 22, 23, 24, 25, 26] (by decide +kernel) (by decide +kernel)
set_option maxRecDepth 20000 in
theorem gX5_mixPages_X1_pageValue : GoodIn wsX5_mixPages (wsV RX5 130 RX1 yX1_pageValue wsX1_pageValue) := goodIn_app (goodIn_of _ (by decide +kernel)) ggX5_mixPages_X1_pageValue
set_option maxRecDepth 20000 in
theorem ggX5_mixPages_X5_mix : GoodIn wsX5_mixPages wsX5_mix := goodIn_r _ [12, 13] (by decide +kernel) (by decide +kernel)
set_option maxRecDepth 20000 in
theorem gX5_mixPages_X5_mix : GoodIn wsX5_mixPages (va_wsS RX5 192 yX5_mix wsX5_mix) := goodIn_app (goodIn_of _ (by decide +kernel)) ggX5_mixPages_X5_mix
theorem dX5_mixPages_0 : decode cX5_mixPages 0 = .ok (.lload_n 1, 1) := by decide +kernel
theorem dX5_mixPages_1 : decode cX5_mixPages 1 = .ok (.lstore_n 3, 1) := by decide +kernel
theorem dX5_mixPages_2 : decode cX5_mixPages 2 = .ok (.iconst 0, 1) := by decide +kernel
theorem dX5_mixPages_3 : decode cX5_mixPages 3 = .ok (.istore 5, 2) := by decide +kernel
theorem dX5_mixPages_5 : decode cX5_mixPages 5 = .ok (.iload 5, 2) := by decide +kernel
theorem dX5_mixPages_7 : decode cX5_mixPages 7 = .ok (.aload_n 0, 1) := by decide +kernel
theorem dX5_mixPages_8 : decode cX5_mixPages 8 = .ok (.getfield 19, 3) := by decide +kernel
theorem dX5_mixPages_11 : decode cX5_mixPages 11 = .ok (.getfield 127, 3) := by decide +kernel
theorem dX5_mixPages_14 : decode cX5_mixPages 14 = .ok (.if_icmp .ge 41, 3) := by decide +kernel
theorem dX5_mixPages_17 : decode cX5_mixPages 17 = .ok (.iconst 0, 1) := by decide +kernel
theorem dX5_mixPages_18 : decode cX5_mixPages 18 = .ok (.istore 6, 2) := by decide +kernel
theorem dX5_mixPages_20 : decode cX5_mixPages 20 = .ok (.iload 6, 2) := by decide +kernel
theorem dX5_mixPages_22 : decode cX5_mixPages 22 = .ok (.bipush 6, 2) := by decide +kernel
theorem dX5_mixPages_24 : decode cX5_mixPages 24 = .ok (.if_icmp .ge 25, 3) := by decide +kernel
theorem dX5_mixPages_27 : decode cX5_mixPages 27 = .ok (.lload_n 3, 1) := by decide +kernel
theorem dX5_mixPages_28 : decode cX5_mixPages 28 = .ok (.aload_n 0, 1) := by decide +kernel
theorem dX5_mixPages_29 : decode cX5_mixPages 29 = .ok (.getfield 19, 3) := by decide +kernel
theorem dX5_mixPages_32 : decode cX5_mixPages 32 = .ok (.iload 5, 2) := by decide +kernel
theorem dX5_mixPages_34 : decode cX5_mixPages 34 = .ok (.iload 6, 2) := by decide +kernel
theorem dX5_mixPages_36 : decode cX5_mixPages 36 = .ok (.invokevirtual 130, 3) := by decide +kernel
theorem dX5_mixPages_39 : decode cX5_mixPages 39 = .ok (.invokestatic 192, 3) := by decide +kernel
theorem dX5_mixPages_42 : decode cX5_mixPages 42 = .ok (.lstore_n 3, 1) := by decide +kernel
theorem dX5_mixPages_43 : decode cX5_mixPages 43 = .ok (.iinc 6 1, 3) := by decide +kernel
theorem dX5_mixPages_46 : decode cX5_mixPages 46 = .ok (.goto (-26), 3) := by decide +kernel
theorem dX5_mixPages_49 : decode cX5_mixPages 49 = .ok (.iinc 5 1, 3) := by decide +kernel
theorem dX5_mixPages_52 : decode cX5_mixPages 52 = .ok (.goto (-47), 3) := by decide +kernel
theorem dX5_mixPages_55 : decode cX5_mixPages 55 = .ok (.lload_n 3, 1) := by decide +kernel
theorem dX5_mixPages_56 : decode cX5_mixPages 56 = .ok (.lreturn, 1) := by decide +kernel
