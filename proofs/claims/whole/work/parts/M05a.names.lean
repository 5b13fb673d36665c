set_option maxRecDepth 20000 in
theorem ggX5_init_X3_init : GoodIn wsX5_init wsX3_init := goodIn_r _ [23, 24, 2, 3, 25, 26, 27, 28, 29, 30, 31, 32, 33, 34, 35, 36, 37, 38, 39, 40, 64, 65, 66, 67, 68, 69, 70, 71, 72] (by decide +kernel) (by decide +kernel)
set_option maxRecDepth 20000 in
theorem gX5_init_X3_init_n9 : GoodIn wsX5_init (wsX3_init) := ggX5_init_X3_init
set_option maxRecDepth 20000 in
theorem ggX5_init_X1_init : GoodIn wsX5_init wsX1_init := goodIn_r _ [42, 43, 2, 3, 25, 44, 45, 46, 47, 48, 49, 50, 51, 52, 53, 54, 79, 80, 81, 82, 83, 84, 85, 91, 92, 93, 94, 95, 96, 97, 98] (by decide +kernel) (by decide +kernel)
set_option maxRecDepth 20000 in
theorem gX5_init_X1_init_n18 : GoodIn wsX5_init (wsX1_init) := ggX5_init_X1_init
set_option maxRecDepth 20000 in
theorem ggX5_init_X4_init : GoodIn wsX5_init wsX4_init := goodIn_r _ [56, 57, 2, 3, 25, 58, 86, 87, 88] (by decide +kernel) (by decide +kernel)
set_option maxRecDepth 20000 in
theorem gX5_init_X4_init_n28 : GoodIn wsX5_init (wsX4_init) := ggX5_init_X4_init
set_option maxRecDepth 20000 in
theorem ggX5_init_X0_init : GoodIn wsX5_init wsX0_init := goodIn_r _ [60, 61, 2, 3, 62, 5, 6, 63, 22, 23, 24, 25, 26, 27, 28, 29, 30, 31, 32, 33, 34, 35, 36, 37, 38, 39, 40, 64, 65, 66, 67, 68, 69, 70, 71, 72, 89, 90] (by decide +kernel) (by decide +kernel)
set_option maxRecDepth 20000 in
theorem gX5_init_X0_init_n38 : GoodIn wsX5_init (wsX0_init) := ggX5_init_X0_init
theorem dX5_init_0 : decode cX5_init 0 = .ok (.aload_n 0, 1) := by decide +kernel
theorem dX5_init_1 : decode cX5_init 1 = .ok (.invokespecial 1, 3) := by decide +kernel
theorem dX5_init_4 : decode cX5_init 4 = .ok (.aload_n 0, 1) := by decide +kernel
theorem dX5_init_5 : decode cX5_init 5 = .ok (.new 7, 3) := by decide +kernel
theorem dX5_init_8 : decode cX5_init 8 = .ok (.dup, 1) := by decide +kernel
theorem dX5_init_9 : decode cX5_init 9 = .ok (.invokespecial 9, 3) := by decide +kernel
theorem dX5_init_12 : decode cX5_init 12 = .ok (.putfield 10, 3) := by decide +kernel
theorem dX5_init_15 : decode cX5_init 15 = .ok (.aload_n 0, 1) := by decide +kernel
theorem dX5_init_16 : decode cX5_init 16 = .ok (.new 16, 3) := by decide +kernel
theorem dX5_init_19 : decode cX5_init 19 = .ok (.dup, 1) := by decide +kernel
theorem dX5_init_20 : decode cX5_init 20 = .ok (.invokespecial 18, 3) := by decide +kernel
theorem dX5_init_23 : decode cX5_init 23 = .ok (.putfield 19, 3) := by decide +kernel
theorem dX5_init_26 : decode cX5_init 26 = .ok (.aload_n 0, 1) := by decide +kernel
theorem dX5_init_27 : decode cX5_init 27 = .ok (.new 16, 3) := by decide +kernel
theorem dX5_init_30 : decode cX5_init 30 = .ok (.dup, 1) := by decide +kernel
theorem dX5_init_31 : decode cX5_init 31 = .ok (.invokespecial 18, 3) := by decide +kernel
theorem dX5_init_34 : decode cX5_init 34 = .ok (.putfield 23, 3) := by decide +kernel
theorem dX5_init_37 : decode cX5_init 37 = .ok (.aload_n 0, 1) := by decide +kernel
theorem dX5_init_38 : decode cX5_init 38 = .ok (.new 26, 3) := by decide +kernel
theorem dX5_init_41 : decode cX5_init 41 = .ok (.dup, 1) := by decide +kernel
theorem dX5_init_42 : decode cX5_init 42 = .ok (.invokespecial 28, 3) := by decide +kernel
theorem dX5_init_45 : decode cX5_init 45 = .ok (.putfield 29, 3) := by decide +kernel
theorem dX5_init_48 : decode cX5_init 48 = .ok (.aload_n 0, 1) := by decide +kernel
theorem dX5_init_49 : decode cX5_init 49 = .ok (.new 7, 3) := by decide +kernel
theorem dX5_init_52 : decode cX5_init 52 = .ok (.dup, 1) := by decide +kernel
theorem dX5_init_53 : decode cX5_init 53 = .ok (.invokespecial 9, 3) := by decide +kernel
theorem dX5_init_56 : decode cX5_init 56 = .ok (.putfield 33, 3) := by decide +kernel
theorem dX5_init_59 : decode cX5_init 59 = .ok (.aload_n 0, 1) := by decide +kernel
theorem dX5_init_60 : decode cX5_init 60 = .ok (.new 36, 3) := by decide +kernel
theorem dX5_init_63 : decode cX5_init 63 = .ok (.dup, 1) := by decide +kernel
theorem dX5_init_64 : decode cX5_init 64 = .ok (.invokespecial 38, 3) := by decide +kernel
theorem dX5_init_67 : decode cX5_init 67 = .ok (.putfield 39, 3) := by decide +kernel
theorem dX5_init_70 : decode cX5_init 70 = .ok (.return_, 1) := by decide +kernel
set_option maxRecDepth 20000 in
theorem ggX5_insert_X5_checkIndex : GoodIn wsX5_insert wsX5_checkIndex := goodIn_ca (goodIn_r _ [9, 10, 11] (by decide +kernel) (by decide +kernel)) (goodIn_sub (fun _ h => List.mem_cons_of_mem _ (List.mem_append_left _ (List.mem_append_right _ h))) (by decide +kernel))
set_option maxRecDepth 20000 in
theorem gX5_insert_X5_checkIndex : GoodIn wsX5_insert (va_wsS RX5 47 yX5_checkIndex wsX5_checkIndex) := goodIn_app (goodIn_of _ (by decide +kernel)) ggX5_insert_X5_checkIndex
set_option maxRecDepth 20000 in
theorem ggX5_insert_X5_checkRange : GoodIn wsX5_insert wsX5_checkRange := goodIn_ca (goodIn_r _ [14, 15, 16] (by decide +kernel) (by decide +kernel)) (goodIn_sub (fun _ h => List.mem_cons_of_mem _ (List.mem_append_right _ h)) (by decide +kernel))
set_option maxRecDepth 20000 in
theorem gX5_insert_X5_checkRange : GoodIn wsX5_insert (va_wsS RX5 51 yX5_checkRange wsX5_checkRange) := goodIn_app (goodIn_of _ (by decide +kernel)) ggX5_insert_X5_checkRange
set_option maxRecDepth 20000 in
theorem ggX5_insert_X5_checkSigns : GoodIn wsX5_insert wsX5_checkSigns := goodIn_ca (goodIn_r _ [19, 15, 16, 20, 21, 8, 22, 23, 24, 25] (by decide +kernel) (by decide +kernel)) (goodIn_sub (fun _ h => List.mem_cons_of_mem _ (List.mem_append_right _ h)) (by decide +kernel))
set_option maxRecDepth 20000 in
theorem gX5_insert_X5_checkSigns : GoodIn wsX5_insert (va_wsS RX5 55 yX5_checkSigns wsX5_checkSigns) := goodIn_app (goodIn_of _ (by decide +kernel)) ggX5_insert_X5_checkSigns
set_option maxRecDepth 20000 in
theorem ggX5_insert_X0_save : GoodIn wsX5_insert wsX0_save := goodIn_r _ [30, 31, 32, 33, 34, 29, 35, 36, 37, 38, 39, 40, 41, 42, 43, 44, 45, 46, 47, 48, 49, 50, 51, 52, 53, 54, 55, 56, 57, 58, 59, 60, 61, 62, 221, 222, 212, 213, 214, 215, 216, 217, 218, 219, 220] (by decide +kernel) (by decide +kernel)
set_option maxRecDepth 20000 in
theorem gX5_insert_X0_save : GoodIn wsX5_insert (wsV RX5 65 RX0 yX0_save wsX0_save) := goodIn_app (goodIn_of _ (by decide +kernel)) ggX5_insert_X0_save
set_option maxRecDepth 20000 in
theorem ggX5_insert_X3_open : GoodIn wsX5_insert wsX3_open := goodIn_r _ [66, 56, 58, 59, 60, 61, 62, 67, 68, 69, 44, 70, 71, 72, 73, 74, 57, 47, 48, 49, 50, 212, 213, 214, 215, 216, 217, 218, 219, 220] (by decide +kernel) (by decide +kernel)
set_option maxRecDepth 20000 in
theorem gX5_insert_X3_open : GoodIn wsX5_insert (wsV RX5 69 RX3 yX3_open wsX3_open) := goodIn_app (goodIn_of _ (by decide +kernel)) ggX5_insert_X3_open
set_option maxRecDepth 20000 in
theorem ggX5_insert_X3_addLetter : GoodIn wsX5_insert wsX3_addLetter := goodIn_r _ [78, 58, 57, 59, 79, 80, 81, 44, 82, 56, 212, 213, 214, 215, 216, 217, 218, 219, 220] (by decide +kernel) (by decide +kernel)
set_option maxRecDepth 20000 in
theorem gX5_insert_X3_addLetter : GoodIn wsX5_insert (wsV RX5 73 RX3 yX3_addLetter wsX3_addLetter) := goodIn_app (goodIn_of _ (by decide +kernel)) ggX5_insert_X3_addLetter
set_option maxRecDepth 20000 in
theorem ggX5_insert_X3_putSigns : GoodIn wsX5_insert wsX3_putSigns := goodIn_r _ [86, 60, 61, 79, 80, 81, 44, 82, 56, 212, 213, 214, 215, 216, 217, 218, 219, 220] (by decide +kernel) (by decide +kernel)
set_option maxRecDepth 20000 in
theorem gX5_insert_X3_putSigns : GoodIn wsX5_insert (wsV RX5 77 RX3 yX3_putSigns wsX3_putSigns) := goodIn_app (goodIn_of _ (by decide +kernel)) ggX5_insert_X3_putSigns
set_option maxRecDepth 20000 in
theorem ggX5_insert_X5_setLines : GoodIn wsX5_insert wsX5_setLines := goodIn_r _ [90, 91, 3, 92, 93, 94, 44, 95, 46, 96, 97, 98, 99, 100, 101, 102, 103, 48, 49, 50, 104, 105, 106, 107, 108, 109, 110, 111, 112, 113, 114, 115, 116, 117, 118, 119, 120, 73, 121, 122, 123, 124, 125, 72, 74, 126, 127, 128, 129, 130, 59, 60, 61, 79, 80, 81, 82, 56, 131, 8, 132, 133, 134, 135, 136, 137, 138, 139, 140, 141, 142, 143, 144, 145, 146, 147, 148, 149, 150, 151, 152, 153, 154, 51, 155, 156, 157, 158, 159, 160, 161, 162, 163, 164, 165, 166, 62, 167, 168, 169, 170, 171, 172, 173, 174, 175, 176, 177, 178, 179, 180, 181, 182, 183, 184, 185, 186, 187, 188, 189, 190, 191, 192, 193, 194, 195, 196, 197, 198, 199, 200, 201, 202, 203, 204, 205, 206, 207, 208, 209, 210, 211, 212, 213, 214, 215, 216, 217, 218, 219, 220, 223, 224, 225, 226, 227, 228, 229, 230, 231, 232, 233, 234, 235, 236, 237] (by decide +kernel) (by decide +kernel)
set_option maxRecDepth 20000 in
theorem gX5_insert_X5_setLines : GoodIn wsX5_insert (wsV RX5 80 RX5 yX5_setLines wsX5_setLines) := goodIn_app (goodIn_of _ (by decide +kernel)) ggX5_insert_X5_setLines
theorem dX5_insert_0 : decode cX5_insert 0 = .ok (.iload_n 1, 1) := by decide +kernel
theorem dX5_insert_1 : decode cX5_insert 1 = .ok (.aload_n 0, 1) := by decide +kernel
theorem dX5_insert_2 : decode cX5_insert 2 = .ok (.getfield 10, 3) := by decide +kernel
theorem dX5_insert_5 : decode cX5_insert 5 = .ok (.getfield 43, 3) := by decide +kernel
theorem dX5_insert_8 : decode cX5_insert 8 = .ok (.iconst 1, 1) := by decide +kernel
theorem dX5_insert_9 : decode cX5_insert 9 = .ok (.iadd, 1) := by decide +kernel
theorem dX5_insert_10 : decode cX5_insert 10 = .ok (.invokestatic 47, 3) := by decide +kernel
theorem dX5_insert_13 : decode cX5_insert 13 = .ok (.iload_n 2, 1) := by decide +kernel
theorem dX5_insert_14 : decode cX5_insert 14 = .ok (.iconst 0, 1) := by decide +kernel
theorem dX5_insert_15 : decode cX5_insert 15 = .ok (.bipush 25, 2) := by decide +kernel
theorem dX5_insert_17 : decode cX5_insert 17 = .ok (.invokestatic 51, 3) := by decide +kernel
theorem dX5_insert_20 : decode cX5_insert 20 = .ok (.iload_n 3, 1) := by decide +kernel
theorem dX5_insert_21 : decode cX5_insert 21 = .ok (.iconst 1, 1) := by decide +kernel
theorem dX5_insert_22 : decode cX5_insert 22 = .ok (.bipush 12, 2) := by decide +kernel
theorem dX5_insert_24 : decode cX5_insert 24 = .ok (.invokestatic 51, 3) := by decide +kernel
theorem dX5_insert_27 : decode cX5_insert 27 = .ok (.iload 4, 2) := by decide +kernel
theorem dX5_insert_29 : decode cX5_insert 29 = .ok (.iload 5, 2) := by decide +kernel
theorem dX5_insert_31 : decode cX5_insert 31 = .ok (.invokestatic 55, 3) := by decide +kernel
theorem dX5_insert_34 : decode cX5_insert 34 = .ok (.aload_n 0, 1) := by decide +kernel
theorem dX5_insert_35 : decode cX5_insert 35 = .ok (.getfield 10, 3) := by decide +kernel
theorem dX5_insert_38 : decode cX5_insert 38 = .ok (.getfield 43, 3) := by decide +kernel
theorem dX5_insert_41 : decode cX5_insert 41 = .ok (.bipush 60, 2) := by decide +kernel
theorem dX5_insert_43 : decode cX5_insert 43 = .ok (.if_icmp .lt 13, 3) := by decide +kernel
theorem dX5_insert_46 : decode cX5_insert 46 = .ok (.new 58, 3) := by decide +kernel
theorem dX5_insert_49 : decode cX5_insert 49 = .ok (.dup, 1) := by decide +kernel
theorem dX5_insert_50 : decode cX5_insert 50 = .ok (.ldc 60, 2) := by decide +kernel
theorem dX5_insert_52 : decode cX5_insert 52 = .ok (.invokespecial 62, 3) := by decide +kernel
theorem dX5_insert_55 : decode cX5_insert 55 = .ok (.athrow, 1) := by decide +kernel
theorem dX5_insert_56 : decode cX5_insert 56 = .ok (.aload_n 0, 1) := by decide +kernel
theorem dX5_insert_57 : decode cX5_insert 57 = .ok (.getfield 39, 3) := by decide +kernel
theorem dX5_insert_60 : decode cX5_insert 60 = .ok (.aload_n 0, 1) := by decide +kernel
theorem dX5_insert_61 : decode cX5_insert 61 = .ok (.getfield 10, 3) := by decide +kernel
theorem dX5_insert_64 : decode cX5_insert 64 = .ok (.invokevirtual 65, 3) := by decide +kernel
theorem dX5_insert_67 : decode cX5_insert 67 = .ok (.aload_n 0, 1) := by decide +kernel
theorem dX5_insert_68 : decode cX5_insert 68 = .ok (.getfield 10, 3) := by decide +kernel
theorem dX5_insert_71 : decode cX5_insert 71 = .ok (.iload_n 1, 1) := by decide +kernel
theorem dX5_insert_72 : decode cX5_insert 72 = .ok (.invokevirtual 69, 3) := by decide +kernel
theorem dX5_insert_75 : decode cX5_insert 75 = .ok (.iconst 0, 1) := by decide +kernel
theorem dX5_insert_76 : decode cX5_insert 76 = .ok (.istore 6, 2) := by decide +kernel
theorem dX5_insert_78 : decode cX5_insert 78 = .ok (.iload 6, 2) := by decide +kernel
theorem dX5_insert_80 : decode cX5_insert 80 = .ok (.iload_n 3, 1) := by decide +kernel
theorem dX5_insert_81 : decode cX5_insert 81 = .ok (.if_icmp .ge 25, 3) := by decide +kernel
theorem dX5_insert_84 : decode cX5_insert 84 = .ok (.aload_n 0, 1) := by decide +kernel
theorem dX5_insert_85 : decode cX5_insert 85 = .ok (.getfield 10, 3) := by decide +kernel
theorem dX5_insert_88 : decode cX5_insert 88 = .ok (.iload_n 1, 1) := by decide +kernel
theorem dX5_insert_89 : decode cX5_insert 89 = .ok (.iload_n 2, 1) := by decide +kernel
theorem dX5_insert_90 : decode cX5_insert 90 = .ok (.iload 6, 2) := by decide +kernel
theorem dX5_insert_92 : decode cX5_insert 92 = .ok (.iadd, 1) := by decide +kernel
theorem dX5_insert_93 : decode cX5_insert 93 = .ok (.bipush 26, 2) := by decide +kernel
theorem dX5_insert_95 : decode cX5_insert 95 = .ok (.irem, 1) := by decide +kernel
theorem dX5_insert_96 : decode cX5_insert 96 = .ok (.invokevirtual 73, 3) := by decide +kernel
theorem dX5_insert_99 : decode cX5_insert 99 = .ok (.pop, 1) := by decide +kernel
theorem dX5_insert_100 : decode cX5_insert 100 = .ok (.iinc 6 1, 3) := by decide +kernel
theorem dX5_insert_103 : decode cX5_insert 103 = .ok (.goto (-25), 3) := by decide +kernel
theorem dX5_insert_106 : decode cX5_insert 106 = .ok (.aload_n 0, 1) := by decide +kernel
theorem dX5_insert_107 : decode cX5_insert 107 = .ok (.getfield 10, 3) := by decide +kernel
theorem dX5_insert_110 : decode cX5_insert 110 = .ok (.iload_n 1, 1) := by decide +kernel
theorem dX5_insert_111 : decode cX5_insert 111 = .ok (.iload 4, 2) := by decide +kernel
theorem dX5_insert_113 : decode cX5_insert 113 = .ok (.iload 5, 2) := by decide +kernel
theorem dX5_insert_115 : decode cX5_insert 115 = .ok (.invokevirtual 77, 3) := by decide +kernel
theorem dX5_insert_118 : decode cX5_insert 118 = .ok (.aload_n 0, 1) := by decide +kernel
theorem dX5_insert_119 : decode cX5_insert 119 = .ok (.invokevirtual 80, 3) := by decide +kernel
theorem dX5_insert_122 : decode cX5_insert 122 = .ok (.aload_n 0, 1) := by decide +kernel
theorem dX5_insert_123 : decode cX5_insert 123 = .ok (.getfield 10, 3) := by decide +kernel
theorem dX5_insert_126 : decode cX5_insert 126 = .ok (.getfield 43, 3) := by decide +kernel
theorem dX5_insert_129 : decode cX5_insert 129 = .ok (.ireturn, 1) := by decide +kernel
set_option maxRecDepth 20000 in
theorem ggX5_removeWord_X5_checkIndex : GoodIn wsX5_removeWord wsX5_checkIndex := goodIn_ca (goodIn_r _ [7, 8, 9] (by decide +kernel) (by decide +kernel)) (goodIn_sub (fun _ h => List.mem_cons_of_mem _ (List.mem_append_right _ h)) (by decide +kernel))
set_option maxRecDepth 20000 in
theorem gX5_removeWord_X5_checkIndex : GoodIn wsX5_removeWord (va_wsS RX5 47 yX5_checkIndex wsX5_checkIndex) := goodIn_app (goodIn_of _ (by decide +kernel)) ggX5_removeWord_X5_checkIndex
set_option maxRecDepth 20000 in
theorem ggX5_removeWord_X0_save : GoodIn wsX5_removeWord wsX0_save := goodIn_r _ [14, 15, 16, 17, 18, 13, 19, 20, 21, 22, 23, 24, 25, 26, 27, 28, 29, 30, 31, 32, 33, 34, 35, 36, 37, 38, 39, 40, 41, 42, 43, 44, 45, 46, 197, 198, 188, 189, 190, 191, 192, 193, 194, 195, 196] (by decide +kernel) (by decide +kernel)
set_option maxRecDepth 20000 in
theorem gX5_removeWord_X0_save : GoodIn wsX5_removeWord (wsV RX5 65 RX0 yX0_save wsX0_save) := goodIn_app (goodIn_of _ (by decide +kernel)) ggX5_removeWord_X0_save
set_option maxRecDepth 20000 in
theorem ggX5_removeWord_X3_close : GoodIn wsX5_removeWord wsX3_close := goodIn_r _ [50, 40, 51, 52, 53, 28, 54, 55, 56, 57, 58, 59, 60, 61, 62, 41, 31, 32, 33, 34, 42, 43, 44, 45, 46, 188, 189, 190, 191, 192, 193, 194, 195, 196] (by decide +kernel) (by decide +kernel)
set_option maxRecDepth 20000 in
theorem gX5_removeWord_X3_close : GoodIn wsX5_removeWord (wsV RX5 83 RX3 yX3_close wsX3_close) := goodIn_app (goodIn_of _ (by decide +kernel)) ggX5_removeWord_X3_close
set_option maxRecDepth 20000 in
theorem ggX5_removeWord_X5_setLines : GoodIn wsX5_removeWord wsX5_setLines := goodIn_r _ [66, 67, 1, 68, 69, 70, 28, 71, 30, 72, 73, 74, 75, 76, 77, 78, 79, 32, 33, 34, 80, 81, 82, 83, 84, 85, 86, 87, 88, 89, 90, 91, 92, 93, 94, 95, 96, 61, 97, 98, 99, 100, 101, 60, 62, 102, 103, 104, 105, 106, 43, 44, 45, 51, 52, 53, 54, 40, 107, 6, 108, 109, 110, 111, 112, 113, 114, 115, 116, 117, 118, 119, 120, 121, 122, 123, 124, 125, 126, 127, 128, 129, 130, 35, 131, 132, 133, 134, 135, 136, 137, 138, 139, 140, 141, 142, 46, 143, 144, 145, 146, 147, 148, 149, 150, 151, 152, 153, 154, 155, 156, 157, 158, 159, 160, 161, 162, 163, 164, 165, 166, 167, 168, 169, 170, 171, 172, 173, 174, 175, 176, 177, 178, 179, 180, 181, 182, 183, 184, 185, 186, 187, 188, 189, 190, 191, 192, 193, 194, 195, 196, 199, 200, 201, 202, 203, 204, 205, 206, 207, 208, 209, 210, 211, 212, 213] (by decide +kernel) (by decide +kernel)
set_option maxRecDepth 20000 in
theorem gX5_removeWord_X5_setLines : GoodIn wsX5_removeWord (wsV RX5 80 RX5 yX5_setLines wsX5_setLines) := goodIn_app (goodIn_of _ (by decide +kernel)) ggX5_removeWord_X5_setLines
theorem dX5_removeWord_0 : decode cX5_removeWord 0 = .ok (.iload_n 1, 1) := by decide +kernel
theorem dX5_removeWord_1 : decode cX5_removeWord 1 = .ok (.aload_n 0, 1) := by decide +kernel
theorem dX5_removeWord_2 : decode cX5_removeWord 2 = .ok (.getfield 10, 3) := by decide +kernel
theorem dX5_removeWord_5 : decode cX5_removeWord 5 = .ok (.getfield 43, 3) := by decide +kernel
theorem dX5_removeWord_8 : decode cX5_removeWord 8 = .ok (.invokestatic 47, 3) := by decide +kernel
theorem dX5_removeWord_11 : decode cX5_removeWord 11 = .ok (.aload_n 0, 1) := by decide +kernel
theorem dX5_removeWord_12 : decode cX5_removeWord 12 = .ok (.getfield 39, 3) := by decide +kernel
theorem dX5_removeWord_15 : decode cX5_removeWord 15 = .ok (.aload_n 0, 1) := by decide +kernel
theorem dX5_removeWord_16 : decode cX5_removeWord 16 = .ok (.getfield 10, 3) := by decide +kernel
theorem dX5_removeWord_19 : decode cX5_removeWord 19 = .ok (.invokevirtual 65, 3) := by decide +kernel
theorem dX5_removeWord_22 : decode cX5_removeWord 22 = .ok (.aload_n 0, 1) := by decide +kernel
theorem dX5_removeWord_23 : decode cX5_removeWord 23 = .ok (.getfield 10, 3) := by decide +kernel
theorem dX5_removeWord_26 : decode cX5_removeWord 26 = .ok (.iload_n 1, 1) := by decide +kernel
theorem dX5_removeWord_27 : decode cX5_removeWord 27 = .ok (.invokevirtual 83, 3) := by decide +kernel
theorem dX5_removeWord_30 : decode cX5_removeWord 30 = .ok (.aload_n 0, 1) := by decide +kernel
theorem dX5_removeWord_31 : decode cX5_removeWord 31 = .ok (.invokevirtual 80, 3) := by decide +kernel
theorem dX5_removeWord_34 : decode cX5_removeWord 34 = .ok (.aload_n 0, 1) := by decide +kernel
theorem dX5_removeWord_35 : decode cX5_removeWord 35 = .ok (.getfield 10, 3) := by decide +kernel
theorem dX5_removeWord_38 : decode cX5_removeWord 38 = .ok (.getfield 43, 3) := by decide +kernel
theorem dX5_removeWord_41 : decode cX5_removeWord 41 = .ok (.ireturn, 1) := by decide +kernel
set_option maxRecDepth 20000 in
theorem ggX5_endParagraph_X5_checkIndex : GoodIn wsX5_endParagraph wsX5_checkIndex := goodIn_ca (goodIn_r _ [7, 8, 9] (by decide +kernel) (by decide +kernel)) (goodIn_sub (fun _ h => List.mem_cons_of_mem _ (List.mem_append_right _ h)) (by decide +kernel))
set_option maxRecDepth 20000 in
theorem gX5_endParagraph_X5_checkIndex : GoodIn wsX5_endParagraph (va_wsS RX5 47 yX5_checkIndex wsX5_checkIndex) := goodIn_app (goodIn_of _ (by decide +kernel)) ggX5_endParagraph_X5_checkIndex
set_option maxRecDepth 20000 in
theorem ggX5_endParagraph_X0_save : GoodIn wsX5_endParagraph wsX0_save := goodIn_r _ [14, 15, 16, 17, 18, 13, 19, 20, 21, 22, 23, 24, 25, 26, 27, 28, 29, 30, 31, 32, 33, 34, 35, 36, 37, 38, 39, 40, 41, 42, 43, 44, 45, 46, 196, 197, 187, 188, 189, 190, 191, 192, 193, 194, 195] (by decide +kernel) (by decide +kernel)
set_option maxRecDepth 20000 in
theorem gX5_endParagraph_X0_save : GoodIn wsX5_endParagraph (wsV RX5 65 RX0 yX0_save wsX0_save) := goodIn_app (goodIn_of _ (by decide +kernel)) ggX5_endParagraph_X0_save
set_option maxRecDepth 20000 in
theorem ggX5_endParagraph_X3_wasSetToEnd : GoodIn wsX5_endParagraph wsX3_wasSetToEnd := goodIn_r _ [50, 46, 51, 52, 53, 28, 54, 40, 187, 188, 189, 190, 191, 192, 193, 194, 195] (by decide +kernel) (by decide +kernel)
set_option maxRecDepth 20000 in
theorem gX5_endParagraph_X3_wasSetToEnd : GoodIn wsX5_endParagraph (wsV RX5 86 RX3 yX3_wasSetToEnd wsX3_wasSetToEnd) := goodIn_app (goodIn_of _ (by decide +kernel)) ggX5_endParagraph_X3_wasSetToEnd
set_option maxRecDepth 20000 in
theorem ggX5_endParagraph_X3_putEnd : GoodIn wsX5_endParagraph wsX3_putEnd := goodIn_r _ [58, 46, 51, 52, 53, 28, 54, 40, 187, 188, 189, 190, 191, 192, 193, 194, 195] (by decide +kernel) (by decide +kernel)
set_option maxRecDepth 20000 in
theorem gX5_endParagraph_X3_putEnd : GoodIn wsX5_endParagraph (wsV RX5 90 RX3 yX3_putEnd wsX3_putEnd) := goodIn_app (goodIn_of _ (by decide +kernel)) ggX5_endParagraph_X3_putEnd
set_option maxRecDepth 20000 in
theorem ggX5_endParagraph_X5_setLines : GoodIn wsX5_endParagraph wsX5_setLines := goodIn_r _ [62, 63, 1, 64, 65, 66, 28, 67, 30, 68, 69, 70, 71, 72, 73, 74, 75, 32, 33, 34, 76, 77, 78, 79, 80, 81, 82, 83, 84, 85, 86, 87, 88, 89, 90, 91, 92, 93, 94, 95, 96, 97, 98, 99, 100, 101, 102, 103, 104, 105, 43, 44, 45, 51, 52, 53, 54, 40, 106, 6, 107, 108, 109, 110, 111, 112, 113, 114, 115, 116, 117, 118, 119, 120, 121, 122, 123, 124, 125, 126, 127, 128, 129, 35, 130, 131, 132, 133, 134, 135, 136, 137, 138, 139, 140, 141, 46, 142, 143, 144, 145, 146, 147, 148, 149, 150, 151, 152, 153, 154, 155, 156, 157, 158, 159, 160, 161, 162, 163, 164, 165, 166, 167, 168, 169, 170, 171, 172, 173, 174, 175, 176, 177, 178, 179, 180, 181, 182, 183, 184, 185, 186, 187, 188, 189, 190, 191, 192, 193, 194, 195, 198, 199, 200, 201, 202, 203, 204, 205, 206, 207, 208, 209, 210, 211, 212] (by decide +kernel) (by decide +kernel)
set_option maxRecDepth 20000 in
theorem gX5_endParagraph_X5_setLines : GoodIn wsX5_endParagraph (wsV RX5 80 RX5 yX5_setLines wsX5_setLines) := goodIn_app (goodIn_of _ (by decide +kernel)) ggX5_endParagraph_X5_setLines
theorem dX5_endParagraph_0 : decode cX5_endParagraph 0 = .ok (.iload_n 1, 1) := by decide +kernel
theorem dX5_endParagraph_1 : decode cX5_endParagraph 1 = .ok (.aload_n 0, 1) := by decide +kernel
theorem dX5_endParagraph_2 : decode cX5_endParagraph 2 = .ok (.getfield 10, 3) := by decide +kernel
theorem dX5_endParagraph_5 : decode cX5_endParagraph 5 = .ok (.getfield 43, 3) := by decide +kernel
theorem dX5_endParagraph_8 : decode cX5_endParagraph 8 = .ok (.invokestatic 47, 3) := by decide +kernel
theorem dX5_endParagraph_11 : decode cX5_endParagraph 11 = .ok (.aload_n 0, 1) := by decide +kernel
theorem dX5_endParagraph_12 : decode cX5_endParagraph 12 = .ok (.getfield 39, 3) := by decide +kernel
theorem dX5_endParagraph_15 : decode cX5_endParagraph 15 = .ok (.aload_n 0, 1) := by decide +kernel
theorem dX5_endParagraph_16 : decode cX5_endParagraph 16 = .ok (.getfield 10, 3) := by decide +kernel
theorem dX5_endParagraph_19 : decode cX5_endParagraph 19 = .ok (.invokevirtual 65, 3) := by decide +kernel
theorem dX5_endParagraph_22 : decode cX5_endParagraph 22 = .ok (.aload_n 0, 1) := by decide +kernel
theorem dX5_endParagraph_23 : decode cX5_endParagraph 23 = .ok (.getfield 10, 3) := by decide +kernel
theorem dX5_endParagraph_26 : decode cX5_endParagraph 26 = .ok (.iload_n 1, 1) := by decide +kernel
theorem dX5_endParagraph_27 : decode cX5_endParagraph 27 = .ok (.invokevirtual 86, 3) := by decide +kernel
theorem dX5_endParagraph_30 : decode cX5_endParagraph 30 = .ok (.ifCond .eq 7, 3) := by decide +kernel
theorem dX5_endParagraph_33 : decode cX5_endParagraph 33 = .ok (.iconst 1, 1) := by decide +kernel
theorem dX5_endParagraph_34 : decode cX5_endParagraph 34 = .ok (.goto 4, 3) := by decide +kernel
theorem dX5_endParagraph_37 : decode cX5_endParagraph 37 = .ok (.iconst 0, 1) := by decide +kernel
theorem dX5_endParagraph_38 : decode cX5_endParagraph 38 = .ok (.istore_n 3, 1) := by decide +kernel
theorem dX5_endParagraph_39 : decode cX5_endParagraph 39 = .ok (.aload_n 0, 1) := by decide +kernel
theorem dX5_endParagraph_40 : decode cX5_endParagraph 40 = .ok (.getfield 10, 3) := by decide +kernel
theorem dX5_endParagraph_43 : decode cX5_endParagraph 43 = .ok (.iload_n 1, 1) := by decide +kernel
theorem dX5_endParagraph_44 : decode cX5_endParagraph 44 = .ok (.iload_n 2, 1) := by decide +kernel
theorem dX5_endParagraph_45 : decode cX5_endParagraph 45 = .ok (.invokevirtual 90, 3) := by decide +kernel
theorem dX5_endParagraph_48 : decode cX5_endParagraph 48 = .ok (.aload_n 0, 1) := by decide +kernel
theorem dX5_endParagraph_49 : decode cX5_endParagraph 49 = .ok (.invokevirtual 80, 3) := by decide +kernel
theorem dX5_endParagraph_52 : decode cX5_endParagraph 52 = .ok (.iload_n 3, 1) := by decide +kernel
theorem dX5_endParagraph_53 : decode cX5_endParagraph 53 = .ok (.ireturn, 1) := by decide +kernel
set_option maxRecDepth 20000 in
theorem ggX5_setSigns_X5_checkIndex : GoodIn wsX5_setSigns wsX5_checkIndex := goodIn_ca (goodIn_r _ [7, 8, 9] (by decide +kernel) (by decide +kernel)) (goodIn_sub (fun _ h => List.mem_cons_of_mem _ (List.mem_append_left _ (List.mem_append_right _ h))) (by decide +kernel))
set_option maxRecDepth 20000 in
theorem gX5_setSigns_X5_checkIndex : GoodIn wsX5_setSigns (va_wsS RX5 47 yX5_checkIndex wsX5_checkIndex) := goodIn_app (goodIn_of _ (by decide +kernel)) ggX5_setSigns_X5_checkIndex
set_option maxRecDepth 20000 in
theorem ggX5_setSigns_X5_checkSigns : GoodIn wsX5_setSigns wsX5_checkSigns := goodIn_ca (goodIn_r _ [12, 13, 14, 15, 16, 6, 17, 18, 19, 20] (by decide +kernel) (by decide +kernel)) (goodIn_sub (fun _ h => List.mem_cons_of_mem _ (List.mem_append_right _ h)) (by decide +kernel))
set_option maxRecDepth 20000 in
theorem gX5_setSigns_X5_checkSigns : GoodIn wsX5_setSigns (va_wsS RX5 55 yX5_checkSigns wsX5_checkSigns) := goodIn_app (goodIn_of _ (by decide +kernel)) ggX5_setSigns_X5_checkSigns
set_option maxRecDepth 20000 in
theorem ggX5_setSigns_X0_save : GoodIn wsX5_setSigns wsX0_save := goodIn_r _ [25, 26, 27, 28, 29, 24, 30, 31, 32, 33, 34, 35, 36, 37, 38, 39, 40, 41, 42, 43, 44, 45, 46, 47, 48, 49, 50, 51, 52, 53, 54, 55, 56, 57, 204, 205, 195, 196, 197, 198, 199, 200, 201, 202, 203] (by decide +kernel) (by decide +kernel)
set_option maxRecDepth 20000 in
theorem gX5_setSigns_X0_save : GoodIn wsX5_setSigns (wsV RX5 65 RX0 yX0_save wsX0_save) := goodIn_app (goodIn_of _ (by decide +kernel)) ggX5_setSigns_X0_save
set_option maxRecDepth 20000 in
theorem ggX5_setSigns_X3_putSigns : GoodIn wsX5_setSigns wsX3_putSigns := goodIn_r _ [61, 55, 56, 62, 63, 64, 39, 65, 51, 195, 196, 197, 198, 199, 200, 201, 202, 203] (by decide +kernel) (by decide +kernel)
set_option maxRecDepth 20000 in
theorem gX5_setSigns_X3_putSigns : GoodIn wsX5_setSigns (wsV RX5 77 RX3 yX3_putSigns wsX3_putSigns) := goodIn_app (goodIn_of _ (by decide +kernel)) ggX5_setSigns_X3_putSigns
set_option maxRecDepth 20000 in
theorem ggX5_setSigns_X5_setLines : GoodIn wsX5_setSigns wsX5_setLines := goodIn_r _ [69, 70, 1, 71, 72, 73, 39, 74, 41, 75, 76, 77, 78, 79, 80, 81, 82, 43, 44, 45, 83, 84, 85, 86, 87, 88, 89, 90, 91, 92, 93, 94, 95, 96, 97, 98, 99, 100, 101, 102, 103, 104, 105, 106, 107, 108, 109, 110, 111, 112, 54, 55, 56, 62, 63, 64, 65, 51, 113, 6, 114, 115, 116, 117, 118, 119, 120, 121, 122, 123, 124, 125, 126, 127, 128, 129, 130, 131, 132, 133, 134, 135, 136, 46, 137, 138, 139, 140, 141, 142, 143, 144, 145, 146, 147, 148, 57, 149, 150, 151, 152, 153, 154, 155, 156, 157, 158, 159, 160, 161, 162, 163, 164, 165, 166, 167, 168, 169, 170, 171, 172, 173, 174, 175, 176, 177, 178, 179, 180, 181, 182, 183, 184, 185, 186, 187, 189, 190, 191, 192, 193, 194, 195, 196, 197, 198, 199, 200, 201, 202, 203, 206, 207, 208, 209, 210, 211, 212, 213, 214, 215, 216, 217, 218, 219, 220] (by decide +kernel) (by decide +kernel)
set_option maxRecDepth 20000 in
theorem gX5_setSigns_X5_setLines : GoodIn wsX5_setSigns (wsV RX5 80 RX5 yX5_setLines wsX5_setLines) := goodIn_app (goodIn_of _ (by decide +kernel)) ggX5_setSigns_X5_setLines
set_option maxRecDepth 20000 in
theorem ggX5_setSigns_X3_widthOf : GoodIn wsX5_setSigns wsX3_widthOf := goodIn_r _ [112, 54, 55, 56, 62, 63, 64, 39, 65, 51, 113, 6, 114, 115, 195, 196, 197, 198, 199, 200, 201, 202, 203] (by decide +kernel) (by decide +kernel)
set_option maxRecDepth 20000 in
theorem gX5_setSigns_X3_widthOf : GoodIn wsX5_setSigns (wsV RX5 94 RX3 yX3_widthOf wsX3_widthOf) := goodIn_app (goodIn_of _ (by decide +kernel)) ggX5_setSigns_X3_widthOf
theorem dX5_setSigns_0 : decode cX5_setSigns 0 = .ok (.iload_n 1, 1) := by decide +kernel
theorem dX5_setSigns_1 : decode cX5_setSigns 1 = .ok (.aload_n 0, 1) := by decide +kernel
theorem dX5_setSigns_2 : decode cX5_setSigns 2 = .ok (.getfield 10, 3) := by decide +kernel
theorem dX5_setSigns_5 : decode cX5_setSigns 5 = .ok (.getfield 43, 3) := by decide +kernel
theorem dX5_setSigns_8 : decode cX5_setSigns 8 = .ok (.invokestatic 47, 3) := by decide +kernel
theorem dX5_setSigns_11 : decode cX5_setSigns 11 = .ok (.iload_n 2, 1) := by decide +kernel
theorem dX5_setSigns_12 : decode cX5_setSigns 12 = .ok (.iload_n 3, 1) := by decide +kernel
theorem dX5_setSigns_13 : decode cX5_setSigns 13 = .ok (.invokestatic 55, 3) := by decide +kernel
theorem dX5_setSigns_16 : decode cX5_setSigns 16 = .ok (.aload_n 0, 1) := by decide +kernel
theorem dX5_setSigns_17 : decode cX5_setSigns 17 = .ok (.getfield 39, 3) := by decide +kernel
theorem dX5_setSigns_20 : decode cX5_setSigns 20 = .ok (.aload_n 0, 1) := by decide +kernel
theorem dX5_setSigns_21 : decode cX5_setSigns 21 = .ok (.getfield 10, 3) := by decide +kernel
theorem dX5_setSigns_24 : decode cX5_setSigns 24 = .ok (.invokevirtual 65, 3) := by decide +kernel
theorem dX5_setSigns_27 : decode cX5_setSigns 27 = .ok (.aload_n 0, 1) := by decide +kernel
theorem dX5_setSigns_28 : decode cX5_setSigns 28 = .ok (.getfield 10, 3) := by decide +kernel
theorem dX5_setSigns_31 : decode cX5_setSigns 31 = .ok (.iload_n 1, 1) := by decide +kernel
theorem dX5_setSigns_32 : decode cX5_setSigns 32 = .ok (.iload_n 2, 1) := by decide +kernel
theorem dX5_setSigns_33 : decode cX5_setSigns 33 = .ok (.iload_n 3, 1) := by decide +kernel
theorem dX5_setSigns_34 : decode cX5_setSigns 34 = .ok (.invokevirtual 77, 3) := by decide +kernel
theorem dX5_setSigns_37 : decode cX5_setSigns 37 = .ok (.aload_n 0, 1) := by decide +kernel
theorem dX5_setSigns_38 : decode cX5_setSigns 38 = .ok (.invokevirtual 80, 3) := by decide +kernel
theorem dX5_setSigns_41 : decode cX5_setSigns 41 = .ok (.aload_n 0, 1) := by decide +kernel
theorem dX5_setSigns_42 : decode cX5_setSigns 42 = .ok (.getfield 10, 3) := by decide +kernel
theorem dX5_setSigns_45 : decode cX5_setSigns 45 = .ok (.iload_n 1, 1) := by decide +kernel
theorem dX5_setSigns_46 : decode cX5_setSigns 46 = .ok (.invokevirtual 94, 3) := by decide +kernel
theorem dX5_setSigns_49 : decode cX5_setSigns 49 = .ok (.ireturn, 1) := by decide +kernel
set_option maxRecDepth 20000 in
theorem ggX5_set_X5_checkRange : GoodIn wsX5_set wsX5_checkRange := goodIn_ca (goodIn_r _ [9, 10, 11] (by decide +kernel) (by decide +kernel)) (goodIn_sub (fun _ h => List.mem_cons_of_mem _ (List.mem_append_right _ h)) (by decide +kernel))
set_option maxRecDepth 20000 in
theorem gX5_set_X5_checkRange : GoodIn wsX5_set (va_wsS RX5 51 yX5_checkRange wsX5_checkRange) := goodIn_app (goodIn_of _ (by decide +kernel)) ggX5_set_X5_checkRange
set_option maxRecDepth 20000 in
theorem ggX5_set_X0_save : GoodIn wsX5_set wsX0_save := goodIn_r _ [16, 17, 18, 19, 20, 15, 21, 22, 23, 24, 25, 26, 27, 28, 29, 30, 31, 32, 33, 34, 35, 36, 37, 38, 39, 40, 41, 42, 43, 44, 45, 46, 47, 48, 190, 191, 181, 182, 183, 184, 185, 186, 187, 188, 189] (by decide +kernel) (by decide +kernel)
set_option maxRecDepth 20000 in
theorem gX5_set_X0_save : GoodIn wsX5_set (wsV RX5 65 RX0 yX0_save wsX0_save) := goodIn_app (goodIn_of _ (by decide +kernel)) ggX5_set_X0_save
set_option maxRecDepth 20000 in
theorem ggX5_set_X3_setting : GoodIn wsX5_set wsX3_setting := goodIn_r _ [52, 32, 181, 182, 183, 184, 185, 186, 187, 188, 189] (by decide +kernel) (by decide +kernel)
set_option maxRecDepth 20000 in
theorem gX5_set_X3_setting : GoodIn wsX5_set (wsV RX5 105 RX3 yX3_setting wsX3_setting) := goodIn_app (goodIn_of _ (by decide +kernel)) ggX5_set_X3_setting
set_option maxRecDepth 20000 in
theorem ggX5_set_X5_setLines : GoodIn wsX5_set wsX5_setLines := goodIn_r _ [56, 57, 4, 49, 50, 51, 30, 52, 32, 58, 59, 60, 61, 62, 63, 64, 65, 34, 35, 36, 66, 67, 68, 69, 70, 71, 72, 73, 74, 75, 76, 77, 78, 79, 80, 81, 82, 83, 84, 85, 86, 87, 88, 89, 90, 91, 92, 93, 94, 95, 45, 46, 47, 96, 97, 98, 99, 42, 100, 8, 101, 102, 103, 104, 105, 106, 107, 108, 109, 110, 111, 112, 113, 114, 115, 116, 117, 118, 119, 120, 121, 122, 123, 37, 124, 125, 126, 127, 128, 129, 130, 131, 132, 133, 134, 135, 48, 136, 137, 138, 139, 140, 141, 142, 143, 144, 145, 146, 147, 148, 149, 150, 151, 152, 153, 154, 155, 156, 157, 158, 159, 160, 161, 162, 163, 164, 165, 166, 167, 168, 169, 170, 171, 172, 173, 174, 175, 176, 177, 178, 179, 180, 181, 182, 183, 184, 185, 186, 187, 188, 189, 192, 193, 194, 195, 196, 197, 198, 199, 200, 201, 202, 203, 204, 205, 206] (by decide +kernel) (by decide +kernel)
set_option maxRecDepth 20000 in
theorem gX5_set_X5_setLines : GoodIn wsX5_set (wsV RX5 80 RX5 yX5_setLines wsX5_setLines) := goodIn_app (goodIn_of _ (by decide +kernel)) ggX5_set_X5_setLines
theorem dX5_set_0 : decode cX5_set 0 = .ok (.iload_n 1, 1) := by decide +kernel
theorem dX5_set_1 : decode cX5_set 1 = .ok (.iconst 0, 1) := by decide +kernel
theorem dX5_set_2 : decode cX5_set 2 = .ok (.iconst 5, 1) := by decide +kernel
theorem dX5_set_3 : decode cX5_set 3 = .ok (.invokestatic 51, 3) := by decide +kernel
theorem dX5_set_6 : decode cX5_set 6 = .ok (.iload_n 2, 1) := by decide +kernel
theorem dX5_set_7 : decode cX5_set 7 = .ok (.getstatic 98, 3) := by decide +kernel
theorem dX5_set_10 : decode cX5_set 10 = .ok (.iload_n 1, 1) := by decide +kernel
theorem dX5_set_11 : decode cX5_set 11 = .ok (.iaload, 1) := by decide +kernel
theorem dX5_set_12 : decode cX5_set 12 = .ok (.getstatic 102, 3) := by decide +kernel
theorem dX5_set_15 : decode cX5_set 15 = .ok (.iload_n 1, 1) := by decide +kernel
theorem dX5_set_16 : decode cX5_set 16 = .ok (.iaload, 1) := by decide +kernel
theorem dX5_set_17 : decode cX5_set 17 = .ok (.invokestatic 51, 3) := by decide +kernel
theorem dX5_set_20 : decode cX5_set 20 = .ok (.aload_n 0, 1) := by decide +kernel
theorem dX5_set_21 : decode cX5_set 21 = .ok (.getfield 39, 3) := by decide +kernel
theorem dX5_set_24 : decode cX5_set 24 = .ok (.aload_n 0, 1) := by decide +kernel
theorem dX5_set_25 : decode cX5_set 25 = .ok (.getfield 10, 3) := by decide +kernel
theorem dX5_set_28 : decode cX5_set 28 = .ok (.invokevirtual 65, 3) := by decide +kernel
theorem dX5_set_31 : decode cX5_set 31 = .ok (.aload_n 0, 1) := by decide +kernel
theorem dX5_set_32 : decode cX5_set 32 = .ok (.getfield 10, 3) := by decide +kernel
theorem dX5_set_35 : decode cX5_set 35 = .ok (.iload_n 1, 1) := by decide +kernel
theorem dX5_set_36 : decode cX5_set 36 = .ok (.invokevirtual 105, 3) := by decide +kernel
theorem dX5_set_39 : decode cX5_set 39 = .ok (.istore_n 3, 1) := by decide +kernel
theorem dX5_set_40 : decode cX5_set 40 = .ok (.aload_n 0, 1) := by decide +kernel
theorem dX5_set_41 : decode cX5_set 41 = .ok (.getfield 10, 3) := by decide +kernel
theorem dX5_set_44 : decode cX5_set 44 = .ok (.getfield 108, 3) := by decide +kernel
theorem dX5_set_47 : decode cX5_set 47 = .ok (.iload_n 1, 1) := by decide +kernel
theorem dX5_set_48 : decode cX5_set 48 = .ok (.iload_n 2, 1) := by decide +kernel
theorem dX5_set_49 : decode cX5_set 49 = .ok (.iastore, 1) := by decide +kernel
theorem dX5_set_50 : decode cX5_set 50 = .ok (.aload_n 0, 1) := by decide +kernel
theorem dX5_set_51 : decode cX5_set 51 = .ok (.invokevirtual 80, 3) := by decide +kernel
theorem dX5_set_54 : decode cX5_set 54 = .ok (.iload_n 3, 1) := by decide +kernel
theorem dX5_set_55 : decode cX5_set 55 = .ok (.ireturn, 1) := by decide +kernel
set_option maxRecDepth 20000 in
theorem ggX5_setShare_X5_checkIndex : GoodIn wsX5_setShare wsX5_checkIndex := goodIn_ca (goodIn_r _ [7, 8, 9] (by decide +kernel) (by decide +kernel)) (goodIn_sub (fun _ h => List.mem_cons_of_mem _ (List.mem_append_left _ (List.mem_append_right _ h))) (by decide +kernel))
set_option maxRecDepth 20000 in
theorem gX5_setShare_X5_checkIndex : GoodIn wsX5_setShare (va_wsS RX5 47 yX5_checkIndex wsX5_checkIndex) := goodIn_app (goodIn_of _ (by decide +kernel)) ggX5_setShare_X5_checkIndex
set_option maxRecDepth 20000 in
theorem ggX5_setShare_X5_checkRange : GoodIn wsX5_setShare wsX5_checkRange := goodIn_ca (goodIn_r _ [12, 13, 14] (by decide +kernel) (by decide +kernel)) (goodIn_sub (fun _ h => List.mem_cons_of_mem _ (List.mem_append_right _ h)) (by decide +kernel))
set_option maxRecDepth 20000 in
theorem gX5_setShare_X5_checkRange : GoodIn wsX5_setShare (va_wsS RX5 51 yX5_checkRange wsX5_checkRange) := goodIn_app (goodIn_of _ (by decide +kernel)) ggX5_setShare_X5_checkRange
set_option maxRecDepth 20000 in
theorem ggX5_setShare_X0_save : GoodIn wsX5_setShare wsX0_save := goodIn_r _ [19, 20, 21, 22, 23, 18, 24, 25, 26, 27, 28, 29, 30, 31, 32, 33, 34, 35, 36, 37, 38, 39, 40, 41, 42, 43, 44, 45, 46, 47, 48, 49, 50, 51, 194, 195, 185, 186, 187, 188, 189, 190, 191, 192, 193] (by decide +kernel) (by decide +kernel)
set_option maxRecDepth 20000 in
theorem gX5_setShare_X0_save : GoodIn wsX5_setShare (wsV RX5 65 RX0 yX0_save wsX0_save) := goodIn_app (goodIn_of _ (by decide +kernel)) ggX5_setShare_X0_save
set_option maxRecDepth 20000 in
theorem ggX5_setShare_X3_shareOf : GoodIn wsX5_setShare wsX3_shareOf := goodIn_r _ [55, 40, 185, 186, 187, 188, 189, 190, 191, 192, 193] (by decide +kernel) (by decide +kernel)
set_option maxRecDepth 20000 in
theorem gX5_setShare_X3_shareOf : GoodIn wsX5_setShare (wsV RX5 111 RX3 yX3_shareOf wsX3_shareOf) := goodIn_app (goodIn_of _ (by decide +kernel)) ggX5_setShare_X3_shareOf
set_option maxRecDepth 20000 in
theorem ggX5_setShare_X5_setLines : GoodIn wsX5_setShare wsX5_setLines := goodIn_r _ [59, 60, 2, 61, 62, 63, 33, 64, 35, 65, 66, 67, 68, 69, 70, 71, 72, 37, 38, 39, 73, 74, 75, 76, 77, 78, 79, 80, 81, 82, 83, 84, 85, 86, 87, 88, 89, 90, 91, 92, 93, 94, 95, 96, 97, 98, 99, 100, 101, 102, 48, 49, 50, 103, 104, 105, 106, 45, 107, 6, 108, 109, 110, 111, 112, 113, 114, 115, 116, 117, 118, 119, 120, 121, 122, 123, 124, 125, 126, 127, 53, 54, 55, 40, 128, 129, 130, 131, 132, 133, 134, 135, 136, 137, 138, 139, 51, 140, 141, 142, 143, 144, 145, 146, 147, 148, 149, 150, 151, 152, 153, 154, 155, 156, 157, 158, 159, 160, 161, 162, 163, 164, 165, 166, 167, 168, 169, 170, 171, 172, 173, 174, 175, 176, 177, 178, 179, 180, 181, 182, 183, 184, 185, 186, 187, 188, 189, 190, 191, 192, 193, 196, 197, 198, 199, 200, 201, 202, 203, 204, 205, 206, 207, 208, 209, 210] (by decide +kernel) (by decide +kernel)
set_option maxRecDepth 20000 in
theorem gX5_setShare_X5_setLines : GoodIn wsX5_setShare (wsV RX5 80 RX5 yX5_setLines wsX5_setLines) := goodIn_app (goodIn_of _ (by decide +kernel)) ggX5_setShare_X5_setLines
theorem dX5_setShare_0 : decode cX5_setShare 0 = .ok (.iload_n 1, 1) := by decide +kernel
theorem dX5_setShare_1 : decode cX5_setShare 1 = .ok (.bipush 8, 2) := by decide +kernel
theorem dX5_setShare_3 : decode cX5_setShare 3 = .ok (.invokestatic 47, 3) := by decide +kernel
theorem dX5_setShare_6 : decode cX5_setShare 6 = .ok (.iload_n 2, 1) := by decide +kernel
theorem dX5_setShare_7 : decode cX5_setShare 7 = .ok (.iconst 0, 1) := by decide +kernel
theorem dX5_setShare_8 : decode cX5_setShare 8 = .ok (.bipush 100, 2) := by decide +kernel
theorem dX5_setShare_10 : decode cX5_setShare 10 = .ok (.invokestatic 51, 3) := by decide +kernel
theorem dX5_setShare_13 : decode cX5_setShare 13 = .ok (.aload_n 0, 1) := by decide +kernel
theorem dX5_setShare_14 : decode cX5_setShare 14 = .ok (.getfield 39, 3) := by decide +kernel
theorem dX5_setShare_17 : decode cX5_setShare 17 = .ok (.aload_n 0, 1) := by decide +kernel
theorem dX5_setShare_18 : decode cX5_setShare 18 = .ok (.getfield 10, 3) := by decide +kernel
theorem dX5_setShare_21 : decode cX5_setShare 21 = .ok (.invokevirtual 65, 3) := by decide +kernel
theorem dX5_setShare_24 : decode cX5_setShare 24 = .ok (.aload_n 0, 1) := by decide +kernel
theorem dX5_setShare_25 : decode cX5_setShare 25 = .ok (.getfield 10, 3) := by decide +kernel
theorem dX5_setShare_28 : decode cX5_setShare 28 = .ok (.iload_n 1, 1) := by decide +kernel
theorem dX5_setShare_29 : decode cX5_setShare 29 = .ok (.invokevirtual 111, 3) := by decide +kernel
theorem dX5_setShare_32 : decode cX5_setShare 32 = .ok (.istore_n 3, 1) := by decide +kernel
theorem dX5_setShare_33 : decode cX5_setShare 33 = .ok (.aload_n 0, 1) := by decide +kernel
theorem dX5_setShare_34 : decode cX5_setShare 34 = .ok (.getfield 10, 3) := by decide +kernel
theorem dX5_setShare_37 : decode cX5_setShare 37 = .ok (.getfield 114, 3) := by decide +kernel
theorem dX5_setShare_40 : decode cX5_setShare 40 = .ok (.iload_n 1, 1) := by decide +kernel
theorem dX5_setShare_41 : decode cX5_setShare 41 = .ok (.iload_n 2, 1) := by decide +kernel
theorem dX5_setShare_42 : decode cX5_setShare 42 = .ok (.iastore, 1) := by decide +kernel
theorem dX5_setShare_43 : decode cX5_setShare 43 = .ok (.aload_n 0, 1) := by decide +kernel
theorem dX5_setShare_44 : decode cX5_setShare 44 = .ok (.invokevirtual 80, 3) := by decide +kernel
theorem dX5_setShare_47 : decode cX5_setShare 47 = .ok (.iload_n 3, 1) := by decide +kernel
theorem dX5_setShare_48 : decode cX5_setShare 48 = .ok (.ireturn, 1) := by decide +kernel
set_option maxRecDepth 20000 in
theorem ggX5_word_X5_checkIndex : GoodIn wsX5_word wsX5_checkIndex := goodIn_ca (goodIn_r _ [6, 7, 8] (by decide +kernel) (by decide +kernel)) (goodIn_sub (fun _ h => List.mem_cons_of_mem _ (List.mem_append_left _ (List.mem_append_right _ h))) (by decide +kernel))
set_option maxRecDepth 20000 in
theorem gX5_word_X5_checkIndex : GoodIn wsX5_word (va_wsS RX5 47 yX5_checkIndex wsX5_checkIndex) := goodIn_app (goodIn_of _ (by decide +kernel)) ggX5_word_X5_checkIndex
set_option maxRecDepth 20000 in
theorem ggX5_word_X5_checkRange : GoodIn wsX5_word wsX5_checkRange := goodIn_ca (goodIn_r _ [11, 12, 13] (by decide +kernel) (by decide +kernel)) (goodIn_sub (fun _ h => List.mem_cons_of_mem _ (List.mem_append_right _ h)) (by decide +kernel))
set_option maxRecDepth 20000 in
theorem gX5_word_X5_checkRange : GoodIn wsX5_word (va_wsS RX5 51 yX5_checkRange wsX5_checkRange) := goodIn_app (goodIn_of _ (by decide +kernel)) ggX5_word_X5_checkRange
set_option maxRecDepth 20000 in
theorem ggX5_word_X5_wordValue : GoodIn wsX5_word wsX5_wordValue := goodIn_r _ [17, 18, 1, 19, 20, 21, 22, 23, 24, 25, 26, 27, 28, 29, 30, 31, 32, 33, 34, 35, 36, 37, 38, 39, 40, 41, 42, 43, 5, 44, 45, 46, 47, 48, 49, 50, 51, 52, 53, 54, 55, 56, 57, 58, 59, 60, 61, 62, 63, 64, 65, 66, 67, 68, 69, 70, 71, 72, 73, 83, 84, 85, 86, 87, 88, 89, 74, 75, 76, 77, 78, 79, 80, 81, 82] (by decide +kernel) (by decide +kernel)
set_option maxRecDepth 20000 in
theorem gX5_word_X5_wordValue : GoodIn wsX5_word (wsV RX5 117 RX5 yX5_wordValue wsX5_wordValue) := goodIn_app (goodIn_of _ (by decide +kernel)) ggX5_word_X5_wordValue
theorem dX5_word_0 : decode cX5_word 0 = .ok (.iload_n 1, 1) := by decide +kernel
theorem dX5_word_1 : decode cX5_word 1 = .ok (.aload_n 0, 1) := by decide +kernel
theorem dX5_word_2 : decode cX5_word 2 = .ok (.getfield 10, 3) := by decide +kernel
theorem dX5_word_5 : decode cX5_word 5 = .ok (.getfield 43, 3) := by decide +kernel
theorem dX5_word_8 : decode cX5_word 8 = .ok (.invokestatic 47, 3) := by decide +kernel
theorem dX5_word_11 : decode cX5_word 11 = .ok (.iload_n 2, 1) := by decide +kernel
theorem dX5_word_12 : decode cX5_word 12 = .ok (.iconst 0, 1) := by decide +kernel
theorem dX5_word_13 : decode cX5_word 13 = .ok (.bipush 8, 2) := by decide +kernel
theorem dX5_word_15 : decode cX5_word 15 = .ok (.invokestatic 51, 3) := by decide +kernel
theorem dX5_word_18 : decode cX5_word 18 = .ok (.aload_n 0, 1) := by decide +kernel
theorem dX5_word_19 : decode cX5_word 19 = .ok (.iload_n 1, 1) := by decide +kernel
theorem dX5_word_20 : decode cX5_word 20 = .ok (.iload_n 2, 1) := by decide +kernel
theorem dX5_word_21 : decode cX5_word 21 = .ok (.invokevirtual 117, 3) := by decide +kernel
theorem dX5_word_24 : decode cX5_word 24 = .ok (.ireturn, 1) := by decide +kernel
set_option maxRecDepth 20000 in
theorem ggX5_line_X5_checkIndex : GoodIn wsX5_line wsX5_checkIndex := goodIn_ca (goodIn_r _ [6, 7, 8] (by decide +kernel) (by decide +kernel)) (goodIn_sub (fun _ h => List.mem_cons_of_mem _ (List.mem_append_left _ (List.mem_append_right _ h))) (by decide +kernel))
set_option maxRecDepth 20000 in
theorem gX5_line_X5_checkIndex : GoodIn wsX5_line (va_wsS RX5 47 yX5_checkIndex wsX5_checkIndex) := goodIn_app (goodIn_of _ (by decide +kernel)) ggX5_line_X5_checkIndex
set_option maxRecDepth 20000 in
theorem ggX5_line_X5_checkRange : GoodIn wsX5_line wsX5_checkRange := goodIn_ca (goodIn_r _ [11, 12, 13] (by decide +kernel) (by decide +kernel)) (goodIn_sub (fun _ h => List.mem_cons_of_mem _ (List.mem_append_right _ h)) (by decide +kernel))
set_option maxRecDepth 20000 in
theorem gX5_line_X5_checkRange : GoodIn wsX5_line (va_wsS RX5 51 yX5_checkRange wsX5_checkRange) := goodIn_app (goodIn_of _ (by decide +kernel)) ggX5_line_X5_checkRange
set_option maxRecDepth 20000 in
theorem ggX5_line_X1_lineValue : GoodIn wsX5_line wsX1_lineValue := goodIn_r _ [18, 19, 26, 27, 28, 29, 30, 31, 32] (by decide +kernel) (by decide +kernel)
set_option maxRecDepth 20000 in
theorem gX5_line_X1_lineValue : GoodIn wsX5_line (wsV RX5 124 RX1 yX1_lineValue wsX1_lineValue) := goodIn_app (goodIn_of _ (by decide +kernel)) ggX5_line_X1_lineValue
theorem dX5_line_0 : decode cX5_line 0 = .ok (.iload_n 1, 1) := by decide +kernel
theorem dX5_line_1 : decode cX5_line 1 = .ok (.aload_n 0, 1) := by decide +kernel
theorem dX5_line_2 : decode cX5_line 2 = .ok (.getfield 19, 3) := by decide +kernel
theorem dX5_line_5 : decode cX5_line 5 = .ok (.getfield 121, 3) := by decide +kernel
theorem dX5_line_8 : decode cX5_line 8 = .ok (.invokestatic 47, 3) := by decide +kernel
theorem dX5_line_11 : decode cX5_line 11 = .ok (.iload_n 2, 1) := by decide +kernel
