set_option maxRecDepth 20000 in
theorem gX5_mixLines_X1_lineValue : GoodIn wsX5_mixLines (wsV RX5 124 RX1 yX1_lineValue wsX1_lineValue) := goodIn_app (goodIn_of _ (by decide +kernel)) ggX5_mixLines_X1_lineValue
set_option maxRecDepth 20000 in
theorem ggX5_mixLines_X5_mix : GoodIn wsX5_mixLines wsX5_mix := goodIn_r _ [12, 13] (by decide +kernel) (by decide +kernel)
set_option maxRecDepth 20000 in
theorem gX5_mixLines_X5_mix : GoodIn wsX5_mixLines (va_wsS RX5 189 yX5_mix wsX5_mix) := goodIn_app (goodIn_of _ (by decide +kernel)) ggX5_mixLines_X5_mix
set_option maxRecDepth 20000 in
theorem ggX5_mixLines_X5_writtenLength : GoodIn wsX5_mixLines wsX5_writtenLength := goodIn_r _ [17, 1, 18, 19, 20, 21, 22, 3, 4, 5, 6, 7, 8, 23, 24, 25, 26, 27, 28, 29, 30, 31, 32, 33, 34, 35, 36, 37, 38, 39, 40, 41, 42, 43, 44, 45, 46, 47, 60, 61, 62, 63, 64, 65, 66, 67, 68, 69, 70, 71, 72, 73, 74, 75, 76, 77, 78, 79, 80, 81] (by decide +kernel) (by decide +kernel)
set_option maxRecDepth 20000 in
theorem gX5_mixLines_X5_writtenLength : GoodIn wsX5_mixLines (wsV RX5 253 RX5 yX5_writtenLength wsX5_writtenLength) := goodIn_app (goodIn_of _ (by decide +kernel)) ggX5_mixLines_X5_writtenLength
set_option maxRecDepth 20000 in
theorem ggX5_mixLines_X5_writtenByte : GoodIn wsX5_mixLines wsX5_writtenByte := goodIn_r _ [51, 1, 22, 3, 4, 5, 6, 7, 8, 23, 24, 25, 26, 27, 28, 29, 30, 31, 32, 33, 34, 35, 36, 37, 38, 39, 40, 41, 42, 43, 44, 45, 46, 47, 52, 53, 54, 55, 56, 57, 11, 58, 59, 60, 61, 62, 63, 64, 65, 66, 67, 68, 69, 70, 71, 72, 73, 74, 75, 76, 77, 78, 79, 80, 81] (by decide +kernel) (by decide +kernel)
set_option maxRecDepth 20000 in
theorem gX5_mixLines_X5_writtenByte : GoodIn wsX5_mixLines (wsV RX5 178 RX5 yX5_writtenByte wsX5_writtenByte) := goodIn_app (goodIn_of _ (by decide +kernel)) ggX5_mixLines_X5_writtenByte
theorem dX5_mixLines_0 : decode cX5_mixLines 0 = .ok (.lload_n 1, 1) := by decide +kernel
theorem dX5_mixLines_1 : decode cX5_mixLines 1 = .ok (.lstore_n 3, 1) := by decide +kernel
theorem dX5_mixLines_2 : decode cX5_mixLines 2 = .ok (.iconst 0, 1) := by decide +kernel
theorem dX5_mixLines_3 : decode cX5_mixLines 3 = .ok (.istore 5, 2) := by decide +kernel
theorem dX5_mixLines_5 : decode cX5_mixLines 5 = .ok (.iload 5, 2) := by decide +kernel
theorem dX5_mixLines_7 : decode cX5_mixLines 7 = .ok (.aload_n 0, 1) := by decide +kernel
theorem dX5_mixLines_8 : decode cX5_mixLines 8 = .ok (.getfield 19, 3) := by decide +kernel
theorem dX5_mixLines_11 : decode cX5_mixLines 11 = .ok (.getfield 121, 3) := by decide +kernel
theorem dX5_mixLines_14 : decode cX5_mixLines 14 = .ok (.if_icmp .ge 78, 3) := by decide +kernel
theorem dX5_mixLines_17 : decode cX5_mixLines 17 = .ok (.iconst 0, 1) := by decide +kernel
theorem dX5_mixLines_18 : decode cX5_mixLines 18 = .ok (.istore 6, 2) := by decide +kernel
theorem dX5_mixLines_20 : decode cX5_mixLines 20 = .ok (.iload 6, 2) := by decide +kernel
theorem dX5_mixLines_22 : decode cX5_mixLines 22 = .ok (.bipush 12, 2) := by decide +kernel
theorem dX5_mixLines_24 : decode cX5_mixLines 24 = .ok (.if_icmp .ge 25, 3) := by decide +kernel
theorem dX5_mixLines_27 : decode cX5_mixLines 27 = .ok (.lload_n 3, 1) := by decide +kernel
theorem dX5_mixLines_28 : decode cX5_mixLines 28 = .ok (.aload_n 0, 1) := by decide +kernel
theorem dX5_mixLines_29 : decode cX5_mixLines 29 = .ok (.getfield 19, 3) := by decide +kernel
theorem dX5_mixLines_32 : decode cX5_mixLines 32 = .ok (.iload 5, 2) := by decide +kernel
theorem dX5_mixLines_34 : decode cX5_mixLines 34 = .ok (.iload 6, 2) := by decide +kernel
theorem dX5_mixLines_36 : decode cX5_mixLines 36 = .ok (.invokevirtual 124, 3) := by decide +kernel
theorem dX5_mixLines_39 : decode cX5_mixLines 39 = .ok (.invokestatic 189, 3) := by decide +kernel
theorem dX5_mixLines_42 : decode cX5_mixLines 42 = .ok (.lstore_n 3, 1) := by decide +kernel
theorem dX5_mixLines_43 : decode cX5_mixLines 43 = .ok (.iinc 6 1, 3) := by decide +kernel
theorem dX5_mixLines_46 : decode cX5_mixLines 46 = .ok (.goto (-26), 3) := by decide +kernel
theorem dX5_mixLines_49 : decode cX5_mixLines 49 = .ok (.aload_n 0, 1) := by decide +kernel
theorem dX5_mixLines_50 : decode cX5_mixLines 50 = .ok (.iload 5, 2) := by decide +kernel
theorem dX5_mixLines_52 : decode cX5_mixLines 52 = .ok (.invokevirtual 253, 3) := by decide +kernel
theorem dX5_mixLines_55 : decode cX5_mixLines 55 = .ok (.istore 6, 2) := by decide +kernel
theorem dX5_mixLines_57 : decode cX5_mixLines 57 = .ok (.iconst 0, 1) := by decide +kernel
theorem dX5_mixLines_58 : decode cX5_mixLines 58 = .ok (.istore 7, 2) := by decide +kernel
theorem dX5_mixLines_60 : decode cX5_mixLines 60 = .ok (.iload 7, 2) := by decide +kernel
theorem dX5_mixLines_62 : decode cX5_mixLines 62 = .ok (.iload 6, 2) := by decide +kernel
theorem dX5_mixLines_64 : decode cX5_mixLines 64 = .ok (.if_icmp .ge 22, 3) := by decide +kernel
theorem dX5_mixLines_67 : decode cX5_mixLines 67 = .ok (.lload_n 3, 1) := by decide +kernel
theorem dX5_mixLines_68 : decode cX5_mixLines 68 = .ok (.aload_n 0, 1) := by decide +kernel
theorem dX5_mixLines_69 : decode cX5_mixLines 69 = .ok (.iload 5, 2) := by decide +kernel
theorem dX5_mixLines_71 : decode cX5_mixLines 71 = .ok (.iload 7, 2) := by decide +kernel
theorem dX5_mixLines_73 : decode cX5_mixLines 73 = .ok (.invokevirtual 178, 3) := by decide +kernel
theorem dX5_mixLines_76 : decode cX5_mixLines 76 = .ok (.invokestatic 189, 3) := by decide +kernel
theorem dX5_mixLines_79 : decode cX5_mixLines 79 = .ok (.lstore_n 3, 1) := by decide +kernel
theorem dX5_mixLines_80 : decode cX5_mixLines 80 = .ok (.iinc 7 1, 3) := by decide +kernel
theorem dX5_mixLines_83 : decode cX5_mixLines 83 = .ok (.goto (-23), 3) := by decide +kernel
theorem dX5_mixLines_86 : decode cX5_mixLines 86 = .ok (.iinc 5 1, 3) := by decide +kernel
theorem dX5_mixLines_89 : decode cX5_mixLines 89 = .ok (.goto (-84), 3) := by decide +kernel
theorem dX5_mixLines_92 : decode cX5_mixLines 92 = .ok (.lload_n 3, 1) := by decide +kernel
theorem dX5_mixLines_93 : decode cX5_mixLines 93 = .ok (.lreturn, 1) := by decide +kernel
set_option maxRecDepth 20000 in
theorem ggX5_mixPages_X1_pageValue : GoodIn wsX5_mixPages wsX1_pageValue := goodIn_r _ [7, 8, 20, 21, 22, 23, 24, 25, 26] (by decide +kernel) (by decide +kernel)
set_option maxRecDepth 20000 in
theorem gX5_mixPages_X1_pageValue : GoodIn wsX5_mixPages (wsV RX5 130 RX1 yX1_pageValue wsX1_pageValue) := goodIn_app (goodIn_of _ (by decide +kernel)) ggX5_mixPages_X1_pageValue
set_option maxRecDepth 20000 in
theorem ggX5_mixPages_X5_mix : GoodIn wsX5_mixPages wsX5_mix := goodIn_r _ [12, 13] (by decide +kernel) (by decide +kernel)
set_option maxRecDepth 20000 in
theorem gX5_mixPages_X5_mix : GoodIn wsX5_mixPages (va_wsS RX5 189 yX5_mix wsX5_mix) := goodIn_app (goodIn_of _ (by decide +kernel)) ggX5_mixPages_X5_mix
theorem dX5_mixPages_0 : decode cX5_mixPages 0 = .ok (.lload_n 1, 1) := by decide +kernel
theorem dX5_mixPages_1 : decode cX5_mixPages 1 = .ok (.lstore_n 3, 1) := by decide +kernel
theorem dX5_mixPages_2 : decode cX5_mixPages 2 = .ok (.iconst 0, 1) := by decide +kernel
theorem dX5_mixPages_3 : decode cX5_mixPages 3 = .ok (.istore 5, 2) := by decide +kernel
theorem dX5_mixPages_5 : decode cX5_mixPages 5 = .ok (.iload 5, 2) := by decide +kernel
theorem dX5_mixPages_7 : decode cX5_mixPages 7 = .ok (.aload_n 0, 1) := by decide +kernel
theorem dX5_mixPages_8 : decode cX5_mixPages 8 = .ok (.getfield 19, 3) := by decide +kernel
theorem dX5_mixPages_11 : decode cX5_mixPages 11 = .ok (.getfield 127, 3) := by decide +kernel
theorem dX5_mixPages_14 : decode cX5_mixPages 14 = .ok (.if_icmp .ge 41, 3) := by decide +kernel
theorem dX5_mixPages_17 : decode cX5_mixPages 17 = .ok (.iconst 0, 1) := by decide +kernel
theorem dX5_mixPages_18 : decode cX5_mixPages 18 = .ok (.istore 6, 2) := by decide +kernel
theorem dX5_mixPages_20 : decode cX5_mixPages 20 = .ok (.iload 6, 2) := by decide +kernel
theorem dX5_mixPages_22 : decode cX5_mixPages 22 = .ok (.bipush 6, 2) := by decide +kernel
theorem dX5_mixPages_24 : decode cX5_mixPages 24 = .ok (.if_icmp .ge 25, 3) := by decide +kernel
theorem dX5_mixPages_27 : decode cX5_mixPages 27 = .ok (.lload_n 3, 1) := by decide +kernel
theorem dX5_mixPages_28 : decode cX5_mixPages 28 = .ok (.aload_n 0, 1) := by decide +kernel
theorem dX5_mixPages_29 : decode cX5_mixPages 29 = .ok (.getfield 19, 3) := by decide +kernel
theorem dX5_mixPages_32 : decode cX5_mixPages 32 = .ok (.iload 5, 2) := by decide +kernel
theorem dX5_mixPages_34 : decode cX5_mixPages 34 = .ok (.iload 6, 2) := by decide +kernel
theorem dX5_mixPages_36 : decode cX5_mixPages 36 = .ok (.invokevirtual 130, 3) := by decide +kernel
theorem dX5_mixPages_39 : decode cX5_mixPages 39 = .ok (.invokestatic 189, 3) := by decide +kernel
theorem dX5_mixPages_42 : decode cX5_mixPages 42 = .ok (.lstore_n 3, 1) := by decide +kernel
theorem dX5_mixPages_43 : decode cX5_mixPages 43 = .ok (.iinc 6 1, 3) := by decide +kernel
theorem dX5_mixPages_46 : decode cX5_mixPages 46 = .ok (.goto (-26), 3) := by decide +kernel
theorem dX5_mixPages_49 : decode cX5_mixPages 49 = .ok (.iinc 5 1, 3) := by decide +kernel
theorem dX5_mixPages_52 : decode cX5_mixPages 52 = .ok (.goto (-47), 3) := by decide +kernel
theorem dX5_mixPages_55 : decode cX5_mixPages 55 = .ok (.lload_n 3, 1) := by decide +kernel
theorem dX5_mixPages_56 : decode cX5_mixPages 56 = .ok (.lreturn, 1) := by decide +kernel
