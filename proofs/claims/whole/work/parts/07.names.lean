theorem dX6_pageTold_120 : decode cX6_pageTold 120 = .ok (.iadd, 1) := by decide +kernel
theorem dX6_pageTold_121 : decode cX6_pageTold 121 = .ok (.iaload, 1) := by decide +kernel
theorem dX6_pageTold_122 : decode cX6_pageTold 122 = .ok (.iadd, 1) := by decide +kernel
theorem dX6_pageTold_123 : decode cX6_pageTold 123 = .ok (.istore 5, 2) := by decide +kernel
theorem dX6_pageTold_125 : decode cX6_pageTold 125 = .ok (.iinc 6 1, 3) := by decide +kernel
theorem dX6_pageTold_128 : decode cX6_pageTold 128 = .ok (.goto (-42), 3) := by decide +kernel
theorem dX6_pageTold_131 : decode cX6_pageTold 131 = .ok (.iload 5, 2) := by decide +kernel
theorem dX6_pageTold_133 : decode cX6_pageTold 133 = .ok (.ireturn, 1) := by decide +kernel
set_option maxRecDepth 20000 in
theorem ggX6_page_X6_makes : GoodIn wsX6_page wsX6_makes := goodIn_r _ [6, 7, 8, 9, 10, 5, 11, 12, 13, 14, 15, 1, 16, 17, 18, 19, 20, 21, 22, 23, 24, 25, 26, 27, 28, 29, 30, 31, 32, 33, 34, 35, 36, 37, 38, 39, 40, 41, 42, 43, 44, 45, 46, 47, 68, 69, 70, 71, 72, 73, 74, 75, 76, 77, 78, 79, 80, 81, 82, 83] (by decide +kernel) (by decide +kernel)
set_option maxRecDepth 20000 in
theorem gX6_page_X6_makes : GoodIn wsX6_page (wsV RX6 130 RX6 yX6_makes wsX6_makes) := goodIn_app (goodIn_of _ (by decide +kernel)) ggX6_page_X6_makes
set_option maxRecDepth 20000 in
theorem ggX6_page_X6_fails : GoodIn wsX6_page wsX6_fails := goodIn_r _ [51, 52, 68, 69, 70, 71, 72, 73, 74, 75, 76, 77, 78, 79, 80, 81, 82, 83] (by decide +kernel) (by decide +kernel)
set_option maxRecDepth 20000 in
theorem gX6_page_X6_fails : GoodIn wsX6_page (wsV RX6 101 RX6 yX6_fails wsX6_fails) := goodIn_app (goodIn_of _ (by decide +kernel)) ggX6_page_X6_fails
set_option maxRecDepth 20000 in
theorem ggX6_page_X6_in : GoodIn wsX6_page wsX6_in := goodIn_r _ [55] (by decide +kernel) (by decide +kernel)
set_option maxRecDepth 20000 in
theorem gX6_page_X6_in : GoodIn wsX6_page (va_wsS RX6 28 yX6_in wsX6_in) := goodIn_app (goodIn_of _ (by decide +kernel)) ggX6_page_X6_in
set_option maxRecDepth 20000 in
theorem ggX6_page_X6_pageTold : GoodIn wsX6_page wsX6_pageTold := goodIn_r _ [59, 21, 20, 60, 61, 62, 5, 63, 68, 69, 70, 71, 72, 73, 74, 75, 76, 77, 78, 79, 80, 81, 82, 83] (by decide +kernel) (by decide +kernel)
set_option maxRecDepth 20000 in
theorem gX6_page_X6_pageTold : GoodIn wsX6_page (wsV RX6 139 RX6 yX6_pageTold wsX6_pageTold) := goodIn_app (goodIn_of _ (by decide +kernel)) ggX6_page_X6_pageTold
set_option maxRecDepth 20000 in
theorem ggX6_page_X6_tells : GoodIn wsX6_page wsX6_tells := goodIn_r _ [67, 52, 68, 69, 70, 71, 72, 73, 74, 75, 76, 77, 78, 79, 80, 81, 82, 83] (by decide +kernel) (by decide +kernel)
set_option maxRecDepth 20000 in
theorem gX6_page_X6_tells : GoodIn wsX6_page (wsV RX6 39 RX6 yX6_tells wsX6_tells) := goodIn_app (goodIn_of _ (by decide +kernel)) ggX6_page_X6_tells
theorem dX6_page_0 : decode cX6_page 0 = .ok (.aload_n 0, 1) := by decide +kernel
theorem dX6_page_1 : decode cX6_page 1 = .ok (.invokevirtual 130, 3) := by decide +kernel
theorem dX6_page_4 : decode cX6_page 4 = .ok (.iload_n 1, 1) := by decide +kernel
theorem dX6_page_5 : decode cX6_page 5 = .ok (.ifCond .lt 11, 3) := by decide +kernel
theorem dX6_page_8 : decode cX6_page 8 = .ok (.iload_n 1, 1) := by decide +kernel
theorem dX6_page_9 : decode cX6_page 9 = .ok (.aload_n 0, 1) := by decide +kernel
theorem dX6_page_10 : decode cX6_page 10 = .ok (.getfield 71, 3) := by decide +kernel
theorem dX6_page_13 : decode cX6_page 13 = .ok (.if_icmp .lt 9, 3) := by decide +kernel
theorem dX6_page_16 : decode cX6_page 16 = .ok (.aload_n 0, 1) := by decide +kernel
theorem dX6_page_17 : decode cX6_page 17 = .ok (.iconst 1, 1) := by decide +kernel
theorem dX6_page_18 : decode cX6_page 18 = .ok (.invokevirtual 101, 3) := by decide +kernel
theorem dX6_page_21 : decode cX6_page 21 = .ok (.ireturn, 1) := by decide +kernel
theorem dX6_page_22 : decode cX6_page 22 = .ok (.iload_n 2, 1) := by decide +kernel
theorem dX6_page_23 : decode cX6_page 23 = .ok (.iconst 0, 1) := by decide +kernel
theorem dX6_page_24 : decode cX6_page 24 = .ok (.iconst 5, 1) := by decide +kernel
theorem dX6_page_25 : decode cX6_page 25 = .ok (.invokestatic 28, 3) := by decide +kernel
theorem dX6_page_28 : decode cX6_page 28 = .ok (.ifCond .eq 16, 3) := by decide +kernel
theorem dX6_page_31 : decode cX6_page 31 = .ok (.aload_n 0, 1) := by decide +kernel
theorem dX6_page_32 : decode cX6_page 32 = .ok (.aload_n 0, 1) := by decide +kernel
theorem dX6_page_33 : decode cX6_page 33 = .ok (.iload_n 1, 1) := by decide +kernel
theorem dX6_page_34 : decode cX6_page 34 = .ok (.iload_n 2, 1) := by decide +kernel
theorem dX6_page_35 : decode cX6_page 35 = .ok (.invokevirtual 139, 3) := by decide +kernel
theorem dX6_page_38 : decode cX6_page 38 = .ok (.invokevirtual 39, 3) := by decide +kernel
theorem dX6_page_41 : decode cX6_page 41 = .ok (.goto 8, 3) := by decide +kernel
theorem dX6_page_44 : decode cX6_page 44 = .ok (.aload_n 0, 1) := by decide +kernel
theorem dX6_page_45 : decode cX6_page 45 = .ok (.iconst 2, 1) := by decide +kernel
theorem dX6_page_46 : decode cX6_page 46 = .ok (.invokevirtual 101, 3) := by decide +kernel
theorem dX6_page_49 : decode cX6_page 49 = .ok (.ireturn, 1) := by decide +kernel
set_option maxRecDepth 20000 in
theorem ggX6_paragraphs_X6_endsOne : GoodIn wsX6_paragraphs wsX6_endsOne := goodIn_r _ [6, 1, 7, 8, 9, 5, 10, 11, 12, 13, 14, 15, 16, 17, 18, 19, 20, 21, 22, 23, 24, 25, 26] (by decide +kernel) (by decide +kernel)
set_option maxRecDepth 20000 in
theorem gX6_paragraphs_X6_endsOne : GoodIn wsX6_paragraphs (wsV RX6 78 RX6 yX6_endsOne wsX6_endsOne) := goodIn_app (goodIn_of _ (by decide +kernel)) ggX6_paragraphs_X6_endsOne
theorem dX6_paragraphs_0 : decode cX6_paragraphs 0 = .ok (.iconst 0, 1) := by decide +kernel
theorem dX6_paragraphs_1 : decode cX6_paragraphs 1 = .ok (.istore_n 1, 1) := by decide +kernel
theorem dX6_paragraphs_2 : decode cX6_paragraphs 2 = .ok (.iconst 0, 1) := by decide +kernel
theorem dX6_paragraphs_3 : decode cX6_paragraphs 3 = .ok (.istore_n 2, 1) := by decide +kernel
theorem dX6_paragraphs_4 : decode cX6_paragraphs 4 = .ok (.iload_n 2, 1) := by decide +kernel
theorem dX6_paragraphs_5 : decode cX6_paragraphs 5 = .ok (.aload_n 0, 1) := by decide +kernel
theorem dX6_paragraphs_6 : decode cX6_paragraphs 6 = .ok (.getfield 7, 3) := by decide +kernel
theorem dX6_paragraphs_9 : decode cX6_paragraphs 9 = .ok (.bipush 14, 2) := by decide +kernel
theorem dX6_paragraphs_11 : decode cX6_paragraphs 11 = .ok (.iaload, 1) := by decide +kernel
theorem dX6_paragraphs_12 : decode cX6_paragraphs 12 = .ok (.if_icmp .ge 25, 3) := by decide +kernel
theorem dX6_paragraphs_15 : decode cX6_paragraphs 15 = .ok (.iload_n 1, 1) := by decide +kernel
theorem dX6_paragraphs_16 : decode cX6_paragraphs 16 = .ok (.aload_n 0, 1) := by decide +kernel
theorem dX6_paragraphs_17 : decode cX6_paragraphs 17 = .ok (.iload_n 2, 1) := by decide +kernel
theorem dX6_paragraphs_18 : decode cX6_paragraphs 18 = .ok (.invokevirtual 78, 3) := by decide +kernel
theorem dX6_paragraphs_21 : decode cX6_paragraphs 21 = .ok (.ifCond .eq 7, 3) := by decide +kernel
theorem dX6_paragraphs_24 : decode cX6_paragraphs 24 = .ok (.iconst 1, 1) := by decide +kernel
theorem dX6_paragraphs_25 : decode cX6_paragraphs 25 = .ok (.goto 4, 3) := by decide +kernel
theorem dX6_paragraphs_28 : decode cX6_paragraphs 28 = .ok (.iconst 0, 1) := by decide +kernel
theorem dX6_paragraphs_29 : decode cX6_paragraphs 29 = .ok (.iadd, 1) := by decide +kernel
theorem dX6_paragraphs_30 : decode cX6_paragraphs 30 = .ok (.istore_n 1, 1) := by decide +kernel
theorem dX6_paragraphs_31 : decode cX6_paragraphs 31 = .ok (.iinc 2 1, 3) := by decide +kernel
theorem dX6_paragraphs_34 : decode cX6_paragraphs 34 = .ok (.goto (-30), 3) := by decide +kernel
theorem dX6_paragraphs_37 : decode cX6_paragraphs 37 = .ok (.iload_n 1, 1) := by decide +kernel
theorem dX6_paragraphs_38 : decode cX6_paragraphs 38 = .ok (.ireturn, 1) := by decide +kernel
set_option maxRecDepth 20000 in
theorem ggX6_sumOf_X6_lent : GoodIn wsX6_sumOf wsX6_lent := goodIn_r _ [7, 2, 8, 9, 10, 11, 12, 13, 14, 15, 16, 17, 18, 19, 20, 21, 22, 23] (by decide +kernel) (by decide +kernel)
set_option maxRecDepth 20000 in
theorem gX6_sumOf_X6_lent : GoodIn wsX6_sumOf (wsV RX6 89 RX6 yX6_lent wsX6_lent) := goodIn_app (goodIn_of _ (by decide +kernel)) ggX6_sumOf_X6_lent
theorem dX6_sumOf_0 : decode cX6_sumOf 0 = .ok (.iconst 0, 1) := by decide +kernel
theorem dX6_sumOf_1 : decode cX6_sumOf 1 = .ok (.istore_n 2, 1) := by decide +kernel
theorem dX6_sumOf_2 : decode cX6_sumOf 2 = .ok (.iconst 0, 1) := by decide +kernel
theorem dX6_sumOf_3 : decode cX6_sumOf 3 = .ok (.istore_n 3, 1) := by decide +kernel
theorem dX6_sumOf_4 : decode cX6_sumOf 4 = .ok (.iload_n 3, 1) := by decide +kernel
theorem dX6_sumOf_5 : decode cX6_sumOf 5 = .ok (.aload_n 0, 1) := by decide +kernel
theorem dX6_sumOf_6 : decode cX6_sumOf 6 = .ok (.getfield 53, 3) := by decide +kernel
theorem dX6_sumOf_9 : decode cX6_sumOf 9 = .ok (.if_icmp .ge 60, 3) := by decide +kernel
theorem dX6_sumOf_12 : decode cX6_sumOf 12 = .ok (.iload_n 2, 1) := by decide +kernel
theorem dX6_sumOf_13 : decode cX6_sumOf 13 = .ok (.iload_n 1, 1) := by decide +kernel
theorem dX6_sumOf_14 : decode cX6_sumOf 14 = .ok (.bipush 10, 2) := by decide +kernel
theorem dX6_sumOf_16 : decode cX6_sumOf 16 = .ok (.if_icmp .ne 19, 3) := by decide +kernel
theorem dX6_sumOf_19 : decode cX6_sumOf 19 = .ok (.aload_n 0, 1) := by decide +kernel
theorem dX6_sumOf_20 : decode cX6_sumOf 20 = .ok (.iload_n 3, 1) := by decide +kernel
theorem dX6_sumOf_21 : decode cX6_sumOf 21 = .ok (.invokevirtual 89, 3) := by decide +kernel
theorem dX6_sumOf_24 : decode cX6_sumOf 24 = .ok (.ifCond .le 7, 3) := by decide +kernel
theorem dX6_sumOf_27 : decode cX6_sumOf 27 = .ok (.iconst 1, 1) := by decide +kernel
theorem dX6_sumOf_28 : decode cX6_sumOf 28 = .ok (.goto 33, 3) := by decide +kernel
theorem dX6_sumOf_31 : decode cX6_sumOf 31 = .ok (.iconst 0, 1) := by decide +kernel
theorem dX6_sumOf_32 : decode cX6_sumOf 32 = .ok (.goto 29, 3) := by decide +kernel
theorem dX6_sumOf_35 : decode cX6_sumOf 35 = .ok (.iload_n 1, 1) := by decide +kernel
theorem dX6_sumOf_36 : decode cX6_sumOf 36 = .ok (.bipush 11, 2) := by decide +kernel
theorem dX6_sumOf_38 : decode cX6_sumOf 38 = .ok (.if_icmp .ne 18, 3) := by decide +kernel
theorem dX6_sumOf_41 : decode cX6_sumOf 41 = .ok (.aload_n 0, 1) := by decide +kernel
theorem dX6_sumOf_42 : decode cX6_sumOf 42 = .ok (.getfield 22, 3) := by decide +kernel
theorem dX6_sumOf_45 : decode cX6_sumOf 45 = .ok (.bipush 10, 2) := by decide +kernel
theorem dX6_sumOf_47 : decode cX6_sumOf 47 = .ok (.iload_n 3, 1) := by decide +kernel
theorem dX6_sumOf_48 : decode cX6_sumOf 48 = .ok (.imul, 1) := by decide +kernel
theorem dX6_sumOf_49 : decode cX6_sumOf 49 = .ok (.bipush 9, 2) := by decide +kernel
theorem dX6_sumOf_51 : decode cX6_sumOf 51 = .ok (.iadd, 1) := by decide +kernel
theorem dX6_sumOf_52 : decode cX6_sumOf 52 = .ok (.iaload, 1) := by decide +kernel
theorem dX6_sumOf_53 : decode cX6_sumOf 53 = .ok (.goto 8, 3) := by decide +kernel
theorem dX6_sumOf_56 : decode cX6_sumOf 56 = .ok (.aload_n 0, 1) := by decide +kernel
theorem dX6_sumOf_57 : decode cX6_sumOf 57 = .ok (.iload_n 3, 1) := by decide +kernel
theorem dX6_sumOf_58 : decode cX6_sumOf 58 = .ok (.invokevirtual 89, 3) := by decide +kernel
theorem dX6_sumOf_61 : decode cX6_sumOf 61 = .ok (.iadd, 1) := by decide +kernel
theorem dX6_sumOf_62 : decode cX6_sumOf 62 = .ok (.istore_n 2, 1) := by decide +kernel
theorem dX6_sumOf_63 : decode cX6_sumOf 63 = .ok (.iinc 3 1, 3) := by decide +kernel
theorem dX6_sumOf_66 : decode cX6_sumOf 66 = .ok (.goto (-62), 3) := by decide +kernel
theorem dX6_sumOf_69 : decode cX6_sumOf 69 = .ok (.iload_n 2, 1) := by decide +kernel
theorem dX6_sumOf_70 : decode cX6_sumOf 70 = .ok (.ireturn, 1) := by decide +kernel
set_option maxRecDepth 20000 in
theorem ggX6_wholeOf_X6_paragraphs : GoodIn wsX6_wholeOf wsX6_paragraphs := goodIn_r _ [9, 1, 10, 11, 12, 8, 13, 14, 15, 16, 17, 27, 28, 29, 30, 31, 32, 33, 34, 35, 36, 37, 38, 39, 40, 41, 42] (by decide +kernel) (by decide +kernel)
set_option maxRecDepth 20000 in
theorem gX6_wholeOf_X6_paragraphs : GoodIn wsX6_wholeOf (wsV RX6 142 RX6 yX6_paragraphs wsX6_paragraphs) := goodIn_app (goodIn_of _ (by decide +kernel)) ggX6_wholeOf_X6_paragraphs
set_option maxRecDepth 20000 in
theorem ggX6_wholeOf_X6_sumOf : GoodIn wsX6_wholeOf wsX6_sumOf := goodIn_r _ [21, 2, 22, 23, 24, 25, 8, 26, 27, 28, 29, 30, 31, 32, 33, 34, 35, 36, 37, 38, 39, 40, 41, 42] (by decide +kernel) (by decide +kernel)
set_option maxRecDepth 20000 in
theorem gX6_wholeOf_X6_sumOf : GoodIn wsX6_wholeOf (wsV RX6 146 RX6 yX6_sumOf wsX6_sumOf) := goodIn_app (goodIn_of _ (by decide +kernel)) ggX6_wholeOf_X6_sumOf
theorem dX6_wholeOf_0 : decode cX6_wholeOf 0 = .ok (.iload_n 1, 1) := by decide +kernel
theorem dX6_wholeOf_1 : decode cX6_wholeOf 1 = .ok (.tableswitch 105 0 13 #[71, 79, 84, 89, 105, 105, 105, 105, 105, 105, 94, 94, 94, 100], 71) := by decide +kernel
theorem dX6_wholeOf_72 : decode cX6_wholeOf 72 = .ok (.aload_n 0, 1) := by decide +kernel
theorem dX6_wholeOf_73 : decode cX6_wholeOf 73 = .ok (.getfield 7, 3) := by decide +kernel
theorem dX6_wholeOf_76 : decode cX6_wholeOf 76 = .ok (.bipush 14, 2) := by decide +kernel
theorem dX6_wholeOf_78 : decode cX6_wholeOf 78 = .ok (.iaload, 1) := by decide +kernel
theorem dX6_wholeOf_79 : decode cX6_wholeOf 79 = .ok (.ireturn, 1) := by decide +kernel
theorem dX6_wholeOf_80 : decode cX6_wholeOf 80 = .ok (.aload_n 0, 1) := by decide +kernel
theorem dX6_wholeOf_81 : decode cX6_wholeOf 81 = .ok (.getfield 53, 3) := by decide +kernel
theorem dX6_wholeOf_84 : decode cX6_wholeOf 84 = .ok (.ireturn, 1) := by decide +kernel
theorem dX6_wholeOf_85 : decode cX6_wholeOf 85 = .ok (.aload_n 0, 1) := by decide +kernel
theorem dX6_wholeOf_86 : decode cX6_wholeOf 86 = .ok (.getfield 71, 3) := by decide +kernel
theorem dX6_wholeOf_89 : decode cX6_wholeOf 89 = .ok (.ireturn, 1) := by decide +kernel
theorem dX6_wholeOf_90 : decode cX6_wholeOf 90 = .ok (.aload_n 0, 1) := by decide +kernel
theorem dX6_wholeOf_91 : decode cX6_wholeOf 91 = .ok (.invokevirtual 142, 3) := by decide +kernel
theorem dX6_wholeOf_94 : decode cX6_wholeOf 94 = .ok (.ireturn, 1) := by decide +kernel
theorem dX6_wholeOf_95 : decode cX6_wholeOf 95 = .ok (.aload_n 0, 1) := by decide +kernel
theorem dX6_wholeOf_96 : decode cX6_wholeOf 96 = .ok (.iload_n 1, 1) := by decide +kernel
theorem dX6_wholeOf_97 : decode cX6_wholeOf 97 = .ok (.invokevirtual 146, 3) := by decide +kernel
theorem dX6_wholeOf_100 : decode cX6_wholeOf 100 = .ok (.ireturn, 1) := by decide +kernel
theorem dX6_wholeOf_101 : decode cX6_wholeOf 101 = .ok (.aload_n 0, 1) := by decide +kernel
theorem dX6_wholeOf_102 : decode cX6_wholeOf 102 = .ok (.getfield 149, 3) := by decide +kernel
theorem dX6_wholeOf_105 : decode cX6_wholeOf 105 = .ok (.ireturn, 1) := by decide +kernel
theorem dX6_wholeOf_106 : decode cX6_wholeOf 106 = .ok (.aload_n 0, 1) := by decide +kernel
theorem dX6_wholeOf_107 : decode cX6_wholeOf 107 = .ok (.getfield 7, 3) := by decide +kernel
theorem dX6_wholeOf_110 : decode cX6_wholeOf 110 = .ok (.iload_n 1, 1) := by decide +kernel
theorem dX6_wholeOf_111 : decode cX6_wholeOf 111 = .ok (.iconst 4, 1) := by decide +kernel
theorem dX6_wholeOf_112 : decode cX6_wholeOf 112 = .ok (.isub, 1) := by decide +kernel
theorem dX6_wholeOf_113 : decode cX6_wholeOf 113 = .ok (.iaload, 1) := by decide +kernel
theorem dX6_wholeOf_114 : decode cX6_wholeOf 114 = .ok (.ireturn, 1) := by decide +kernel
set_option maxRecDepth 20000 in
theorem ggX6_whole_X6_in : GoodIn wsX6_whole wsX6_in := goodIn_r _ [4] (by decide +kernel) (by decide +kernel)
set_option maxRecDepth 20000 in
theorem gX6_whole_X6_in : GoodIn wsX6_whole (va_wsS RX6 28 yX6_in wsX6_in) := goodIn_app (goodIn_of _ (by decide +kernel)) ggX6_whole_X6_in
set_option maxRecDepth 20000 in
theorem ggX6_whole_X6_fails : GoodIn wsX6_whole wsX6_fails := goodIn_r _ [8, 9, 77, 78, 79, 80, 81, 82, 83, 84, 85, 86, 87, 88, 89, 90, 91, 92] (by decide +kernel) (by decide +kernel)
set_option maxRecDepth 20000 in
theorem gX6_whole_X6_fails : GoodIn wsX6_whole (wsV RX6 101 RX6 yX6_fails wsX6_fails) := goodIn_app (goodIn_of _ (by decide +kernel)) ggX6_whole_X6_fails
set_option maxRecDepth 20000 in
theorem ggX6_whole_X6_makes : GoodIn wsX6_whole wsX6_makes := goodIn_r _ [13, 14, 15, 16, 17, 3, 18, 19, 20, 21, 22, 23, 24, 25, 26, 27, 28, 29, 30, 31, 32, 33, 34, 35, 36, 37, 38, 39, 40, 41, 42, 43, 44, 45, 46, 47, 48, 49, 50, 51, 52, 53, 54, 55, 77, 78, 79, 80, 81, 82, 83, 84, 85, 86, 87, 88, 89, 90, 91, 92] (by decide +kernel) (by decide +kernel)
set_option maxRecDepth 20000 in
theorem gX6_whole_X6_makes : GoodIn wsX6_whole (wsV RX6 130 RX6 yX6_makes wsX6_makes) := goodIn_app (goodIn_of _ (by decide +kernel)) ggX6_whole_X6_makes
set_option maxRecDepth 20000 in
theorem ggX6_whole_X6_wholeOf : GoodIn wsX6_whole wsX6_wholeOf := goodIn_r _ [59, 14, 22, 23, 60, 61, 62, 63, 3, 64, 52, 53, 54, 55, 34, 35, 36, 37, 65, 66, 67, 68, 28, 69, 70, 71, 72, 77, 78, 79, 80, 81, 82, 83, 84, 85, 86, 87, 88, 89, 90, 91, 92] (by decide +kernel) (by decide +kernel)
set_option maxRecDepth 20000 in
theorem gX6_whole_X6_wholeOf : GoodIn wsX6_whole (wsV RX6 152 RX6 yX6_wholeOf wsX6_wholeOf) := goodIn_app (goodIn_of _ (by decide +kernel)) ggX6_whole_X6_wholeOf
set_option maxRecDepth 20000 in
theorem ggX6_whole_X6_tells : GoodIn wsX6_whole wsX6_tells := goodIn_r _ [76, 9, 77, 78, 79, 80, 81, 82, 83, 84, 85, 86, 87, 88, 89, 90, 91, 92] (by decide +kernel) (by decide +kernel)
set_option maxRecDepth 20000 in
theorem gX6_whole_X6_tells : GoodIn wsX6_whole (wsV RX6 39 RX6 yX6_tells wsX6_tells) := goodIn_app (goodIn_of _ (by decide +kernel)) ggX6_whole_X6_tells
theorem dX6_whole_0 : decode cX6_whole 0 = .ok (.iload_n 1, 1) := by decide +kernel
theorem dX6_whole_1 : decode cX6_whole 1 = .ok (.iconst 0, 1) := by decide +kernel
theorem dX6_whole_2 : decode cX6_whole 2 = .ok (.bipush 13, 2) := by decide +kernel
theorem dX6_whole_4 : decode cX6_whole 4 = .ok (.invokestatic 28, 3) := by decide +kernel
theorem dX6_whole_7 : decode cX6_whole 7 = .ok (.ifCond .ne 9, 3) := by decide +kernel
theorem dX6_whole_10 : decode cX6_whole 10 = .ok (.aload_n 0, 1) := by decide +kernel
theorem dX6_whole_11 : decode cX6_whole 11 = .ok (.iconst 1, 1) := by decide +kernel
theorem dX6_whole_12 : decode cX6_whole 12 = .ok (.invokevirtual 101, 3) := by decide +kernel
theorem dX6_whole_15 : decode cX6_whole 15 = .ok (.ireturn, 1) := by decide +kernel
theorem dX6_whole_16 : decode cX6_whole 16 = .ok (.aload_n 0, 1) := by decide +kernel
theorem dX6_whole_17 : decode cX6_whole 17 = .ok (.invokevirtual 130, 3) := by decide +kernel
theorem dX6_whole_20 : decode cX6_whole 20 = .ok (.aload_n 0, 1) := by decide +kernel
theorem dX6_whole_21 : decode cX6_whole 21 = .ok (.aload_n 0, 1) := by decide +kernel
theorem dX6_whole_22 : decode cX6_whole 22 = .ok (.iload_n 1, 1) := by decide +kernel
theorem dX6_whole_23 : decode cX6_whole 23 = .ok (.invokevirtual 152, 3) := by decide +kernel
theorem dX6_whole_26 : decode cX6_whole 26 = .ok (.invokevirtual 39, 3) := by decide +kernel
theorem dX6_whole_29 : decode cX6_whole 29 = .ok (.ireturn, 1) := by decide +kernel
set_option maxRecDepth 20000 in
theorem ggX6_share_X6_in : GoodIn wsX6_share wsX6_in := goodIn_r _ [5] (by decide +kernel) (by decide +kernel)
set_option maxRecDepth 20000 in
theorem gX6_share_X6_in : GoodIn wsX6_share (va_wsS RX6 28 yX6_in wsX6_in) := goodIn_app (goodIn_of _ (by decide +kernel)) ggX6_share_X6_in
set_option maxRecDepth 20000 in
theorem ggX6_share_X6_tells : GoodIn wsX6_share wsX6_tells := goodIn_r _ [9, 10, 15, 16, 17, 18, 19, 20, 21, 22, 23, 24, 25, 26, 27, 28, 29, 30] (by decide +kernel) (by decide +kernel)
set_option maxRecDepth 20000 in
theorem gX6_share_X6_tells : GoodIn wsX6_share (wsV RX6 39 RX6 yX6_tells wsX6_tells) := goodIn_app (goodIn_of _ (by decide +kernel)) ggX6_share_X6_tells
set_option maxRecDepth 20000 in
theorem ggX6_share_X6_fails : GoodIn wsX6_share wsX6_fails := goodIn_r _ [14, 10, 15, 16, 17, 18, 19, 20, 21, 22, 23, 24, 25, 26, 27, 28, 29, 30] (by decide +kernel) (by decide +kernel)
set_option maxRecDepth 20000 in
theorem gX6_share_X6_fails : GoodIn wsX6_share (wsV RX6 101 RX6 yX6_fails wsX6_fails) := goodIn_app (goodIn_of _ (by decide +kernel)) ggX6_share_X6_fails
theorem dX6_share_0 : decode cX6_share 0 = .ok (.iload_n 1, 1) := by decide +kernel
theorem dX6_share_1 : decode cX6_share 1 = .ok (.iconst 0, 1) := by decide +kernel
theorem dX6_share_2 : decode cX6_share 2 = .ok (.bipush 7, 2) := by decide +kernel
theorem dX6_share_4 : decode cX6_share 4 = .ok (.invokestatic 28, 3) := by decide +kernel
theorem dX6_share_7 : decode cX6_share 7 = .ok (.ifCond .eq 19, 3) := by decide +kernel
theorem dX6_share_10 : decode cX6_share 10 = .ok (.aload_n 0, 1) := by decide +kernel
theorem dX6_share_11 : decode cX6_share 11 = .ok (.aload_n 0, 1) := by decide +kernel
theorem dX6_share_12 : decode cX6_share 12 = .ok (.getfield 7, 3) := by decide +kernel
theorem dX6_share_15 : decode cX6_share 15 = .ok (.bipush 6, 2) := by decide +kernel
theorem dX6_share_17 : decode cX6_share 17 = .ok (.iload_n 1, 1) := by decide +kernel
theorem dX6_share_18 : decode cX6_share 18 = .ok (.iadd, 1) := by decide +kernel
theorem dX6_share_19 : decode cX6_share 19 = .ok (.iaload, 1) := by decide +kernel
theorem dX6_share_20 : decode cX6_share 20 = .ok (.invokevirtual 39, 3) := by decide +kernel
theorem dX6_share_23 : decode cX6_share 23 = .ok (.goto 8, 3) := by decide +kernel
theorem dX6_share_26 : decode cX6_share 26 = .ok (.aload_n 0, 1) := by decide +kernel
theorem dX6_share_27 : decode cX6_share 27 = .ok (.iconst 1, 1) := by decide +kernel
theorem dX6_share_28 : decode cX6_share 28 = .ok (.invokevirtual 101, 3) := by decide +kernel
theorem dX6_share_31 : decode cX6_share 31 = .ok (.ireturn, 1) := by decide +kernel
set_option maxRecDepth 20000 in
theorem ggX6_unevenness_X6_makes : GoodIn wsX6_unevenness wsX6_makes := goodIn_r _ [5, 6, 7, 8, 9, 4, 10, 11, 12, 13, 14, 15, 16, 17, 18, 19, 20, 21, 22, 23, 24, 25, 26, 27, 28, 29, 30, 31, 32, 33, 34, 35, 36, 37, 38, 39, 40, 41, 42, 43, 44, 45, 46, 47, 69, 70, 71, 72, 73, 74, 75, 76, 77, 78, 79, 80, 81, 82, 83, 84] (by decide +kernel) (by decide +kernel)
set_option maxRecDepth 20000 in
theorem gX6_unevenness_X6_makes : GoodIn wsX6_unevenness (wsV RX6 130 RX6 yX6_makes wsX6_makes) := goodIn_app (goodIn_of _ (by decide +kernel)) ggX6_unevenness_X6_makes
set_option maxRecDepth 20000 in
theorem ggX6_unevenness_X6_unevennessNow : GoodIn wsX6_unevenness wsX6_unevennessNow := goodIn_r _ [51, 14, 52, 53, 54, 4, 55, 20, 44, 45, 46, 47, 6, 26, 27, 28, 29, 56, 57, 58, 59, 60, 61, 62, 63, 69, 70, 71, 72, 73, 74, 75, 76, 77, 78, 79, 80, 81, 82, 83, 84] (by decide +kernel) (by decide +kernel)
set_option maxRecDepth 20000 in
theorem gX6_unevenness_X6_unevennessNow : GoodIn wsX6_unevenness (wsV RX6 155 RX6 yX6_unevennessNow wsX6_unevennessNow) := goodIn_app (goodIn_of _ (by decide +kernel)) ggX6_unevenness_X6_unevennessNow
set_option maxRecDepth 20000 in
theorem ggX6_unevenness_X6_tells : GoodIn wsX6_unevenness wsX6_tells := goodIn_r _ [67, 68, 69, 70, 71, 72, 73, 74, 75, 76, 77, 78, 79, 80, 81, 82, 83, 84] (by decide +kernel) (by decide +kernel)
set_option maxRecDepth 20000 in
theorem gX6_unevenness_X6_tells : GoodIn wsX6_unevenness (wsV RX6 39 RX6 yX6_tells wsX6_tells) := goodIn_app (goodIn_of _ (by decide +kernel)) ggX6_unevenness_X6_tells
theorem dX6_unevenness_0 : decode cX6_unevenness 0 = .ok (.aload_n 0, 1) := by decide +kernel
theorem dX6_unevenness_1 : decode cX6_unevenness 1 = .ok (.invokevirtual 130, 3) := by decide +kernel
theorem dX6_unevenness_4 : decode cX6_unevenness 4 = .ok (.aload_n 0, 1) := by decide +kernel
theorem dX6_unevenness_5 : decode cX6_unevenness 5 = .ok (.aload_n 0, 1) := by decide +kernel
theorem dX6_unevenness_6 : decode cX6_unevenness 6 = .ok (.invokevirtual 155, 3) := by decide +kernel
theorem dX6_unevenness_9 : decode cX6_unevenness 9 = .ok (.invokevirtual 39, 3) := by decide +kernel
theorem dX6_unevenness_12 : decode cX6_unevenness 12 = .ok (.ireturn, 1) := by decide +kernel
set_option maxRecDepth 20000 in
theorem ggX6_meanEmpty_X6_makes : GoodIn wsX6_meanEmpty wsX6_makes := goodIn_r _ [7, 8, 9, 10, 11, 6, 12, 13, 14, 15, 2, 16, 17, 18, 19, 20, 21, 22, 23, 24, 25, 26, 27, 28, 29, 30, 31, 32, 33, 34, 35, 36, 37, 38, 39, 40, 41, 42, 43, 44, 45, 46, 47, 48, 57, 58, 59, 60, 61, 62, 63, 64, 65, 66, 67, 68, 69, 70, 71, 72] (by decide +kernel) (by decide +kernel)
set_option maxRecDepth 20000 in
theorem gX6_meanEmpty_X6_makes : GoodIn wsX6_meanEmpty (wsV RX6 130 RX6 yX6_makes wsX6_makes) := goodIn_app (goodIn_of _ (by decide +kernel)) ggX6_meanEmpty_X6_makes
set_option maxRecDepth 20000 in
theorem ggX6_meanEmpty_X6_empty : GoodIn wsX6_meanEmpty wsX6_empty := goodIn_r _ [52, 21, 53, 54, 55, 6, 56, 57, 58, 59, 60, 61, 62, 63, 64, 65, 66, 67, 68, 69, 70, 71, 72] (by decide +kernel) (by decide +kernel)
set_option maxRecDepth 20000 in
theorem gX6_meanEmpty_X6_empty : GoodIn wsX6_meanEmpty (wsV RX6 95 RX6 yX6_empty wsX6_empty) := goodIn_app (goodIn_of _ (by decide +kernel)) ggX6_meanEmpty_X6_empty
theorem dX6_meanEmpty_0 : decode cX6_meanEmpty 0 = .ok (.aload_n 0, 1) := by decide +kernel
theorem dX6_meanEmpty_1 : decode cX6_meanEmpty 1 = .ok (.iconst 0, 1) := by decide +kernel
theorem dX6_meanEmpty_2 : decode cX6_meanEmpty 2 = .ok (.putfield 32, 3) := by decide +kernel
theorem dX6_meanEmpty_5 : decode cX6_meanEmpty 5 = .ok (.aload_n 0, 1) := by decide +kernel
theorem dX6_meanEmpty_6 : decode cX6_meanEmpty 6 = .ok (.invokevirtual 130, 3) := by decide +kernel
theorem dX6_meanEmpty_9 : decode cX6_meanEmpty 9 = .ok (.iconst 0, 1) := by decide +kernel
theorem dX6_meanEmpty_10 : decode cX6_meanEmpty 10 = .ok (.istore_n 1, 1) := by decide +kernel
theorem dX6_meanEmpty_11 : decode cX6_meanEmpty 11 = .ok (.iconst 0, 1) := by decide +kernel
theorem dX6_meanEmpty_12 : decode cX6_meanEmpty 12 = .ok (.istore_n 2, 1) := by decide +kernel
theorem dX6_meanEmpty_13 : decode cX6_meanEmpty 13 = .ok (.iload_n 2, 1) := by decide +kernel
theorem dX6_meanEmpty_14 : decode cX6_meanEmpty 14 = .ok (.aload_n 0, 1) := by decide +kernel
theorem dX6_meanEmpty_15 : decode cX6_meanEmpty 15 = .ok (.getfield 53, 3) := by decide +kernel
theorem dX6_meanEmpty_18 : decode cX6_meanEmpty 18 = .ok (.if_icmp .ge 17, 3) := by decide +kernel
theorem dX6_meanEmpty_21 : decode cX6_meanEmpty 21 = .ok (.iload_n 1, 1) := by decide +kernel
theorem dX6_meanEmpty_22 : decode cX6_meanEmpty 22 = .ok (.aload_n 0, 1) := by decide +kernel
theorem dX6_meanEmpty_23 : decode cX6_meanEmpty 23 = .ok (.iload_n 2, 1) := by decide +kernel
theorem dX6_meanEmpty_24 : decode cX6_meanEmpty 24 = .ok (.invokevirtual 95, 3) := by decide +kernel
theorem dX6_meanEmpty_27 : decode cX6_meanEmpty 27 = .ok (.iadd, 1) := by decide +kernel
theorem dX6_meanEmpty_28 : decode cX6_meanEmpty 28 = .ok (.istore_n 1, 1) := by decide +kernel
theorem dX6_meanEmpty_29 : decode cX6_meanEmpty 29 = .ok (.iinc 2 1, 3) := by decide +kernel
theorem dX6_meanEmpty_32 : decode cX6_meanEmpty 32 = .ok (.goto (-19), 3) := by decide +kernel
theorem dX6_meanEmpty_35 : decode cX6_meanEmpty 35 = .ok (.aload_n 0, 1) := by decide +kernel
theorem dX6_meanEmpty_36 : decode cX6_meanEmpty 36 = .ok (.getfield 53, 3) := by decide +kernel
theorem dX6_meanEmpty_39 : decode cX6_meanEmpty 39 = .ok (.ifCond .ne 7, 3) := by decide +kernel
theorem dX6_meanEmpty_42 : decode cX6_meanEmpty 42 = .ok (.dconst 0, 1) := by decide +kernel
theorem dX6_meanEmpty_43 : decode cX6_meanEmpty 43 = .ok (.goto 11, 3) := by decide +kernel
theorem dX6_meanEmpty_46 : decode cX6_meanEmpty 46 = .ok (.iload_n 1, 1) := by decide +kernel
theorem dX6_meanEmpty_47 : decode cX6_meanEmpty 47 = .ok (.i2d, 1) := by decide +kernel
theorem dX6_meanEmpty_48 : decode cX6_meanEmpty 48 = .ok (.aload_n 0, 1) := by decide +kernel
theorem dX6_meanEmpty_49 : decode cX6_meanEmpty 49 = .ok (.getfield 53, 3) := by decide +kernel
theorem dX6_meanEmpty_52 : decode cX6_meanEmpty 52 = .ok (.i2d, 1) := by decide +kernel
theorem dX6_meanEmpty_53 : decode cX6_meanEmpty 53 = .ok (.ddiv, 1) := by decide +kernel
theorem dX6_meanEmpty_54 : decode cX6_meanEmpty 54 = .ok (.dreturn, 1) := by decide +kernel
set_option maxRecDepth 20000 in
theorem ggX6_linesWith_X6_in : GoodIn wsX6_linesWith wsX6_in := goodIn_r _ [6] (by decide +kernel) (by decide +kernel)
set_option maxRecDepth 20000 in
theorem gX6_linesWith_X6_in : GoodIn wsX6_linesWith (va_wsS RX6 28 yX6_in wsX6_in) := goodIn_app (goodIn_of _ (by decide +kernel)) ggX6_linesWith_X6_in
set_option maxRecDepth 20000 in
theorem ggX6_linesWith_X6_fails : GoodIn wsX6_linesWith wsX6_fails := goodIn_r _ [10, 11, 56, 57, 58, 59, 60, 61, 62, 63, 64, 65, 66, 67, 68, 69, 70, 71] (by decide +kernel) (by decide +kernel)
set_option maxRecDepth 20000 in
theorem gX6_linesWith_X6_fails : GoodIn wsX6_linesWith (wsV RX6 101 RX6 yX6_fails wsX6_fails) := goodIn_app (goodIn_of _ (by decide +kernel)) ggX6_linesWith_X6_fails
set_option maxRecDepth 20000 in
theorem ggX6_linesWith_X6_setAll : GoodIn wsX6_linesWith wsX6_setAll := goodIn_r _ [15, 16, 17, 18, 2, 19, 1, 20, 21, 22, 5, 23, 24, 25, 26, 27, 28, 29, 30, 31, 32, 33, 34, 35, 36, 37, 38, 39, 40, 41, 42, 43, 44, 45, 46, 47, 48, 49, 50, 51, 56, 57, 58, 59, 60, 61, 62, 63, 64, 65, 66, 67, 68, 69, 70, 71] (by decide +kernel) (by decide +kernel)
set_option maxRecDepth 20000 in
theorem gX6_linesWith_X6_setAll : GoodIn wsX6_linesWith (wsV RX6 85 RX6 yX6_setAll wsX6_setAll) := goodIn_app (goodIn_of _ (by decide +kernel)) ggX6_linesWith_X6_setAll
set_option maxRecDepth 20000 in
theorem ggX6_linesWith_X6_tells : GoodIn wsX6_linesWith wsX6_tells := goodIn_r _ [55, 11, 56, 57, 58, 59, 60, 61, 62, 63, 64, 65, 66, 67, 68, 69, 70, 71] (by decide +kernel) (by decide +kernel)
set_option maxRecDepth 20000 in
theorem gX6_linesWith_X6_tells : GoodIn wsX6_linesWith (wsV RX6 39 RX6 yX6_tells wsX6_tells) := goodIn_app (goodIn_of _ (by decide +kernel)) ggX6_linesWith_X6_tells
theorem dX6_linesWith_0 : decode cX6_linesWith 0 = .ok (.iload_n 1, 1) := by decide +kernel
theorem dX6_linesWith_1 : decode cX6_linesWith 1 = .ok (.bipush 20, 2) := by decide +kernel
theorem dX6_linesWith_3 : decode cX6_linesWith 3 = .ok (.sipush 200, 3) := by decide +kernel
theorem dX6_linesWith_6 : decode cX6_linesWith 6 = .ok (.invokestatic 28, 3) := by decide +kernel
theorem dX6_linesWith_9 : decode cX6_linesWith 9 = .ok (.ifCond .ne 9, 3) := by decide +kernel
theorem dX6_linesWith_12 : decode cX6_linesWith 12 = .ok (.aload_n 0, 1) := by decide +kernel
theorem dX6_linesWith_13 : decode cX6_linesWith 13 = .ok (.iconst 1, 1) := by decide +kernel
theorem dX6_linesWith_14 : decode cX6_linesWith 14 = .ok (.invokevirtual 101, 3) := by decide +kernel
theorem dX6_linesWith_17 : decode cX6_linesWith 17 = .ok (.ireturn, 1) := by decide +kernel
theorem dX6_linesWith_18 : decode cX6_linesWith 18 = .ok (.aload_n 0, 1) := by decide +kernel
theorem dX6_linesWith_19 : decode cX6_linesWith 19 = .ok (.iload_n 1, 1) := by decide +kernel
theorem dX6_linesWith_20 : decode cX6_linesWith 20 = .ok (.aload_n 0, 1) := by decide +kernel
theorem dX6_linesWith_21 : decode cX6_linesWith 21 = .ok (.getfield 7, 3) := by decide +kernel
theorem dX6_linesWith_24 : decode cX6_linesWith 24 = .ok (.iconst 2, 1) := by decide +kernel
theorem dX6_linesWith_25 : decode cX6_linesWith 25 = .ok (.iaload, 1) := by decide +kernel
theorem dX6_linesWith_26 : decode cX6_linesWith 26 = .ok (.aload_n 0, 1) := by decide +kernel
theorem dX6_linesWith_27 : decode cX6_linesWith 27 = .ok (.getfield 7, 3) := by decide +kernel
theorem dX6_linesWith_30 : decode cX6_linesWith 30 = .ok (.iconst 3, 1) := by decide +kernel
theorem dX6_linesWith_31 : decode cX6_linesWith 31 = .ok (.iaload, 1) := by decide +kernel
theorem dX6_linesWith_32 : decode cX6_linesWith 32 = .ok (.invokevirtual 85, 3) := by decide +kernel
theorem dX6_linesWith_35 : decode cX6_linesWith 35 = .ok (.aload_n 0, 1) := by decide +kernel
theorem dX6_linesWith_36 : decode cX6_linesWith 36 = .ok (.aload_n 0, 1) := by decide +kernel
theorem dX6_linesWith_37 : decode cX6_linesWith 37 = .ok (.getfield 53, 3) := by decide +kernel
theorem dX6_linesWith_40 : decode cX6_linesWith 40 = .ok (.invokevirtual 39, 3) := by decide +kernel
theorem dX6_linesWith_43 : decode cX6_linesWith 43 = .ok (.ireturn, 1) := by decide +kernel
set_option maxRecDepth 20000 in
theorem ggX6_measureFor_X6_in : GoodIn wsX6_measureFor wsX6_in := goodIn_r _ [6] (by decide +kernel) (by decide +kernel)
set_option maxRecDepth 20000 in
theorem gX6_measureFor_X6_in : GoodIn wsX6_measureFor (va_wsS RX6 28 yX6_in wsX6_in) := goodIn_app (goodIn_of _ (by decide +kernel)) ggX6_measureFor_X6_in
set_option maxRecDepth 20000 in
theorem ggX6_measureFor_X6_fails : GoodIn wsX6_measureFor wsX6_fails := goodIn_r _ [10, 11, 56, 57, 58, 59, 60, 61, 62, 63, 64, 65, 66, 67, 68, 69, 70, 71] (by decide +kernel) (by decide +kernel)
set_option maxRecDepth 20000 in
theorem gX6_measureFor_X6_fails : GoodIn wsX6_measureFor (wsV RX6 101 RX6 yX6_fails wsX6_fails) := goodIn_app (goodIn_of _ (by decide +kernel)) ggX6_measureFor_X6_fails
set_option maxRecDepth 20000 in
theorem ggX6_measureFor_X6_setAll : GoodIn wsX6_measureFor wsX6_setAll := goodIn_r _ [15, 16, 17, 18, 2, 19, 1, 20, 21, 22, 5, 23, 24, 25, 26, 27, 28, 29, 30, 31, 32, 33, 34, 35, 36, 37, 38, 39, 40, 41, 42, 43, 44, 45, 46, 47, 48, 49, 50, 51, 56, 57, 58, 59, 60, 61, 62, 63, 64, 65, 66, 67, 68, 69, 70, 71] (by decide +kernel) (by decide +kernel)
set_option maxRecDepth 20000 in
theorem gX6_measureFor_X6_setAll : GoodIn wsX6_measureFor (wsV RX6 85 RX6 yX6_setAll wsX6_setAll) := goodIn_app (goodIn_of _ (by decide +kernel)) ggX6_measureFor_X6_setAll
set_option maxRecDepth 20000 in
theorem ggX6_measureFor_X6_tells : GoodIn wsX6_measureFor wsX6_tells := goodIn_r _ [55, 11, 56, 57, 58, 59, 60, 61, 62, 63, 64, 65, 66, 67, 68, 69, 70, 71] (by decide +kernel) (by decide +kernel)
set_option maxRecDepth 20000 in
theorem gX6_measureFor_X6_tells : GoodIn wsX6_measureFor (wsV RX6 39 RX6 yX6_tells wsX6_tells) := goodIn_app (goodIn_of _ (by decide +kernel)) ggX6_measureFor_X6_tells
theorem dX6_measureFor_0 : decode cX6_measureFor 0 = .ok (.iload_n 1, 1) := by decide +kernel
theorem dX6_measureFor_1 : decode cX6_measureFor 1 = .ok (.iconst 1, 1) := by decide +kernel
theorem dX6_measureFor_2 : decode cX6_measureFor 2 = .ok (.bipush 60, 2) := by decide +kernel
theorem dX6_measureFor_4 : decode cX6_measureFor 4 = .ok (.invokestatic 28, 3) := by decide +kernel
theorem dX6_measureFor_7 : decode cX6_measureFor 7 = .ok (.ifCond .ne 9, 3) := by decide +kernel
theorem dX6_measureFor_10 : decode cX6_measureFor 10 = .ok (.aload_n 0, 1) := by decide +kernel
theorem dX6_measureFor_11 : decode cX6_measureFor 11 = .ok (.iconst 1, 1) := by decide +kernel
theorem dX6_measureFor_12 : decode cX6_measureFor 12 = .ok (.invokevirtual 101, 3) := by decide +kernel
theorem dX6_measureFor_15 : decode cX6_measureFor 15 = .ok (.ireturn, 1) := by decide +kernel
theorem dX6_measureFor_16 : decode cX6_measureFor 16 = .ok (.bipush 20, 2) := by decide +kernel
theorem dX6_measureFor_18 : decode cX6_measureFor 18 = .ok (.istore_n 2, 1) := by decide +kernel
theorem dX6_measureFor_19 : decode cX6_measureFor 19 = .ok (.iload_n 2, 1) := by decide +kernel
theorem dX6_measureFor_20 : decode cX6_measureFor 20 = .ok (.sipush 200, 3) := by decide +kernel
theorem dX6_measureFor_23 : decode cX6_measureFor 23 = .ok (.if_icmp .gt 40, 3) := by decide +kernel
theorem dX6_measureFor_26 : decode cX6_measureFor 26 = .ok (.aload_n 0, 1) := by decide +kernel
theorem dX6_measureFor_27 : decode cX6_measureFor 27 = .ok (.iload_n 2, 1) := by decide +kernel
theorem dX6_measureFor_28 : decode cX6_measureFor 28 = .ok (.aload_n 0, 1) := by decide +kernel
theorem dX6_measureFor_29 : decode cX6_measureFor 29 = .ok (.getfield 7, 3) := by decide +kernel
theorem dX6_measureFor_32 : decode cX6_measureFor 32 = .ok (.iconst 2, 1) := by decide +kernel
theorem dX6_measureFor_33 : decode cX6_measureFor 33 = .ok (.iaload, 1) := by decide +kernel
theorem dX6_measureFor_34 : decode cX6_measureFor 34 = .ok (.aload_n 0, 1) := by decide +kernel
theorem dX6_measureFor_35 : decode cX6_measureFor 35 = .ok (.getfield 7, 3) := by decide +kernel
theorem dX6_measureFor_38 : decode cX6_measureFor 38 = .ok (.iconst 3, 1) := by decide +kernel
theorem dX6_measureFor_39 : decode cX6_measureFor 39 = .ok (.iaload, 1) := by decide +kernel
theorem dX6_measureFor_40 : decode cX6_measureFor 40 = .ok (.invokevirtual 85, 3) := by decide +kernel
theorem dX6_measureFor_43 : decode cX6_measureFor 43 = .ok (.aload_n 0, 1) := by decide +kernel
theorem dX6_measureFor_44 : decode cX6_measureFor 44 = .ok (.getfield 53, 3) := by decide +kernel
theorem dX6_measureFor_47 : decode cX6_measureFor 47 = .ok (.iload_n 1, 1) := by decide +kernel
theorem dX6_measureFor_48 : decode cX6_measureFor 48 = .ok (.if_icmp .gt 9, 3) := by decide +kernel
theorem dX6_measureFor_51 : decode cX6_measureFor 51 = .ok (.aload_n 0, 1) := by decide +kernel
theorem dX6_measureFor_52 : decode cX6_measureFor 52 = .ok (.iload_n 2, 1) := by decide +kernel
theorem dX6_measureFor_53 : decode cX6_measureFor 53 = .ok (.invokevirtual 39, 3) := by decide +kernel
theorem dX6_measureFor_56 : decode cX6_measureFor 56 = .ok (.ireturn, 1) := by decide +kernel
theorem dX6_measureFor_57 : decode cX6_measureFor 57 = .ok (.iinc 2 1, 3) := by decide +kernel
theorem dX6_measureFor_60 : decode cX6_measureFor 60 = .ok (.goto (-41), 3) := by decide +kernel
theorem dX6_measureFor_63 : decode cX6_measureFor 63 = .ok (.aload_n 0, 1) := by decide +kernel
theorem dX6_measureFor_64 : decode cX6_measureFor 64 = .ok (.iconst (-1), 1) := by decide +kernel
theorem dX6_measureFor_65 : decode cX6_measureFor 65 = .ok (.invokevirtual 39, 3) := by decide +kernel
theorem dX6_measureFor_68 : decode cX6_measureFor 68 = .ok (.ireturn, 1) := by decide +kernel
set_option maxRecDepth 20000 in
theorem ggX6_linesUnlent_X6_setAll : GoodIn wsX6_linesUnlent wsX6_setAll := goodIn_r _ [7, 8, 9, 10, 2, 11, 1, 12, 13, 14, 6, 15, 16, 17, 18, 19, 20, 21, 22, 23, 24, 25, 26, 27, 28, 29, 30, 31, 32, 33, 34, 35, 36, 37, 38, 39, 40, 41, 42, 43, 49, 50, 51, 52, 53, 54, 55, 56, 57, 58, 59, 60, 61, 62, 63, 64] (by decide +kernel) (by decide +kernel)
set_option maxRecDepth 20000 in
theorem gX6_linesUnlent_X6_setAll : GoodIn wsX6_linesUnlent (wsV RX6 85 RX6 yX6_setAll wsX6_setAll) := goodIn_app (goodIn_of _ (by decide +kernel)) ggX6_linesUnlent_X6_setAll
set_option maxRecDepth 20000 in
theorem ggX6_linesUnlent_X6_tells : GoodIn wsX6_linesUnlent wsX6_tells := goodIn_r _ [47, 48, 49, 50, 51, 52, 53, 54, 55, 56, 57, 58, 59, 60, 61, 62, 63, 64] (by decide +kernel) (by decide +kernel)
set_option maxRecDepth 20000 in
theorem gX6_linesUnlent_X6_tells : GoodIn wsX6_linesUnlent (wsV RX6 39 RX6 yX6_tells wsX6_tells) := goodIn_app (goodIn_of _ (by decide +kernel)) ggX6_linesUnlent_X6_tells
theorem dX6_linesUnlent_0 : decode cX6_linesUnlent 0 = .ok (.aload_n 0, 1) := by decide +kernel
theorem dX6_linesUnlent_1 : decode cX6_linesUnlent 1 = .ok (.aload_n 0, 1) := by decide +kernel
theorem dX6_linesUnlent_2 : decode cX6_linesUnlent 2 = .ok (.getfield 7, 3) := by decide +kernel
theorem dX6_linesUnlent_5 : decode cX6_linesUnlent 5 = .ok (.iconst 0, 1) := by decide +kernel
theorem dX6_linesUnlent_6 : decode cX6_linesUnlent 6 = .ok (.iaload, 1) := by decide +kernel
theorem dX6_linesUnlent_7 : decode cX6_linesUnlent 7 = .ok (.iconst 0, 1) := by decide +kernel
theorem dX6_linesUnlent_8 : decode cX6_linesUnlent 8 = .ok (.iconst 0, 1) := by decide +kernel
theorem dX6_linesUnlent_9 : decode cX6_linesUnlent 9 = .ok (.invokevirtual 85, 3) := by decide +kernel
theorem dX6_linesUnlent_12 : decode cX6_linesUnlent 12 = .ok (.aload_n 0, 1) := by decide +kernel
theorem dX6_linesUnlent_13 : decode cX6_linesUnlent 13 = .ok (.aload_n 0, 1) := by decide +kernel
theorem dX6_linesUnlent_14 : decode cX6_linesUnlent 14 = .ok (.getfield 53, 3) := by decide +kernel
theorem dX6_linesUnlent_17 : decode cX6_linesUnlent 17 = .ok (.invokevirtual 39, 3) := by decide +kernel
theorem dX6_linesUnlent_20 : decode cX6_linesUnlent 20 = .ok (.ireturn, 1) := by decide +kernel
set_option maxRecDepth 20000 in
theorem ggX6_evenest_X6_in : GoodIn wsX6_evenest wsX6_in := goodIn_r _ [5] (by decide +kernel) (by decide +kernel)
set_option maxRecDepth 20000 in
theorem gX6_evenest_X6_in : GoodIn wsX6_evenest (va_wsS RX6 28 yX6_in wsX6_in) := goodIn_app (goodIn_of _ (by decide +kernel)) ggX6_evenest_X6_in
set_option maxRecDepth 20000 in
theorem ggX6_evenest_X6_fails : GoodIn wsX6_evenest wsX6_fails := goodIn_r _ [9, 10, 72, 73, 74, 75, 76, 77, 78, 79, 80, 81, 82, 83, 84, 85, 86, 87] (by decide +kernel) (by decide +kernel)
set_option maxRecDepth 20000 in
theorem gX6_evenest_X6_fails : GoodIn wsX6_evenest (wsV RX6 101 RX6 yX6_fails wsX6_fails) := goodIn_app (goodIn_of _ (by decide +kernel)) ggX6_evenest_X6_fails
set_option maxRecDepth 20000 in
theorem ggX6_evenest_X6_setAll : GoodIn wsX6_evenest wsX6_setAll := goodIn_r _ [14, 15, 16, 17, 18, 19, 1, 20, 21, 22, 4, 23, 24, 25, 26, 27, 28, 29, 30, 31, 32, 33, 34, 35, 36, 37, 38, 39, 40, 41, 42, 43, 44, 45, 46, 47, 48, 49, 50, 51, 72, 73, 74, 75, 76, 77, 78, 79, 80, 81, 82, 83, 84, 85, 86, 87] (by decide +kernel) (by decide +kernel)
set_option maxRecDepth 20000 in
theorem gX6_evenest_X6_setAll : GoodIn wsX6_evenest (wsV RX6 85 RX6 yX6_setAll wsX6_setAll) := goodIn_app (goodIn_of _ (by decide +kernel)) ggX6_evenest_X6_setAll
set_option maxRecDepth 20000 in
theorem ggX6_evenest_X6_unevennessNow : GoodIn wsX6_evenest wsX6_unevennessNow := goodIn_r _ [55, 18, 56, 57, 58, 4, 59, 24, 48, 49, 50, 51, 1, 30, 31, 32, 33, 60, 61, 62, 63, 64, 65, 66, 67, 72, 73, 74, 75, 76, 77, 78, 79, 80, 81, 82, 83, 84, 85, 86, 87] (by decide +kernel) (by decide +kernel)
set_option maxRecDepth 20000 in
theorem gX6_evenest_X6_unevennessNow : GoodIn wsX6_evenest (wsV RX6 155 RX6 yX6_unevennessNow wsX6_unevennessNow) := goodIn_app (goodIn_of _ (by decide +kernel)) ggX6_evenest_X6_unevennessNow
set_option maxRecDepth 20000 in
theorem ggX6_evenest_X6_tells : GoodIn wsX6_evenest wsX6_tells := goodIn_r _ [71, 10, 72, 73, 74, 75, 76, 77, 78, 79, 80, 81, 82, 83, 84, 85, 86, 87] (by decide +kernel) (by decide +kernel)
set_option maxRecDepth 20000 in
theorem gX6_evenest_X6_tells : GoodIn wsX6_evenest (wsV RX6 39 RX6 yX6_tells wsX6_tells) := goodIn_app (goodIn_of _ (by decide +kernel)) ggX6_evenest_X6_tells
theorem dX6_evenest_0 : decode cX6_evenest 0 = .ok (.iload_n 1, 1) := by decide +kernel
theorem dX6_evenest_1 : decode cX6_evenest 1 = .ok (.iconst 0, 1) := by decide +kernel
theorem dX6_evenest_2 : decode cX6_evenest 2 = .ok (.bipush 20, 2) := by decide +kernel
theorem dX6_evenest_4 : decode cX6_evenest 4 = .ok (.invokestatic 28, 3) := by decide +kernel
theorem dX6_evenest_7 : decode cX6_evenest 7 = .ok (.ifCond .ne 9, 3) := by decide +kernel
theorem dX6_evenest_10 : decode cX6_evenest 10 = .ok (.aload_n 0, 1) := by decide +kernel
theorem dX6_evenest_11 : decode cX6_evenest 11 = .ok (.iconst 1, 1) := by decide +kernel
theorem dX6_evenest_12 : decode cX6_evenest 12 = .ok (.invokevirtual 101, 3) := by decide +kernel
theorem dX6_evenest_15 : decode cX6_evenest 15 = .ok (.ireturn, 1) := by decide +kernel
theorem dX6_evenest_16 : decode cX6_evenest 16 = .ok (.iconst (-1), 1) := by decide +kernel
theorem dX6_evenest_17 : decode cX6_evenest 17 = .ok (.istore_n 2, 1) := by decide +kernel
theorem dX6_evenest_18 : decode cX6_evenest 18 = .ok (.iconst 0, 1) := by decide +kernel
theorem dX6_evenest_19 : decode cX6_evenest 19 = .ok (.istore_n 3, 1) := by decide +kernel
theorem dX6_evenest_20 : decode cX6_evenest 20 = .ok (.aload_n 0, 1) := by decide +kernel
theorem dX6_evenest_21 : decode cX6_evenest 21 = .ok (.getfield 7, 3) := by decide +kernel
theorem dX6_evenest_24 : decode cX6_evenest 24 = .ok (.iconst 0, 1) := by decide +kernel
theorem dX6_evenest_25 : decode cX6_evenest 25 = .ok (.iaload, 1) := by decide +kernel
theorem dX6_evenest_26 : decode cX6_evenest 26 = .ok (.iload_n 1, 1) := by decide +kernel
theorem dX6_evenest_27 : decode cX6_evenest 27 = .ok (.isub, 1) := by decide +kernel
theorem dX6_evenest_28 : decode cX6_evenest 28 = .ok (.istore 4, 2) := by decide +kernel
theorem dX6_evenest_30 : decode cX6_evenest 30 = .ok (.iload 4, 2) := by decide +kernel
theorem dX6_evenest_32 : decode cX6_evenest 32 = .ok (.aload_n 0, 1) := by decide +kernel
theorem dX6_evenest_33 : decode cX6_evenest 33 = .ok (.getfield 7, 3) := by decide +kernel
theorem dX6_evenest_36 : decode cX6_evenest 36 = .ok (.iconst 0, 1) := by decide +kernel
theorem dX6_evenest_37 : decode cX6_evenest 37 = .ok (.iaload, 1) := by decide +kernel
theorem dX6_evenest_38 : decode cX6_evenest 38 = .ok (.iload_n 1, 1) := by decide +kernel
theorem dX6_evenest_39 : decode cX6_evenest 39 = .ok (.iadd, 1) := by decide +kernel
theorem dX6_evenest_40 : decode cX6_evenest 40 = .ok (.if_icmp .gt 77, 3) := by decide +kernel
theorem dX6_evenest_43 : decode cX6_evenest 43 = .ok (.iload 4, 2) := by decide +kernel
theorem dX6_evenest_45 : decode cX6_evenest 45 = .ok (.bipush 20, 2) := by decide +kernel
theorem dX6_evenest_47 : decode cX6_evenest 47 = .ok (.sipush 200, 3) := by decide +kernel
theorem dX6_evenest_50 : decode cX6_evenest 50 = .ok (.invokestatic 28, 3) := by decide +kernel
theorem dX6_evenest_53 : decode cX6_evenest 53 = .ok (.ifCond .eq 58, 3) := by decide +kernel
theorem dX6_evenest_56 : decode cX6_evenest 56 = .ok (.aload_n 0, 1) := by decide +kernel
theorem dX6_evenest_57 : decode cX6_evenest 57 = .ok (.iload 4, 2) := by decide +kernel
theorem dX6_evenest_59 : decode cX6_evenest 59 = .ok (.aload_n 0, 1) := by decide +kernel
theorem dX6_evenest_60 : decode cX6_evenest 60 = .ok (.getfield 7, 3) := by decide +kernel
theorem dX6_evenest_63 : decode cX6_evenest 63 = .ok (.iconst 2, 1) := by decide +kernel
theorem dX6_evenest_64 : decode cX6_evenest 64 = .ok (.iaload, 1) := by decide +kernel
theorem dX6_evenest_65 : decode cX6_evenest 65 = .ok (.aload_n 0, 1) := by decide +kernel
theorem dX6_evenest_66 : decode cX6_evenest 66 = .ok (.getfield 7, 3) := by decide +kernel
theorem dX6_evenest_69 : decode cX6_evenest 69 = .ok (.iconst 3, 1) := by decide +kernel
theorem dX6_evenest_70 : decode cX6_evenest 70 = .ok (.iaload, 1) := by decide +kernel
theorem dX6_evenest_71 : decode cX6_evenest 71 = .ok (.invokevirtual 85, 3) := by decide +kernel
theorem dX6_evenest_74 : decode cX6_evenest 74 = .ok (.aload_n 0, 1) := by decide +kernel
theorem dX6_evenest_75 : decode cX6_evenest 75 = .ok (.invokevirtual 155, 3) := by decide +kernel
theorem dX6_evenest_78 : decode cX6_evenest 78 = .ok (.istore 5, 2) := by decide +kernel
theorem dX6_evenest_80 : decode cX6_evenest 80 = .ok (.iload_n 2, 1) := by decide +kernel
theorem dX6_evenest_81 : decode cX6_evenest 81 = .ok (.iconst (-1), 1) := by decide +kernel
theorem dX6_evenest_82 : decode cX6_evenest 82 = .ok (.if_icmp .eq 9, 3) := by decide +kernel
theorem dX6_evenest_85 : decode cX6_evenest 85 = .ok (.iload 5, 2) := by decide +kernel
theorem dX6_evenest_87 : decode cX6_evenest 87 = .ok (.iload_n 3, 1) := by decide +kernel
theorem dX6_evenest_88 : decode cX6_evenest 88 = .ok (.if_icmp .ge 8, 3) := by decide +kernel
theorem dX6_evenest_91 : decode cX6_evenest 91 = .ok (.iload 4, 2) := by decide +kernel
theorem dX6_evenest_93 : decode cX6_evenest 93 = .ok (.goto 4, 3) := by decide +kernel
theorem dX6_evenest_96 : decode cX6_evenest 96 = .ok (.iload_n 2, 1) := by decide +kernel
theorem dX6_evenest_97 : decode cX6_evenest 97 = .ok (.istore_n 2, 1) := by decide +kernel
theorem dX6_evenest_98 : decode cX6_evenest 98 = .ok (.iload_n 2, 1) := by decide +kernel
theorem dX6_evenest_99 : decode cX6_evenest 99 = .ok (.iload 4, 2) := by decide +kernel
theorem dX6_evenest_101 : decode cX6_evenest 101 = .ok (.if_icmp .ne 8, 3) := by decide +kernel
theorem dX6_evenest_104 : decode cX6_evenest 104 = .ok (.iload 5, 2) := by decide +kernel
theorem dX6_evenest_106 : decode cX6_evenest 106 = .ok (.goto 4, 3) := by decide +kernel
theorem dX6_evenest_109 : decode cX6_evenest 109 = .ok (.iload_n 3, 1) := by decide +kernel
theorem dX6_evenest_110 : decode cX6_evenest 110 = .ok (.istore_n 3, 1) := by decide +kernel
theorem dX6_evenest_111 : decode cX6_evenest 111 = .ok (.iinc 4 1, 3) := by decide +kernel
theorem dX6_evenest_114 : decode cX6_evenest 114 = .ok (.goto (-84), 3) := by decide +kernel
theorem dX6_evenest_117 : decode cX6_evenest 117 = .ok (.aload_n 0, 1) := by decide +kernel
theorem dX6_evenest_118 : decode cX6_evenest 118 = .ok (.iload_n 2, 1) := by decide +kernel
theorem dX6_evenest_119 : decode cX6_evenest 119 = .ok (.invokevirtual 39, 3) := by decide +kernel
theorem dX6_evenest_122 : decode cX6_evenest 122 = .ok (.ireturn, 1) := by decide +kernel
set_option maxRecDepth 20000 in
theorem ggX6_type_X6_in : GoodIn wsX6_type wsX6_in := goodIn_r _ [6] (by decide +kernel) (by decide +kernel)
set_option maxRecDepth 20000 in
theorem gX6_type_X6_in : GoodIn wsX6_type (va_wsS RX6 28 yX6_in wsX6_in) := goodIn_app (goodIn_of _ (by decide +kernel)) ggX6_type_X6_in
set_option maxRecDepth 20000 in
theorem ggX6_type_X6_fails : GoodIn wsX6_type wsX6_fails := goodIn_r _ [10, 11, 16, 17, 18, 19, 20, 21, 22, 23, 24, 25, 26, 27, 28, 29, 30, 31] (by decide +kernel) (by decide +kernel)
set_option maxRecDepth 20000 in
theorem gX6_type_X6_fails : GoodIn wsX6_type (wsV RX6 101 RX6 yX6_fails wsX6_fails) := goodIn_app (goodIn_of _ (by decide +kernel)) ggX6_type_X6_fails
set_option maxRecDepth 20000 in
theorem ggX6_type_X6_tells : GoodIn wsX6_type wsX6_tells := goodIn_r _ [15, 11, 16, 17, 18, 19, 20, 21, 22, 23, 24, 25, 26, 27, 28, 29, 30, 31] (by decide +kernel) (by decide +kernel)
set_option maxRecDepth 20000 in
theorem gX6_type_X6_tells : GoodIn wsX6_type (wsV RX6 39 RX6 yX6_tells wsX6_tells) := goodIn_app (goodIn_of _ (by decide +kernel)) ggX6_type_X6_tells
theorem dX6_type_0 : decode cX6_type 0 = .ok (.iload_n 1, 1) := by decide +kernel
theorem dX6_type_1 : decode cX6_type 1 = .ok (.iconst 0, 1) := by decide +kernel
theorem dX6_type_2 : decode cX6_type 2 = .ok (.bipush 127, 2) := by decide +kernel
theorem dX6_type_4 : decode cX6_type 4 = .ok (.invokestatic 28, 3) := by decide +kernel
theorem dX6_type_7 : decode cX6_type 7 = .ok (.ifCond .ne 9, 3) := by decide +kernel
theorem dX6_type_10 : decode cX6_type 10 = .ok (.aload_n 0, 1) := by decide +kernel
theorem dX6_type_11 : decode cX6_type 11 = .ok (.iconst 1, 1) := by decide +kernel
theorem dX6_type_12 : decode cX6_type 12 = .ok (.invokevirtual 101, 3) := by decide +kernel
theorem dX6_type_15 : decode cX6_type 15 = .ok (.ireturn, 1) := by decide +kernel
theorem dX6_type_16 : decode cX6_type 16 = .ok (.aload_n 0, 1) := by decide +kernel
theorem dX6_type_17 : decode cX6_type 17 = .ok (.getfield 149, 3) := by decide +kernel
theorem dX6_type_20 : decode cX6_type 20 = .ok (.sipush 200, 3) := by decide +kernel
theorem dX6_type_23 : decode cX6_type 23 = .ok (.if_icmp .ne 9, 3) := by decide +kernel
theorem dX6_type_26 : decode cX6_type 26 = .ok (.aload_n 0, 1) := by decide +kernel
theorem dX6_type_27 : decode cX6_type 27 = .ok (.iconst 2, 1) := by decide +kernel
theorem dX6_type_28 : decode cX6_type 28 = .ok (.invokevirtual 101, 3) := by decide +kernel
theorem dX6_type_31 : decode cX6_type 31 = .ok (.ireturn, 1) := by decide +kernel
theorem dX6_type_32 : decode cX6_type 32 = .ok (.aload_n 0, 1) := by decide +kernel
theorem dX6_type_33 : decode cX6_type 33 = .ok (.getfield 19, 3) := by decide +kernel
theorem dX6_type_36 : decode cX6_type 36 = .ok (.aload_n 0, 1) := by decide +kernel
theorem dX6_type_37 : decode cX6_type 37 = .ok (.getfield 149, 3) := by decide +kernel
theorem dX6_type_40 : decode cX6_type 40 = .ok (.iload_n 1, 1) := by decide +kernel
theorem dX6_type_41 : decode cX6_type 41 = .ok (.iastore, 1) := by decide +kernel
theorem dX6_type_42 : decode cX6_type 42 = .ok (.aload_n 0, 1) := by decide +kernel
theorem dX6_type_43 : decode cX6_type 43 = .ok (.dup, 1) := by decide +kernel
theorem dX6_type_44 : decode cX6_type 44 = .ok (.getfield 149, 3) := by decide +kernel
theorem dX6_type_47 : decode cX6_type 47 = .ok (.iconst 1, 1) := by decide +kernel
theorem dX6_type_48 : decode cX6_type 48 = .ok (.iadd, 1) := by decide +kernel
theorem dX6_type_49 : decode cX6_type 49 = .ok (.putfield 149, 3) := by decide +kernel
theorem dX6_type_52 : decode cX6_type 52 = .ok (.aload_n 0, 1) := by decide +kernel
theorem dX6_type_53 : decode cX6_type 53 = .ok (.aload_n 0, 1) := by decide +kernel
theorem dX6_type_54 : decode cX6_type 54 = .ok (.getfield 149, 3) := by decide +kernel
theorem dX6_type_57 : decode cX6_type 57 = .ok (.invokevirtual 39, 3) := by decide +kernel
theorem dX6_type_60 : decode cX6_type 60 = .ok (.ireturn, 1) := by decide +kernel
set_option maxRecDepth 20000 in
theorem ggX6_clearText_X6_tells : GoodIn wsX6_clearText wsX6_tells := goodIn_r _ [6, 7, 8, 9, 10, 11, 12, 13, 14, 15, 16, 17, 18, 19, 20, 21, 22, 23] (by decide +kernel) (by decide +kernel)
set_option maxRecDepth 20000 in
theorem gX6_clearText_X6_tells : GoodIn wsX6_clearText (wsV RX6 39 RX6 yX6_tells wsX6_tells) := goodIn_app (goodIn_of _ (by decide +kernel)) ggX6_clearText_X6_tells
theorem dX6_clearText_0 : decode cX6_clearText 0 = .ok (.aload_n 0, 1) := by decide +kernel
theorem dX6_clearText_1 : decode cX6_clearText 1 = .ok (.getfield 149, 3) := by decide +kernel
theorem dX6_clearText_4 : decode cX6_clearText 4 = .ok (.istore_n 1, 1) := by decide +kernel
theorem dX6_clearText_5 : decode cX6_clearText 5 = .ok (.aload_n 0, 1) := by decide +kernel
theorem dX6_clearText_6 : decode cX6_clearText 6 = .ok (.iconst 0, 1) := by decide +kernel
theorem dX6_clearText_7 : decode cX6_clearText 7 = .ok (.putfield 149, 3) := by decide +kernel
theorem dX6_clearText_10 : decode cX6_clearText 10 = .ok (.aload_n 0, 1) := by decide +kernel
theorem dX6_clearText_11 : decode cX6_clearText 11 = .ok (.iload_n 1, 1) := by decide +kernel
theorem dX6_clearText_12 : decode cX6_clearText 12 = .ok (.invokevirtual 39, 3) := by decide +kernel
theorem dX6_clearText_15 : decode cX6_clearText 15 = .ok (.ireturn, 1) := by decide +kernel
theorem dX6_byteOf_0 : decode cX6_byteOf 0 = .ok (.iload_n 0, 1) := by decide +kernel
theorem dX6_byteOf_1 : decode cX6_byteOf 1 = .ok (.tableswitch 64 0 6 #[43, 46, 49, 52, 55, 58, 61], 43) := by decide +kernel
theorem dX6_byteOf_44 : decode cX6_byteOf 44 = .ok (.bipush 34, 2) := by decide +kernel
theorem dX6_byteOf_46 : decode cX6_byteOf 46 = .ok (.ireturn, 1) := by decide +kernel
theorem dX6_byteOf_47 : decode cX6_byteOf 47 = .ok (.bipush 40, 2) := by decide +kernel
theorem dX6_byteOf_49 : decode cX6_byteOf 49 = .ok (.ireturn, 1) := by decide +kernel
theorem dX6_byteOf_50 : decode cX6_byteOf 50 = .ok (.bipush 41, 2) := by decide +kernel
theorem dX6_byteOf_52 : decode cX6_byteOf 52 = .ok (.ireturn, 1) := by decide +kernel
theorem dX6_byteOf_53 : decode cX6_byteOf 53 = .ok (.bipush 46, 2) := by decide +kernel
theorem dX6_byteOf_55 : decode cX6_byteOf 55 = .ok (.ireturn, 1) := by decide +kernel
theorem dX6_byteOf_56 : decode cX6_byteOf 56 = .ok (.bipush 44, 2) := by decide +kernel
theorem dX6_byteOf_58 : decode cX6_byteOf 58 = .ok (.ireturn, 1) := by decide +kernel
theorem dX6_byteOf_59 : decode cX6_byteOf 59 = .ok (.bipush 45, 2) := by decide +kernel
theorem dX6_byteOf_61 : decode cX6_byteOf 61 = .ok (.ireturn, 1) := by decide +kernel
theorem dX6_byteOf_62 : decode cX6_byteOf 62 = .ok (.bipush 59, 2) := by decide +kernel
theorem dX6_byteOf_64 : decode cX6_byteOf 64 = .ok (.ireturn, 1) := by decide +kernel
theorem dX6_byteOf_65 : decode cX6_byteOf 65 = .ok (.bipush 33, 2) := by decide +kernel
theorem dX6_byteOf_67 : decode cX6_byteOf 67 = .ok (.ireturn, 1) := by decide +kernel
set_option maxRecDepth 20000 in
theorem ggX6_passSign_X6_byteOf : GoodIn wsX6_passSign wsX6_byteOf := goodIn_r _ [7] (by decide +kernel) (by decide +kernel)
set_option maxRecDepth 20000 in
theorem gX6_passSign_X6_byteOf : GoodIn wsX6_passSign (va_wsS RX6 161 yX6_byteOf wsX6_byteOf) := goodIn_app (goodIn_of _ (by decide +kernel)) ggX6_passSign_X6_byteOf
theorem dX6_passSign_0 : decode cX6_passSign 0 = .ok (.iconst 0, 1) := by decide +kernel
theorem dX6_passSign_1 : decode cX6_passSign 1 = .ok (.istore_n 2, 1) := by decide +kernel
theorem dX6_passSign_2 : decode cX6_passSign 2 = .ok (.iload_n 2, 1) := by decide +kernel
theorem dX6_passSign_3 : decode cX6_passSign 3 = .ok (.bipush 8, 2) := by decide +kernel
theorem dX6_passSign_5 : decode cX6_passSign 5 = .ok (.if_icmp .ge 80, 3) := by decide +kernel
theorem dX6_passSign_8 : decode cX6_passSign 8 = .ok (.aload_n 0, 1) := by decide +kernel
theorem dX6_passSign_9 : decode cX6_passSign 9 = .ok (.getfield 158, 3) := by decide +kernel
theorem dX6_passSign_12 : decode cX6_passSign 12 = .ok (.aload_n 0, 1) := by decide +kernel
theorem dX6_passSign_13 : decode cX6_passSign 13 = .ok (.getfield 149, 3) := by decide +kernel
theorem dX6_passSign_16 : decode cX6_passSign 16 = .ok (.if_icmp .ge 69, 3) := by decide +kernel
theorem dX6_passSign_19 : decode cX6_passSign 19 = .ok (.iload_n 1, 1) := by decide +kernel
theorem dX6_passSign_20 : decode cX6_passSign 20 = .ok (.ifCond .eq 16, 3) := by decide +kernel
theorem dX6_passSign_23 : decode cX6_passSign 23 = .ok (.iload_n 2, 1) := by decide +kernel
theorem dX6_passSign_24 : decode cX6_passSign 24 = .ok (.iconst 2, 1) := by decide +kernel
theorem dX6_passSign_25 : decode cX6_passSign 25 = .ok (.if_icmp .ge 7, 3) := by decide +kernel
theorem dX6_passSign_28 : decode cX6_passSign 28 = .ok (.iconst 1, 1) := by decide +kernel
theorem dX6_passSign_29 : decode cX6_passSign 29 = .ok (.goto 17, 3) := by decide +kernel
theorem dX6_passSign_32 : decode cX6_passSign 32 = .ok (.iconst 0, 1) := by decide +kernel
theorem dX6_passSign_33 : decode cX6_passSign 33 = .ok (.goto 13, 3) := by decide +kernel
theorem dX6_passSign_36 : decode cX6_passSign 36 = .ok (.iload_n 2, 1) := by decide +kernel
theorem dX6_passSign_37 : decode cX6_passSign 37 = .ok (.iconst 1, 1) := by decide +kernel
theorem dX6_passSign_38 : decode cX6_passSign 38 = .ok (.if_icmp .eq 7, 3) := by decide +kernel
theorem dX6_passSign_41 : decode cX6_passSign 41 = .ok (.iconst 1, 1) := by decide +kernel
theorem dX6_passSign_42 : decode cX6_passSign 42 = .ok (.goto 4, 3) := by decide +kernel
theorem dX6_passSign_45 : decode cX6_passSign 45 = .ok (.iconst 0, 1) := by decide +kernel
theorem dX6_passSign_46 : decode cX6_passSign 46 = .ok (.istore_n 3, 1) := by decide +kernel
theorem dX6_passSign_47 : decode cX6_passSign 47 = .ok (.iload_n 3, 1) := by decide +kernel
theorem dX6_passSign_48 : decode cX6_passSign 48 = .ok (.ifCond .eq 31, 3) := by decide +kernel
theorem dX6_passSign_51 : decode cX6_passSign 51 = .ok (.aload_n 0, 1) := by decide +kernel
theorem dX6_passSign_52 : decode cX6_passSign 52 = .ok (.getfield 19, 3) := by decide +kernel
theorem dX6_passSign_55 : decode cX6_passSign 55 = .ok (.aload_n 0, 1) := by decide +kernel
theorem dX6_passSign_56 : decode cX6_passSign 56 = .ok (.getfield 158, 3) := by decide +kernel
theorem dX6_passSign_59 : decode cX6_passSign 59 = .ok (.iaload, 1) := by decide +kernel
theorem dX6_passSign_60 : decode cX6_passSign 60 = .ok (.iload_n 2, 1) := by decide +kernel
theorem dX6_passSign_61 : decode cX6_passSign 61 = .ok (.invokestatic 161, 3) := by decide +kernel
theorem dX6_passSign_64 : decode cX6_passSign 64 = .ok (.if_icmp .ne 15, 3) := by decide +kernel
theorem dX6_passSign_67 : decode cX6_passSign 67 = .ok (.aload_n 0, 1) := by decide +kernel
theorem dX6_passSign_68 : decode cX6_passSign 68 = .ok (.dup, 1) := by decide +kernel
theorem dX6_passSign_69 : decode cX6_passSign 69 = .ok (.getfield 158, 3) := by decide +kernel
theorem dX6_passSign_72 : decode cX6_passSign 72 = .ok (.iconst 1, 1) := by decide +kernel
theorem dX6_passSign_73 : decode cX6_passSign 73 = .ok (.iadd, 1) := by decide +kernel
theorem dX6_passSign_74 : decode cX6_passSign 74 = .ok (.putfield 158, 3) := by decide +kernel
theorem dX6_passSign_77 : decode cX6_passSign 77 = .ok (.iload_n 2, 1) := by decide +kernel
theorem dX6_passSign_78 : decode cX6_passSign 78 = .ok (.ireturn, 1) := by decide +kernel
theorem dX6_passSign_79 : decode cX6_passSign 79 = .ok (.iinc 2 1, 3) := by decide +kernel
theorem dX6_passSign_82 : decode cX6_passSign 82 = .ok (.goto (-80), 3) := by decide +kernel
theorem dX6_passSign_85 : decode cX6_passSign 85 = .ok (.iconst (-1), 1) := by decide +kernel
theorem dX6_passSign_86 : decode cX6_passSign 86 = .ok (.ireturn, 1) := by decide +kernel
set_option maxRecDepth 20000 in
theorem ggX6_readsWord_X6_opens : GoodIn wsX6_readsWord wsX6_opens := goodIn_r _ [9, 1, 10, 11, 12, 8, 13, 24, 25, 26, 27, 28, 29, 30, 31, 32, 33, 34, 35, 36, 37, 38, 39] (by decide +kernel) (by decide +kernel)
set_option maxRecDepth 20000 in
theorem gX6_readsWord_X6_opens : GoodIn wsX6_readsWord (wsV RX6 111 RX6 yX6_opens wsX6_opens) := goodIn_app (goodIn_of _ (by decide +kernel)) ggX6_readsWord_X6_opens
set_option maxRecDepth 20000 in
theorem ggX6_readsWord_X6_passSign : GoodIn wsX6_readsWord wsX6_passSign := goodIn_r _ [17, 2, 3, 4, 18, 19, 8, 20, 24, 25, 26, 27, 28, 29, 30, 31, 32, 33, 34, 35, 36, 37, 38, 39] (by decide +kernel) (by decide +kernel)
set_option maxRecDepth 20000 in
theorem gX6_readsWord_X6_passSign : GoodIn wsX6_readsWord (wsV RX6 164 RX6 yX6_passSign wsX6_passSign) := goodIn_app (goodIn_of _ (by decide +kernel)) ggX6_readsWord_X6_passSign
set_option maxRecDepth 20000 in
theorem ggX6_readsWord_X6_puts : GoodIn wsX6_readsWord wsX6_puts := goodIn_r _ [13, 1, 24, 25, 26, 27, 28, 29, 30, 31, 32, 33, 34, 35, 36, 37, 38, 39] (by decide +kernel) (by decide +kernel)
set_option maxRecDepth 20000 in
theorem gX6_readsWord_X6_puts : GoodIn wsX6_readsWord (wsV RX6 98 RX6 yX6_puts wsX6_puts) := goodIn_app (goodIn_of _ (by decide +kernel)) ggX6_readsWord_X6_puts
set_option maxRecDepth 20000 in
theorem ggX6_readsWord_X6_in : GoodIn wsX6_readsWord wsX6_in := goodIn_r _ [23] (by decide +kernel) (by decide +kernel)
set_option maxRecDepth 20000 in
theorem gX6_readsWord_X6_in : GoodIn wsX6_readsWord (va_wsS RX6 28 yX6_in wsX6_in) := goodIn_app (goodIn_of _ (by decide +kernel)) ggX6_readsWord_X6_in
theorem dX6_readsWord_0 : decode cX6_readsWord 0 = .ok (.aload_n 0, 1) := by decide +kernel
theorem dX6_readsWord_1 : decode cX6_readsWord 1 = .ok (.getfield 7, 3) := by decide +kernel
theorem dX6_readsWord_4 : decode cX6_readsWord 4 = .ok (.bipush 14, 2) := by decide +kernel
theorem dX6_readsWord_6 : decode cX6_readsWord 6 = .ok (.iaload, 1) := by decide +kernel
theorem dX6_readsWord_7 : decode cX6_readsWord 7 = .ok (.bipush 60, 2) := by decide +kernel
theorem dX6_readsWord_9 : decode cX6_readsWord 9 = .ok (.if_icmp .ne 5, 3) := by decide +kernel
theorem dX6_readsWord_12 : decode cX6_readsWord 12 = .ok (.iconst 0, 1) := by decide +kernel
theorem dX6_readsWord_13 : decode cX6_readsWord 13 = .ok (.ireturn, 1) := by decide +kernel
theorem dX6_readsWord_14 : decode cX6_readsWord 14 = .ok (.aload_n 0, 1) := by decide +kernel
theorem dX6_readsWord_15 : decode cX6_readsWord 15 = .ok (.getfield 7, 3) := by decide +kernel
theorem dX6_readsWord_18 : decode cX6_readsWord 18 = .ok (.bipush 14, 2) := by decide +kernel
theorem dX6_readsWord_20 : decode cX6_readsWord 20 = .ok (.iaload, 1) := by decide +kernel
theorem dX6_readsWord_21 : decode cX6_readsWord 21 = .ok (.istore_n 1, 1) := by decide +kernel
theorem dX6_readsWord_22 : decode cX6_readsWord 22 = .ok (.aload_n 0, 1) := by decide +kernel
theorem dX6_readsWord_23 : decode cX6_readsWord 23 = .ok (.iload_n 1, 1) := by decide +kernel
theorem dX6_readsWord_24 : decode cX6_readsWord 24 = .ok (.invokevirtual 111, 3) := by decide +kernel
theorem dX6_readsWord_27 : decode cX6_readsWord 27 = .ok (.aload_n 0, 1) := by decide +kernel
theorem dX6_readsWord_28 : decode cX6_readsWord 28 = .ok (.iload_n 1, 1) := by decide +kernel
theorem dX6_readsWord_29 : decode cX6_readsWord 29 = .ok (.bipush 13, 2) := by decide +kernel
theorem dX6_readsWord_31 : decode cX6_readsWord 31 = .ok (.aload_n 0, 1) := by decide +kernel
theorem dX6_readsWord_32 : decode cX6_readsWord 32 = .ok (.iconst 1, 1) := by decide +kernel
theorem dX6_readsWord_33 : decode cX6_readsWord 33 = .ok (.invokevirtual 164, 3) := by decide +kernel
theorem dX6_readsWord_36 : decode cX6_readsWord 36 = .ok (.invokevirtual 98, 3) := by decide +kernel
theorem dX6_readsWord_39 : decode cX6_readsWord 39 = .ok (.iconst 0, 1) := by decide +kernel
theorem dX6_readsWord_40 : decode cX6_readsWord 40 = .ok (.istore_n 2, 1) := by decide +kernel
theorem dX6_readsWord_41 : decode cX6_readsWord 41 = .ok (.aload_n 0, 1) := by decide +kernel
theorem dX6_readsWord_42 : decode cX6_readsWord 42 = .ok (.getfield 158, 3) := by decide +kernel
theorem dX6_readsWord_45 : decode cX6_readsWord 45 = .ok (.aload_n 0, 1) := by decide +kernel
theorem dX6_readsWord_46 : decode cX6_readsWord 46 = .ok (.getfield 149, 3) := by decide +kernel
theorem dX6_readsWord_49 : decode cX6_readsWord 49 = .ok (.if_icmp .ge 64, 3) := by decide +kernel
theorem dX6_readsWord_52 : decode cX6_readsWord 52 = .ok (.aload_n 0, 1) := by decide +kernel
theorem dX6_readsWord_53 : decode cX6_readsWord 53 = .ok (.getfield 19, 3) := by decide +kernel
theorem dX6_readsWord_56 : decode cX6_readsWord 56 = .ok (.aload_n 0, 1) := by decide +kernel
theorem dX6_readsWord_57 : decode cX6_readsWord 57 = .ok (.getfield 158, 3) := by decide +kernel
theorem dX6_readsWord_60 : decode cX6_readsWord 60 = .ok (.iaload, 1) := by decide +kernel
theorem dX6_readsWord_61 : decode cX6_readsWord 61 = .ok (.bipush 97, 2) := by decide +kernel
theorem dX6_readsWord_63 : decode cX6_readsWord 63 = .ok (.bipush 122, 2) := by decide +kernel
theorem dX6_readsWord_65 : decode cX6_readsWord 65 = .ok (.invokestatic 28, 3) := by decide +kernel
theorem dX6_readsWord_68 : decode cX6_readsWord 68 = .ok (.ifCond .eq 45, 3) := by decide +kernel
theorem dX6_readsWord_71 : decode cX6_readsWord 71 = .ok (.iload_n 2, 1) := by decide +kernel
theorem dX6_readsWord_72 : decode cX6_readsWord 72 = .ok (.bipush 12, 2) := by decide +kernel
theorem dX6_readsWord_74 : decode cX6_readsWord 74 = .ok (.if_icmp .ne 5, 3) := by decide +kernel
theorem dX6_readsWord_77 : decode cX6_readsWord 77 = .ok (.iconst 0, 1) := by decide +kernel
theorem dX6_readsWord_78 : decode cX6_readsWord 78 = .ok (.ireturn, 1) := by decide +kernel
theorem dX6_readsWord_79 : decode cX6_readsWord 79 = .ok (.aload_n 0, 1) := by decide +kernel
theorem dX6_readsWord_80 : decode cX6_readsWord 80 = .ok (.iload_n 1, 1) := by decide +kernel
theorem dX6_readsWord_81 : decode cX6_readsWord 81 = .ok (.iload_n 2, 1) := by decide +kernel
theorem dX6_readsWord_82 : decode cX6_readsWord 82 = .ok (.aload_n 0, 1) := by decide +kernel
theorem dX6_readsWord_83 : decode cX6_readsWord 83 = .ok (.getfield 19, 3) := by decide +kernel
theorem dX6_readsWord_86 : decode cX6_readsWord 86 = .ok (.aload_n 0, 1) := by decide +kernel
theorem dX6_readsWord_87 : decode cX6_readsWord 87 = .ok (.getfield 158, 3) := by decide +kernel
theorem dX6_readsWord_90 : decode cX6_readsWord 90 = .ok (.iaload, 1) := by decide +kernel
theorem dX6_readsWord_91 : decode cX6_readsWord 91 = .ok (.bipush 97, 2) := by decide +kernel
theorem dX6_readsWord_93 : decode cX6_readsWord 93 = .ok (.isub, 1) := by decide +kernel
theorem dX6_readsWord_94 : decode cX6_readsWord 94 = .ok (.invokevirtual 98, 3) := by decide +kernel
theorem dX6_readsWord_97 : decode cX6_readsWord 97 = .ok (.iinc 2 1, 3) := by decide +kernel
theorem dX6_readsWord_100 : decode cX6_readsWord 100 = .ok (.aload_n 0, 1) := by decide +kernel
theorem dX6_readsWord_101 : decode cX6_readsWord 101 = .ok (.dup, 1) := by decide +kernel
theorem dX6_readsWord_102 : decode cX6_readsWord 102 = .ok (.getfield 158, 3) := by decide +kernel
theorem dX6_readsWord_105 : decode cX6_readsWord 105 = .ok (.iconst 1, 1) := by decide +kernel
theorem dX6_readsWord_106 : decode cX6_readsWord 106 = .ok (.iadd, 1) := by decide +kernel
theorem dX6_readsWord_107 : decode cX6_readsWord 107 = .ok (.putfield 158, 3) := by decide +kernel
theorem dX6_readsWord_110 : decode cX6_readsWord 110 = .ok (.goto (-69), 3) := by decide +kernel
theorem dX6_readsWord_113 : decode cX6_readsWord 113 = .ok (.iload_n 2, 1) := by decide +kernel
theorem dX6_readsWord_114 : decode cX6_readsWord 114 = .ok (.ifCond .ne 5, 3) := by decide +kernel
theorem dX6_readsWord_117 : decode cX6_readsWord 117 = .ok (.iconst 0, 1) := by decide +kernel
theorem dX6_readsWord_118 : decode cX6_readsWord 118 = .ok (.ireturn, 1) := by decide +kernel
theorem dX6_readsWord_119 : decode cX6_readsWord 119 = .ok (.aload_n 0, 1) := by decide +kernel
theorem dX6_readsWord_120 : decode cX6_readsWord 120 = .ok (.iload_n 1, 1) := by decide +kernel
theorem dX6_readsWord_121 : decode cX6_readsWord 121 = .ok (.bipush 12, 2) := by decide +kernel
theorem dX6_readsWord_123 : decode cX6_readsWord 123 = .ok (.iload_n 2, 1) := by decide +kernel
theorem dX6_readsWord_124 : decode cX6_readsWord 124 = .ok (.invokevirtual 98, 3) := by decide +kernel
theorem dX6_readsWord_127 : decode cX6_readsWord 127 = .ok (.aload_n 0, 1) := by decide +kernel
theorem dX6_readsWord_128 : decode cX6_readsWord 128 = .ok (.iload_n 1, 1) := by decide +kernel
theorem dX6_readsWord_129 : decode cX6_readsWord 129 = .ok (.bipush 14, 2) := by decide +kernel
theorem dX6_readsWord_131 : decode cX6_readsWord 131 = .ok (.aload_n 0, 1) := by decide +kernel
theorem dX6_readsWord_132 : decode cX6_readsWord 132 = .ok (.iconst 0, 1) := by decide +kernel
theorem dX6_readsWord_133 : decode cX6_readsWord 133 = .ok (.invokevirtual 164, 3) := by decide +kernel
theorem dX6_readsWord_136 : decode cX6_readsWord 136 = .ok (.invokevirtual 98, 3) := by decide +kernel
theorem dX6_readsWord_139 : decode cX6_readsWord 139 = .ok (.aload_n 0, 1) := by decide +kernel
theorem dX6_readsWord_140 : decode cX6_readsWord 140 = .ok (.getfield 158, 3) := by decide +kernel
theorem dX6_readsWord_143 : decode cX6_readsWord 143 = .ok (.aload_n 0, 1) := by decide +kernel
theorem dX6_readsWord_144 : decode cX6_readsWord 144 = .ok (.getfield 149, 3) := by decide +kernel
theorem dX6_readsWord_147 : decode cX6_readsWord 147 = .ok (.if_icmp .ge 35, 3) := by decide +kernel
theorem dX6_readsWord_150 : decode cX6_readsWord 150 = .ok (.aload_n 0, 1) := by decide +kernel
theorem dX6_readsWord_151 : decode cX6_readsWord 151 = .ok (.getfield 19, 3) := by decide +kernel
theorem dX6_readsWord_154 : decode cX6_readsWord 154 = .ok (.aload_n 0, 1) := by decide +kernel
theorem dX6_readsWord_155 : decode cX6_readsWord 155 = .ok (.getfield 158, 3) := by decide +kernel
theorem dX6_readsWord_158 : decode cX6_readsWord 158 = .ok (.iaload, 1) := by decide +kernel
theorem dX6_readsWord_159 : decode cX6_readsWord 159 = .ok (.bipush 47, 2) := by decide +kernel
theorem dX6_readsWord_161 : decode cX6_readsWord 161 = .ok (.if_icmp .ne 21, 3) := by decide +kernel
theorem dX6_readsWord_164 : decode cX6_readsWord 164 = .ok (.aload_n 0, 1) := by decide +kernel
theorem dX6_readsWord_165 : decode cX6_readsWord 165 = .ok (.iload_n 1, 1) := by decide +kernel
theorem dX6_readsWord_166 : decode cX6_readsWord 166 = .ok (.bipush 15, 2) := by decide +kernel
theorem dX6_readsWord_168 : decode cX6_readsWord 168 = .ok (.iconst 1, 1) := by decide +kernel
theorem dX6_readsWord_169 : decode cX6_readsWord 169 = .ok (.invokevirtual 98, 3) := by decide +kernel
theorem dX6_readsWord_172 : decode cX6_readsWord 172 = .ok (.aload_n 0, 1) := by decide +kernel
theorem dX6_readsWord_173 : decode cX6_readsWord 173 = .ok (.dup, 1) := by decide +kernel
theorem dX6_readsWord_174 : decode cX6_readsWord 174 = .ok (.getfield 158, 3) := by decide +kernel
theorem dX6_readsWord_177 : decode cX6_readsWord 177 = .ok (.iconst 1, 1) := by decide +kernel
theorem dX6_readsWord_178 : decode cX6_readsWord 178 = .ok (.iadd, 1) := by decide +kernel
theorem dX6_readsWord_179 : decode cX6_readsWord 179 = .ok (.putfield 158, 3) := by decide +kernel
theorem dX6_readsWord_182 : decode cX6_readsWord 182 = .ok (.aload_n 0, 1) := by decide +kernel
theorem dX6_readsWord_183 : decode cX6_readsWord 183 = .ok (.getfield 158, 3) := by decide +kernel
theorem dX6_readsWord_186 : decode cX6_readsWord 186 = .ok (.aload_n 0, 1) := by decide +kernel
theorem dX6_readsWord_187 : decode cX6_readsWord 187 = .ok (.getfield 149, 3) := by decide +kernel
theorem dX6_readsWord_190 : decode cX6_readsWord 190 = .ok (.if_icmp .eq 17, 3) := by decide +kernel
theorem dX6_readsWord_193 : decode cX6_readsWord 193 = .ok (.aload_n 0, 1) := by decide +kernel
theorem dX6_readsWord_194 : decode cX6_readsWord 194 = .ok (.getfield 19, 3) := by decide +kernel
theorem dX6_readsWord_197 : decode cX6_readsWord 197 = .ok (.aload_n 0, 1) := by decide +kernel
theorem dX6_readsWord_198 : decode cX6_readsWord 198 = .ok (.getfield 158, 3) := by decide +kernel
theorem dX6_readsWord_201 : decode cX6_readsWord 201 = .ok (.iaload, 1) := by decide +kernel
theorem dX6_readsWord_202 : decode cX6_readsWord 202 = .ok (.bipush 32, 2) := by decide +kernel
theorem dX6_readsWord_204 : decode cX6_readsWord 204 = .ok (.if_icmp .ne 7, 3) := by decide +kernel
theorem dX6_readsWord_207 : decode cX6_readsWord 207 = .ok (.iconst 1, 1) := by decide +kernel
theorem dX6_readsWord_208 : decode cX6_readsWord 208 = .ok (.goto 4, 3) := by decide +kernel
theorem dX6_readsWord_211 : decode cX6_readsWord 211 = .ok (.iconst 0, 1) := by decide +kernel
theorem dX6_readsWord_212 : decode cX6_readsWord 212 = .ok (.ireturn, 1) := by decide +kernel
theorem dX6_skips_0 : decode cX6_skips 0 = .ok (.aload_n 0, 1) := by decide +kernel
theorem dX6_skips_1 : decode cX6_skips 1 = .ok (.getfield 158, 3) := by decide +kernel
theorem dX6_skips_4 : decode cX6_skips 4 = .ok (.aload_n 0, 1) := by decide +kernel
theorem dX6_skips_5 : decode cX6_skips 5 = .ok (.getfield 149, 3) := by decide +kernel
theorem dX6_skips_8 : decode cX6_skips 8 = .ok (.if_icmp .ge 30, 3) := by decide +kernel
theorem dX6_skips_11 : decode cX6_skips 11 = .ok (.aload_n 0, 1) := by decide +kernel
theorem dX6_skips_12 : decode cX6_skips 12 = .ok (.getfield 19, 3) := by decide +kernel
theorem dX6_skips_15 : decode cX6_skips 15 = .ok (.aload_n 0, 1) := by decide +kernel
theorem dX6_skips_16 : decode cX6_skips 16 = .ok (.getfield 158, 3) := by decide +kernel
theorem dX6_skips_19 : decode cX6_skips 19 = .ok (.iaload, 1) := by decide +kernel
theorem dX6_skips_20 : decode cX6_skips 20 = .ok (.bipush 32, 2) := by decide +kernel
theorem dX6_skips_22 : decode cX6_skips 22 = .ok (.if_icmp .ne 16, 3) := by decide +kernel
theorem dX6_skips_25 : decode cX6_skips 25 = .ok (.aload_n 0, 1) := by decide +kernel
theorem dX6_skips_26 : decode cX6_skips 26 = .ok (.dup, 1) := by decide +kernel
theorem dX6_skips_27 : decode cX6_skips 27 = .ok (.getfield 158, 3) := by decide +kernel
theorem dX6_skips_30 : decode cX6_skips 30 = .ok (.iconst 1, 1) := by decide +kernel
theorem dX6_skips_31 : decode cX6_skips 31 = .ok (.iadd, 1) := by decide +kernel
theorem dX6_skips_32 : decode cX6_skips 32 = .ok (.putfield 158, 3) := by decide +kernel
theorem dX6_skips_35 : decode cX6_skips 35 = .ok (.goto (-35), 3) := by decide +kernel
theorem dX6_skips_38 : decode cX6_skips 38 = .ok (.return_, 1) := by decide +kernel
set_option maxRecDepth 20000 in
theorem ggX6_readWords_X6_hold : GoodIn wsX6_readWords wsX6_hold := goodIn_r _ [9, 4, 1, 48, 49, 50, 51, 52, 53, 54, 55, 56, 57, 58, 59, 60, 61, 62, 63] (by decide +kernel) (by decide +kernel)
set_option maxRecDepth 20000 in
theorem gX6_readWords_X6_hold : GoodIn wsX6_readWords (wsV RX6 108 RX6 yX6_hold wsX6_hold) := goodIn_app (goodIn_of _ (by decide +kernel)) ggX6_readWords_X6_hold
set_option maxRecDepth 20000 in
theorem ggX6_readWords_X6_skips : GoodIn wsX6_readWords wsX6_skips := goodIn_r _ [13, 2, 3, 14, 48, 49, 50, 51, 52, 53, 54, 55, 56, 57, 58, 59, 60, 61, 62, 63] (by decide +kernel) (by decide +kernel)
set_option maxRecDepth 20000 in
theorem gX6_readWords_X6_skips : GoodIn wsX6_readWords (wsV RX6 168 RX6 yX6_skips wsX6_skips) := goodIn_app (goodIn_of _ (by decide +kernel)) ggX6_readWords_X6_skips
set_option maxRecDepth 20000 in
theorem ggX6_readWords_X6_readsWord : GoodIn wsX6_readWords wsX6_readsWord := goodIn_r _ [18, 1, 2, 3, 14, 19, 20, 21, 8, 22, 23, 24, 25, 26, 27, 28, 29, 30, 31, 32, 33, 34, 35, 36, 48, 49, 50, 51, 52, 53, 54, 55, 56, 57, 58, 59, 60, 61, 62, 63] (by decide +kernel) (by decide +kernel)
set_option maxRecDepth 20000 in
theorem gX6_readWords_X6_readsWord : GoodIn wsX6_readWords (wsV RX6 171 RX6 yX6_readsWord wsX6_readsWord) := goodIn_app (goodIn_of _ (by decide +kernel)) ggX6_readWords_X6_readsWord
set_option maxRecDepth 20000 in
theorem ggX6_readWords_X6_tells : GoodIn wsX6_readWords wsX6_tells := goodIn_r _ [40, 41, 48, 49, 50, 51, 52, 53, 54, 55, 56, 57, 58, 59, 60, 61, 62, 63] (by decide +kernel) (by decide +kernel)
set_option maxRecDepth 20000 in
theorem gX6_readWords_X6_tells : GoodIn wsX6_readWords (wsV RX6 39 RX6 yX6_tells wsX6_tells) := goodIn_app (goodIn_of _ (by decide +kernel)) ggX6_readWords_X6_tells
set_option maxRecDepth 20000 in
theorem ggX6_readWords_X6_ends : GoodIn wsX6_readWords wsX6_ends := goodIn_r _ [45, 46, 47, 4, 37, 38, 39, 8, 40, 41, 48, 49, 50, 51, 52, 53, 54, 55, 56, 57, 58, 59, 60, 61, 62, 63] (by decide +kernel) (by decide +kernel)
set_option maxRecDepth 20000 in
theorem gX6_readWords_X6_ends : GoodIn wsX6_readWords (wsV RX6 115 RX6 yX6_ends wsX6_ends) := goodIn_app (goodIn_of _ (by decide +kernel)) ggX6_readWords_X6_ends
theorem dX6_readWords_0 : decode cX6_readWords 0 = .ok (.aload_n 0, 1) := by decide +kernel
theorem dX6_readWords_1 : decode cX6_readWords 1 = .ok (.invokevirtual 108, 3) := by decide +kernel
theorem dX6_readWords_4 : decode cX6_readWords 4 = .ok (.aload_n 0, 1) := by decide +kernel
theorem dX6_readWords_5 : decode cX6_readWords 5 = .ok (.getfield 7, 3) := by decide +kernel
theorem dX6_readWords_8 : decode cX6_readWords 8 = .ok (.bipush 14, 2) := by decide +kernel
theorem dX6_readWords_10 : decode cX6_readWords 10 = .ok (.iconst 0, 1) := by decide +kernel
theorem dX6_readWords_11 : decode cX6_readWords 11 = .ok (.iastore, 1) := by decide +kernel
theorem dX6_readWords_12 : decode cX6_readWords 12 = .ok (.aload_n 0, 1) := by decide +kernel
theorem dX6_readWords_13 : decode cX6_readWords 13 = .ok (.iconst 0, 1) := by decide +kernel
theorem dX6_readWords_14 : decode cX6_readWords 14 = .ok (.putfield 158, 3) := by decide +kernel
theorem dX6_readWords_17 : decode cX6_readWords 17 = .ok (.aload_n 0, 1) := by decide +kernel
theorem dX6_readWords_18 : decode cX6_readWords 18 = .ok (.invokevirtual 168, 3) := by decide +kernel
theorem dX6_readWords_21 : decode cX6_readWords 21 = .ok (.aload_n 0, 1) := by decide +kernel
theorem dX6_readWords_22 : decode cX6_readWords 22 = .ok (.getfield 158, 3) := by decide +kernel
theorem dX6_readWords_25 : decode cX6_readWords 25 = .ok (.aload_n 0, 1) := by decide +kernel
theorem dX6_readWords_26 : decode cX6_readWords 26 = .ok (.getfield 149, 3) := by decide +kernel
theorem dX6_readWords_29 : decode cX6_readWords 29 = .ok (.if_icmp .ge 56, 3) := by decide +kernel
theorem dX6_readWords_32 : decode cX6_readWords 32 = .ok (.aload_n 0, 1) := by decide +kernel
theorem dX6_readWords_33 : decode cX6_readWords 33 = .ok (.invokevirtual 171, 3) := by decide +kernel
theorem dX6_readWords_36 : decode cX6_readWords 36 = .ok (.ifCond .ne 42, 3) := by decide +kernel
theorem dX6_readWords_39 : decode cX6_readWords 39 = .ok (.iconst 0, 1) := by decide +kernel
theorem dX6_readWords_40 : decode cX6_readWords 40 = .ok (.istore_n 1, 1) := by decide +kernel
theorem dX6_readWords_41 : decode cX6_readWords 41 = .ok (.iload_n 1, 1) := by decide +kernel
theorem dX6_readWords_42 : decode cX6_readWords 42 = .ok (.sipush 975, 3) := by decide +kernel
theorem dX6_readWords_45 : decode cX6_readWords 45 = .ok (.if_icmp .ge 21, 3) := by decide +kernel
theorem dX6_readWords_48 : decode cX6_readWords 48 = .ok (.aload_n 0, 1) := by decide +kernel
theorem dX6_readWords_49 : decode cX6_readWords 49 = .ok (.getfield 7, 3) := by decide +kernel
theorem dX6_readWords_52 : decode cX6_readWords 52 = .ok (.iload_n 1, 1) := by decide +kernel
theorem dX6_readWords_53 : decode cX6_readWords 53 = .ok (.aload_n 0, 1) := by decide +kernel
theorem dX6_readWords_54 : decode cX6_readWords 54 = .ok (.getfield 16, 3) := by decide +kernel
theorem dX6_readWords_57 : decode cX6_readWords 57 = .ok (.iload_n 1, 1) := by decide +kernel
theorem dX6_readWords_58 : decode cX6_readWords 58 = .ok (.iaload, 1) := by decide +kernel
theorem dX6_readWords_59 : decode cX6_readWords 59 = .ok (.iastore, 1) := by decide +kernel
theorem dX6_readWords_60 : decode cX6_readWords 60 = .ok (.iinc 1 1, 3) := by decide +kernel
theorem dX6_readWords_63 : decode cX6_readWords 63 = .ok (.goto (-22), 3) := by decide +kernel
theorem dX6_readWords_66 : decode cX6_readWords 66 = .ok (.aload_n 0, 1) := by decide +kernel
theorem dX6_readWords_67 : decode cX6_readWords 67 = .ok (.bipush (-10), 2) := by decide +kernel
theorem dX6_readWords_69 : decode cX6_readWords 69 = .ok (.aload_n 0, 1) := by decide +kernel
theorem dX6_readWords_70 : decode cX6_readWords 70 = .ok (.getfield 158, 3) := by decide +kernel
theorem dX6_readWords_73 : decode cX6_readWords 73 = .ok (.isub, 1) := by decide +kernel
theorem dX6_readWords_74 : decode cX6_readWords 74 = .ok (.invokevirtual 39, 3) := by decide +kernel
theorem dX6_readWords_77 : decode cX6_readWords 77 = .ok (.ireturn, 1) := by decide +kernel
theorem dX6_readWords_78 : decode cX6_readWords 78 = .ok (.aload_n 0, 1) := by decide +kernel
theorem dX6_readWords_79 : decode cX6_readWords 79 = .ok (.invokevirtual 168, 3) := by decide +kernel
theorem dX6_readWords_82 : decode cX6_readWords 82 = .ok (.goto (-61), 3) := by decide +kernel
theorem dX6_readWords_85 : decode cX6_readWords 85 = .ok (.aload_n 0, 1) := by decide +kernel
theorem dX6_readWords_86 : decode cX6_readWords 86 = .ok (.aload_n 0, 1) := by decide +kernel
theorem dX6_readWords_87 : decode cX6_readWords 87 = .ok (.getfield 7, 3) := by decide +kernel
theorem dX6_readWords_90 : decode cX6_readWords 90 = .ok (.bipush 14, 2) := by decide +kernel
theorem dX6_readWords_92 : decode cX6_readWords 92 = .ok (.iaload, 1) := by decide +kernel
theorem dX6_readWords_93 : decode cX6_readWords 93 = .ok (.invokevirtual 115, 3) := by decide +kernel
theorem dX6_readWords_96 : decode cX6_readWords 96 = .ok (.ireturn, 1) := by decide +kernel
set_option maxRecDepth 20000 in
theorem ggX6_byteAt_X6_of : GoodIn wsX6_byteAt wsX6_of := goodIn_r _ [6, 7, 11, 12, 13, 14, 15, 16, 17, 18, 19, 20, 21, 22, 23, 24, 25, 26] (by decide +kernel) (by decide +kernel)
set_option maxRecDepth 20000 in
theorem gX6_byteAt_X6_of : GoodIn wsX6_byteAt (wsV RX6 43 RX6 yX6_of wsX6_of) := goodIn_app (goodIn_of _ (by decide +kernel)) ggX6_byteAt_X6_of
set_option maxRecDepth 20000 in
theorem ggX6_byteAt_X6_byteOf : GoodIn wsX6_byteAt wsX6_byteOf := goodIn_r _ [10] (by decide +kernel) (by decide +kernel)
set_option maxRecDepth 20000 in
theorem gX6_byteAt_X6_byteOf : GoodIn wsX6_byteAt (va_wsS RX6 161 yX6_byteOf wsX6_byteOf) := goodIn_app (goodIn_of _ (by decide +kernel)) ggX6_byteAt_X6_byteOf
theorem dX6_byteAt_0 : decode cX6_byteAt 0 = .ok (.iload_n 2, 1) := by decide +kernel
theorem dX6_byteAt_1 : decode cX6_byteAt 1 = .ok (.istore_n 3, 1) := by decide +kernel
theorem dX6_byteAt_2 : decode cX6_byteAt 2 = .ok (.aload_n 0, 1) := by decide +kernel
theorem dX6_byteAt_3 : decode cX6_byteAt 3 = .ok (.getfield 22, 3) := by decide +kernel
theorem dX6_byteAt_6 : decode cX6_byteAt 6 = .ok (.bipush 10, 2) := by decide +kernel
theorem dX6_byteAt_8 : decode cX6_byteAt 8 = .ok (.iload_n 1, 1) := by decide +kernel
theorem dX6_byteAt_9 : decode cX6_byteAt 9 = .ok (.imul, 1) := by decide +kernel
theorem dX6_byteAt_10 : decode cX6_byteAt 10 = .ok (.iconst 1, 1) := by decide +kernel
theorem dX6_byteAt_11 : decode cX6_byteAt 11 = .ok (.iadd, 1) := by decide +kernel
theorem dX6_byteAt_12 : decode cX6_byteAt 12 = .ok (.iaload, 1) := by decide +kernel
theorem dX6_byteAt_13 : decode cX6_byteAt 13 = .ok (.istore 4, 2) := by decide +kernel
theorem dX6_byteAt_15 : decode cX6_byteAt 15 = .ok (.iload 4, 2) := by decide +kernel
theorem dX6_byteAt_17 : decode cX6_byteAt 17 = .ok (.istore 5, 2) := by decide +kernel
theorem dX6_byteAt_19 : decode cX6_byteAt 19 = .ok (.iload 5, 2) := by decide +kernel
theorem dX6_byteAt_21 : decode cX6_byteAt 21 = .ok (.iload 4, 2) := by decide +kernel
theorem dX6_byteAt_23 : decode cX6_byteAt 23 = .ok (.aload_n 0, 1) := by decide +kernel
theorem dX6_byteAt_24 : decode cX6_byteAt 24 = .ok (.getfield 22, 3) := by decide +kernel
theorem dX6_byteAt_27 : decode cX6_byteAt 27 = .ok (.bipush 10, 2) := by decide +kernel
theorem dX6_byteAt_29 : decode cX6_byteAt 29 = .ok (.iload_n 1, 1) := by decide +kernel
theorem dX6_byteAt_30 : decode cX6_byteAt 30 = .ok (.imul, 1) := by decide +kernel
theorem dX6_byteAt_31 : decode cX6_byteAt 31 = .ok (.iconst 2, 1) := by decide +kernel
theorem dX6_byteAt_32 : decode cX6_byteAt 32 = .ok (.iadd, 1) := by decide +kernel
theorem dX6_byteAt_33 : decode cX6_byteAt 33 = .ok (.iaload, 1) := by decide +kernel
theorem dX6_byteAt_34 : decode cX6_byteAt 34 = .ok (.iadd, 1) := by decide +kernel
theorem dX6_byteAt_35 : decode cX6_byteAt 35 = .ok (.if_icmp .ge 175, 3) := by decide +kernel
theorem dX6_byteAt_38 : decode cX6_byteAt 38 = .ok (.aload_n 0, 1) := by decide +kernel
theorem dX6_byteAt_39 : decode cX6_byteAt 39 = .ok (.iload 5, 2) := by decide +kernel
theorem dX6_byteAt_41 : decode cX6_byteAt 41 = .ok (.bipush 13, 2) := by decide +kernel
theorem dX6_byteAt_43 : decode cX6_byteAt 43 = .ok (.invokevirtual 43, 3) := by decide +kernel
theorem dX6_byteAt_46 : decode cX6_byteAt 46 = .ok (.iconst (-1), 1) := by decide +kernel
theorem dX6_byteAt_47 : decode cX6_byteAt 47 = .ok (.if_icmp .ne 7, 3) := by decide +kernel
theorem dX6_byteAt_50 : decode cX6_byteAt 50 = .ok (.iconst 0, 1) := by decide +kernel
theorem dX6_byteAt_51 : decode cX6_byteAt 51 = .ok (.goto 4, 3) := by decide +kernel
theorem dX6_byteAt_54 : decode cX6_byteAt 54 = .ok (.iconst 1, 1) := by decide +kernel
theorem dX6_byteAt_55 : decode cX6_byteAt 55 = .ok (.istore 6, 2) := by decide +kernel
theorem dX6_byteAt_57 : decode cX6_byteAt 57 = .ok (.aload_n 0, 1) := by decide +kernel
theorem dX6_byteAt_58 : decode cX6_byteAt 58 = .ok (.iload 5, 2) := by decide +kernel
theorem dX6_byteAt_60 : decode cX6_byteAt 60 = .ok (.bipush 14, 2) := by decide +kernel
theorem dX6_byteAt_62 : decode cX6_byteAt 62 = .ok (.invokevirtual 43, 3) := by decide +kernel
theorem dX6_byteAt_65 : decode cX6_byteAt 65 = .ok (.iconst (-1), 1) := by decide +kernel
theorem dX6_byteAt_66 : decode cX6_byteAt 66 = .ok (.if_icmp .ne 7, 3) := by decide +kernel
theorem dX6_byteAt_69 : decode cX6_byteAt 69 = .ok (.iconst 0, 1) := by decide +kernel
theorem dX6_byteAt_70 : decode cX6_byteAt 70 = .ok (.goto 4, 3) := by decide +kernel
theorem dX6_byteAt_73 : decode cX6_byteAt 73 = .ok (.iconst 1, 1) := by decide +kernel
theorem dX6_byteAt_74 : decode cX6_byteAt 74 = .ok (.istore 7, 2) := by decide +kernel
theorem dX6_byteAt_76 : decode cX6_byteAt 76 = .ok (.iload 6, 2) := by decide +kernel
theorem dX6_byteAt_78 : decode cX6_byteAt 78 = .ok (.aload_n 0, 1) := by decide +kernel
theorem dX6_byteAt_79 : decode cX6_byteAt 79 = .ok (.iload 5, 2) := by decide +kernel
theorem dX6_byteAt_81 : decode cX6_byteAt 81 = .ok (.bipush 12, 2) := by decide +kernel
theorem dX6_byteAt_83 : decode cX6_byteAt 83 = .ok (.invokevirtual 43, 3) := by decide +kernel
theorem dX6_byteAt_86 : decode cX6_byteAt 86 = .ok (.iadd, 1) := by decide +kernel
theorem dX6_byteAt_87 : decode cX6_byteAt 87 = .ok (.iload 7, 2) := by decide +kernel
theorem dX6_byteAt_89 : decode cX6_byteAt 89 = .ok (.iadd, 1) := by decide +kernel
theorem dX6_byteAt_90 : decode cX6_byteAt 90 = .ok (.istore 8, 2) := by decide +kernel
theorem dX6_byteAt_92 : decode cX6_byteAt 92 = .ok (.iload_n 3, 1) := by decide +kernel
theorem dX6_byteAt_93 : decode cX6_byteAt 93 = .ok (.iload 8, 2) := by decide +kernel
theorem dX6_byteAt_95 : decode cX6_byteAt 95 = .ok (.if_icmp .ge 66, 3) := by decide +kernel
theorem dX6_byteAt_98 : decode cX6_byteAt 98 = .ok (.iload_n 3, 1) := by decide +kernel
theorem dX6_byteAt_99 : decode cX6_byteAt 99 = .ok (.iload 6, 2) := by decide +kernel
theorem dX6_byteAt_101 : decode cX6_byteAt 101 = .ok (.if_icmp .ge 17, 3) := by decide +kernel
theorem dX6_byteAt_104 : decode cX6_byteAt 104 = .ok (.aload_n 0, 1) := by decide +kernel
theorem dX6_byteAt_105 : decode cX6_byteAt 105 = .ok (.iload 5, 2) := by decide +kernel
theorem dX6_byteAt_107 : decode cX6_byteAt 107 = .ok (.bipush 13, 2) := by decide +kernel
theorem dX6_byteAt_109 : decode cX6_byteAt 109 = .ok (.invokevirtual 43, 3) := by decide +kernel
theorem dX6_byteAt_112 : decode cX6_byteAt 112 = .ok (.invokestatic 161, 3) := by decide +kernel
theorem dX6_byteAt_115 : decode cX6_byteAt 115 = .ok (.goto 45, 3) := by decide +kernel
theorem dX6_byteAt_118 : decode cX6_byteAt 118 = .ok (.iload_n 3, 1) := by decide +kernel
theorem dX6_byteAt_119 : decode cX6_byteAt 119 = .ok (.iload 6, 2) := by decide +kernel
theorem dX6_byteAt_121 : decode cX6_byteAt 121 = .ok (.isub, 1) := by decide +kernel
theorem dX6_byteAt_122 : decode cX6_byteAt 122 = .ok (.aload_n 0, 1) := by decide +kernel
theorem dX6_byteAt_123 : decode cX6_byteAt 123 = .ok (.iload 5, 2) := by decide +kernel
theorem dX6_byteAt_125 : decode cX6_byteAt 125 = .ok (.bipush 12, 2) := by decide +kernel
theorem dX6_byteAt_127 : decode cX6_byteAt 127 = .ok (.invokevirtual 43, 3) := by decide +kernel
theorem dX6_byteAt_130 : decode cX6_byteAt 130 = .ok (.if_icmp .ge 19, 3) := by decide +kernel
theorem dX6_byteAt_133 : decode cX6_byteAt 133 = .ok (.bipush 97, 2) := by decide +kernel
theorem dX6_byteAt_135 : decode cX6_byteAt 135 = .ok (.aload_n 0, 1) := by decide +kernel
theorem dX6_byteAt_136 : decode cX6_byteAt 136 = .ok (.iload 5, 2) := by decide +kernel
theorem dX6_byteAt_138 : decode cX6_byteAt 138 = .ok (.iload_n 3, 1) := by decide +kernel
theorem dX6_byteAt_139 : decode cX6_byteAt 139 = .ok (.iload 6, 2) := by decide +kernel
theorem dX6_byteAt_141 : decode cX6_byteAt 141 = .ok (.isub, 1) := by decide +kernel
theorem dX6_byteAt_142 : decode cX6_byteAt 142 = .ok (.invokevirtual 43, 3) := by decide +kernel
theorem dX6_byteAt_145 : decode cX6_byteAt 145 = .ok (.iadd, 1) := by decide +kernel
theorem dX6_byteAt_146 : decode cX6_byteAt 146 = .ok (.goto 14, 3) := by decide +kernel
theorem dX6_byteAt_149 : decode cX6_byteAt 149 = .ok (.aload_n 0, 1) := by decide +kernel
theorem dX6_byteAt_150 : decode cX6_byteAt 150 = .ok (.iload 5, 2) := by decide +kernel
theorem dX6_byteAt_152 : decode cX6_byteAt 152 = .ok (.bipush 14, 2) := by decide +kernel
theorem dX6_byteAt_154 : decode cX6_byteAt 154 = .ok (.invokevirtual 43, 3) := by decide +kernel
theorem dX6_byteAt_157 : decode cX6_byteAt 157 = .ok (.invokestatic 161, 3) := by decide +kernel
theorem dX6_byteAt_160 : decode cX6_byteAt 160 = .ok (.ireturn, 1) := by decide +kernel
theorem dX6_byteAt_161 : decode cX6_byteAt 161 = .ok (.iload_n 3, 1) := by decide +kernel
theorem dX6_byteAt_162 : decode cX6_byteAt 162 = .ok (.iload 8, 2) := by decide +kernel
theorem dX6_byteAt_164 : decode cX6_byteAt 164 = .ok (.if_icmp .ne 27, 3) := by decide +kernel
theorem dX6_byteAt_167 : decode cX6_byteAt 167 = .ok (.iload 5, 2) := by decide +kernel
theorem dX6_byteAt_169 : decode cX6_byteAt 169 = .ok (.iconst 1, 1) := by decide +kernel
theorem dX6_byteAt_170 : decode cX6_byteAt 170 = .ok (.iadd, 1) := by decide +kernel
theorem dX6_byteAt_171 : decode cX6_byteAt 171 = .ok (.iload 4, 2) := by decide +kernel
theorem dX6_byteAt_173 : decode cX6_byteAt 173 = .ok (.aload_n 0, 1) := by decide +kernel
theorem dX6_byteAt_174 : decode cX6_byteAt 174 = .ok (.getfield 22, 3) := by decide +kernel
theorem dX6_byteAt_177 : decode cX6_byteAt 177 = .ok (.bipush 10, 2) := by decide +kernel
theorem dX6_byteAt_179 : decode cX6_byteAt 179 = .ok (.iload_n 1, 1) := by decide +kernel
theorem dX6_byteAt_180 : decode cX6_byteAt 180 = .ok (.imul, 1) := by decide +kernel
theorem dX6_byteAt_181 : decode cX6_byteAt 181 = .ok (.iconst 2, 1) := by decide +kernel
theorem dX6_byteAt_182 : decode cX6_byteAt 182 = .ok (.iadd, 1) := by decide +kernel
theorem dX6_byteAt_183 : decode cX6_byteAt 183 = .ok (.iaload, 1) := by decide +kernel
theorem dX6_byteAt_184 : decode cX6_byteAt 184 = .ok (.iadd, 1) := by decide +kernel
theorem dX6_byteAt_185 : decode cX6_byteAt 185 = .ok (.if_icmp .ge 6, 3) := by decide +kernel
theorem dX6_byteAt_188 : decode cX6_byteAt 188 = .ok (.bipush 32, 2) := by decide +kernel
theorem dX6_byteAt_190 : decode cX6_byteAt 190 = .ok (.ireturn, 1) := by decide +kernel
theorem dX6_byteAt_191 : decode cX6_byteAt 191 = .ok (.iload_n 3, 1) := by decide +kernel
theorem dX6_byteAt_192 : decode cX6_byteAt 192 = .ok (.iload 8, 2) := by decide +kernel
theorem dX6_byteAt_194 : decode cX6_byteAt 194 = .ok (.iconst 1, 1) := by decide +kernel
theorem dX6_byteAt_195 : decode cX6_byteAt 195 = .ok (.iadd, 1) := by decide +kernel
theorem dX6_byteAt_196 : decode cX6_byteAt 196 = .ok (.isub, 1) := by decide +kernel
theorem dX6_byteAt_197 : decode cX6_byteAt 197 = .ok (.istore_n 3, 1) := by decide +kernel
theorem dX6_byteAt_198 : decode cX6_byteAt 198 = .ok (.iload_n 3, 1) := by decide +kernel
theorem dX6_byteAt_199 : decode cX6_byteAt 199 = .ok (.ifCond .ge 5, 3) := by decide +kernel
theorem dX6_byteAt_202 : decode cX6_byteAt 202 = .ok (.iconst (-1), 1) := by decide +kernel
theorem dX6_byteAt_203 : decode cX6_byteAt 203 = .ok (.ireturn, 1) := by decide +kernel
theorem dX6_byteAt_204 : decode cX6_byteAt 204 = .ok (.iinc 5 1, 3) := by decide +kernel
theorem dX6_byteAt_207 : decode cX6_byteAt 207 = .ok (.goto (-188), 3) := by decide +kernel
theorem dX6_byteAt_210 : decode cX6_byteAt 210 = .ok (.iconst (-1), 1) := by decide +kernel
theorem dX6_byteAt_211 : decode cX6_byteAt 211 = .ok (.ireturn, 1) := by decide +kernel
set_option maxRecDepth 20000 in
theorem ggX6_lineByte_X6_makes : GoodIn wsX6_lineByte wsX6_makes := goodIn_r _ [6, 7, 8, 9, 10, 5, 11, 12, 13, 14, 1, 15, 16, 17, 18, 19, 20, 21, 22, 23, 24, 25, 26, 27, 28, 29, 30, 31, 32, 33, 34, 35, 36, 37, 38, 39, 40, 41, 42, 43, 44, 45, 46, 47, 64, 65, 66, 67, 68, 69, 70, 71, 72, 73, 74, 75, 76, 77, 78, 79] (by decide +kernel) (by decide +kernel)
set_option maxRecDepth 20000 in
theorem gX6_lineByte_X6_makes : GoodIn wsX6_lineByte (wsV RX6 130 RX6 yX6_makes wsX6_makes) := goodIn_app (goodIn_of _ (by decide +kernel)) ggX6_lineByte_X6_makes
set_option maxRecDepth 20000 in
theorem ggX6_lineByte_X6_fails : GoodIn wsX6_lineByte wsX6_fails := goodIn_r _ [51, 52, 64, 65, 66, 67, 68, 69, 70, 71, 72, 73, 74, 75, 76, 77, 78, 79] (by decide +kernel) (by decide +kernel)
set_option maxRecDepth 20000 in
theorem gX6_lineByte_X6_fails : GoodIn wsX6_lineByte (wsV RX6 101 RX6 yX6_fails wsX6_fails) := goodIn_app (goodIn_of _ (by decide +kernel)) ggX6_lineByte_X6_fails
set_option maxRecDepth 20000 in
theorem ggX6_lineByte_X6_byteAt : GoodIn wsX6_lineByte wsX6_byteAt := goodIn_r _ [56, 20, 26, 27, 28, 5, 29, 7, 57, 58, 59, 64, 65, 66, 67, 68, 69, 70, 71, 72, 73, 74, 75, 76, 77, 78, 79] (by decide +kernel) (by decide +kernel)
set_option maxRecDepth 20000 in
theorem gX6_lineByte_X6_byteAt : GoodIn wsX6_lineByte (wsV RX6 175 RX6 yX6_byteAt wsX6_byteAt) := goodIn_app (goodIn_of _ (by decide +kernel)) ggX6_lineByte_X6_byteAt
set_option maxRecDepth 20000 in
theorem ggX6_lineByte_X6_tells : GoodIn wsX6_lineByte wsX6_tells := goodIn_r _ [63, 52, 64, 65, 66, 67, 68, 69, 70, 71, 72, 73, 74, 75, 76, 77, 78, 79] (by decide +kernel) (by decide +kernel)
set_option maxRecDepth 20000 in
theorem gX6_lineByte_X6_tells : GoodIn wsX6_lineByte (wsV RX6 39 RX6 yX6_tells wsX6_tells) := goodIn_app (goodIn_of _ (by decide +kernel)) ggX6_lineByte_X6_tells
theorem dX6_lineByte_0 : decode cX6_lineByte 0 = .ok (.aload_n 0, 1) := by decide +kernel
theorem dX6_lineByte_1 : decode cX6_lineByte 1 = .ok (.invokevirtual 130, 3) := by decide +kernel
theorem dX6_lineByte_4 : decode cX6_lineByte 4 = .ok (.iload_n 1, 1) := by decide +kernel
theorem dX6_lineByte_5 : decode cX6_lineByte 5 = .ok (.ifCond .lt 11, 3) := by decide +kernel
theorem dX6_lineByte_8 : decode cX6_lineByte 8 = .ok (.iload_n 1, 1) := by decide +kernel
theorem dX6_lineByte_9 : decode cX6_lineByte 9 = .ok (.aload_n 0, 1) := by decide +kernel
theorem dX6_lineByte_10 : decode cX6_lineByte 10 = .ok (.getfield 53, 3) := by decide +kernel
theorem dX6_lineByte_13 : decode cX6_lineByte 13 = .ok (.if_icmp .lt 9, 3) := by decide +kernel
theorem dX6_lineByte_16 : decode cX6_lineByte 16 = .ok (.aload_n 0, 1) := by decide +kernel
theorem dX6_lineByte_17 : decode cX6_lineByte 17 = .ok (.iconst 1, 1) := by decide +kernel
theorem dX6_lineByte_18 : decode cX6_lineByte 18 = .ok (.invokevirtual 101, 3) := by decide +kernel
theorem dX6_lineByte_21 : decode cX6_lineByte 21 = .ok (.ireturn, 1) := by decide +kernel
theorem dX6_lineByte_22 : decode cX6_lineByte 22 = .ok (.iload_n 2, 1) := by decide +kernel
theorem dX6_lineByte_23 : decode cX6_lineByte 23 = .ok (.ifCond .ge 11, 3) := by decide +kernel
theorem dX6_lineByte_26 : decode cX6_lineByte 26 = .ok (.aload_n 0, 1) := by decide +kernel
theorem dX6_lineByte_27 : decode cX6_lineByte 27 = .ok (.iconst 2, 1) := by decide +kernel
theorem dX6_lineByte_28 : decode cX6_lineByte 28 = .ok (.invokevirtual 101, 3) := by decide +kernel
theorem dX6_lineByte_31 : decode cX6_lineByte 31 = .ok (.goto 13, 3) := by decide +kernel
theorem dX6_lineByte_34 : decode cX6_lineByte 34 = .ok (.aload_n 0, 1) := by decide +kernel
theorem dX6_lineByte_35 : decode cX6_lineByte 35 = .ok (.aload_n 0, 1) := by decide +kernel
theorem dX6_lineByte_36 : decode cX6_lineByte 36 = .ok (.iload_n 1, 1) := by decide +kernel
theorem dX6_lineByte_37 : decode cX6_lineByte 37 = .ok (.iload_n 2, 1) := by decide +kernel
theorem dX6_lineByte_38 : decode cX6_lineByte 38 = .ok (.invokevirtual 175, 3) := by decide +kernel
theorem dX6_lineByte_41 : decode cX6_lineByte 41 = .ok (.invokevirtual 39, 3) := by decide +kernel
theorem dX6_lineByte_44 : decode cX6_lineByte 44 = .ok (.ireturn, 1) := by decide +kernel
set_option maxRecDepth 20000 in
theorem ggX6_undo_X6_fails : GoodIn wsX6_undo wsX6_fails := goodIn_r _ [8, 9, 14, 15, 16, 17, 18, 19, 20, 21, 22, 23, 24, 25, 26, 27, 28, 29] (by decide +kernel) (by decide +kernel)
set_option maxRecDepth 20000 in
theorem gX6_undo_X6_fails : GoodIn wsX6_undo (wsV RX6 101 RX6 yX6_fails wsX6_fails) := goodIn_app (goodIn_of _ (by decide +kernel)) ggX6_undo_X6_fails
set_option maxRecDepth 20000 in
theorem ggX6_undo_X6_tells : GoodIn wsX6_undo wsX6_tells := goodIn_r _ [13, 9, 14, 15, 16, 17, 18, 19, 20, 21, 22, 23, 24, 25, 26, 27, 28, 29] (by decide +kernel) (by decide +kernel)
set_option maxRecDepth 20000 in
theorem gX6_undo_X6_tells : GoodIn wsX6_undo (wsV RX6 39 RX6 yX6_tells wsX6_tells) := goodIn_app (goodIn_of _ (by decide +kernel)) ggX6_undo_X6_tells
theorem dX6_undo_0 : decode cX6_undo 0 = .ok (.aload_n 0, 1) := by decide +kernel
theorem dX6_undo_1 : decode cX6_undo 1 = .ok (.getfield 36, 3) := by decide +kernel
theorem dX6_undo_4 : decode cX6_undo 4 = .ok (.ifCond .ne 9, 3) := by decide +kernel
theorem dX6_undo_7 : decode cX6_undo 7 = .ok (.aload_n 0, 1) := by decide +kernel
theorem dX6_undo_8 : decode cX6_undo 8 = .ok (.iconst 1, 1) := by decide +kernel
theorem dX6_undo_9 : decode cX6_undo 9 = .ok (.invokevirtual 101, 3) := by decide +kernel
theorem dX6_undo_12 : decode cX6_undo 12 = .ok (.ireturn, 1) := by decide +kernel
theorem dX6_undo_13 : decode cX6_undo 13 = .ok (.aload_n 0, 1) := by decide +kernel
theorem dX6_undo_14 : decode cX6_undo 14 = .ok (.dup, 1) := by decide +kernel
theorem dX6_undo_15 : decode cX6_undo 15 = .ok (.getfield 36, 3) := by decide +kernel
theorem dX6_undo_18 : decode cX6_undo 18 = .ok (.iconst 1, 1) := by decide +kernel
theorem dX6_undo_19 : decode cX6_undo 19 = .ok (.isub, 1) := by decide +kernel
theorem dX6_undo_20 : decode cX6_undo 20 = .ok (.putfield 36, 3) := by decide +kernel
theorem dX6_undo_23 : decode cX6_undo 23 = .ok (.iconst 0, 1) := by decide +kernel
theorem dX6_undo_24 : decode cX6_undo 24 = .ok (.istore_n 1, 1) := by decide +kernel
theorem dX6_undo_25 : decode cX6_undo 25 = .ok (.iload_n 1, 1) := by decide +kernel
theorem dX6_undo_26 : decode cX6_undo 26 = .ok (.sipush 975, 3) := by decide +kernel
theorem dX6_undo_29 : decode cX6_undo 29 = .ok (.if_icmp .ge 30, 3) := by decide +kernel
theorem dX6_undo_32 : decode cX6_undo 32 = .ok (.aload_n 0, 1) := by decide +kernel
theorem dX6_undo_33 : decode cX6_undo 33 = .ok (.getfield 7, 3) := by decide +kernel
theorem dX6_undo_36 : decode cX6_undo 36 = .ok (.iload_n 1, 1) := by decide +kernel
theorem dX6_undo_37 : decode cX6_undo 37 = .ok (.aload_n 0, 1) := by decide +kernel
theorem dX6_undo_38 : decode cX6_undo 38 = .ok (.getfield 13, 3) := by decide +kernel
theorem dX6_undo_41 : decode cX6_undo 41 = .ok (.sipush 975, 3) := by decide +kernel
theorem dX6_undo_44 : decode cX6_undo 44 = .ok (.aload_n 0, 1) := by decide +kernel
theorem dX6_undo_45 : decode cX6_undo 45 = .ok (.getfield 36, 3) := by decide +kernel
theorem dX6_undo_48 : decode cX6_undo 48 = .ok (.imul, 1) := by decide +kernel
theorem dX6_undo_49 : decode cX6_undo 49 = .ok (.iload_n 1, 1) := by decide +kernel
theorem dX6_undo_50 : decode cX6_undo 50 = .ok (.iadd, 1) := by decide +kernel
theorem dX6_undo_51 : decode cX6_undo 51 = .ok (.iaload, 1) := by decide +kernel
theorem dX6_undo_52 : decode cX6_undo 52 = .ok (.iastore, 1) := by decide +kernel
theorem dX6_undo_53 : decode cX6_undo 53 = .ok (.iinc 1 1, 3) := by decide +kernel
theorem dX6_undo_56 : decode cX6_undo 56 = .ok (.goto (-31), 3) := by decide +kernel
theorem dX6_undo_59 : decode cX6_undo 59 = .ok (.aload_n 0, 1) := by decide +kernel
theorem dX6_undo_60 : decode cX6_undo 60 = .ok (.aload_n 0, 1) := by decide +kernel
theorem dX6_undo_61 : decode cX6_undo 61 = .ok (.getfield 36, 3) := by decide +kernel
theorem dX6_undo_64 : decode cX6_undo 64 = .ok (.invokevirtual 39, 3) := by decide +kernel
theorem dX6_undo_67 : decode cX6_undo 67 = .ok (.ireturn, 1) := by decide +kernel
theorem dX6_mix_0 : decode cX6_mix 0 = .ok (.aload_n 0, 1) := by decide +kernel
theorem dX6_mix_1 : decode cX6_mix 1 = .ok (.ldc2_w 178, 3) := by decide +kernel
theorem dX6_mix_4 : decode cX6_mix 4 = .ok (.aload_n 0, 1) := by decide +kernel
theorem dX6_mix_5 : decode cX6_mix 5 = .ok (.getfield 180, 3) := by decide +kernel
theorem dX6_mix_8 : decode cX6_mix 8 = .ok (.lmul, 1) := by decide +kernel
theorem dX6_mix_9 : decode cX6_mix 9 = .ok (.iload_n 1, 1) := by decide +kernel
theorem dX6_mix_10 : decode cX6_mix 10 = .ok (.i2l, 1) := by decide +kernel
theorem dX6_mix_11 : decode cX6_mix 11 = .ok (.ladd, 1) := by decide +kernel
theorem dX6_mix_12 : decode cX6_mix 12 = .ok (.putfield 180, 3) := by decide +kernel
theorem dX6_mix_15 : decode cX6_mix 15 = .ok (.return_, 1) := by decide +kernel
set_option maxRecDepth 20000 in
theorem ggX6_mixLine_X6_lineTold : GoodIn wsX6_mixLine wsX6_lineTold := goodIn_r _ [5, 6, 7, 8, 9, 4, 10, 11, 12, 13, 14, 15, 16, 17, 18, 19, 20, 21, 22, 23, 24, 25, 26, 27, 41, 42, 43, 44, 45, 46, 47, 48, 49, 50, 51, 52, 53, 54, 55, 56] (by decide +kernel) (by decide +kernel)
set_option maxRecDepth 20000 in
theorem gX6_mixLine_X6_lineTold : GoodIn wsX6_mixLine (wsV RX6 136 RX6 yX6_lineTold wsX6_lineTold) := goodIn_app (goodIn_of _ (by decide +kernel)) ggX6_mixLine_X6_lineTold
set_option maxRecDepth 20000 in
theorem ggX6_mixLine_X6_mix : GoodIn wsX6_mixLine wsX6_mix := goodIn_r _ [31, 32, 33, 41, 42, 43, 44, 45, 46, 47, 48, 49, 50, 51, 52, 53, 54, 55, 56] (by decide +kernel) (by decide +kernel)
set_option maxRecDepth 20000 in
theorem gX6_mixLine_X6_mix : GoodIn wsX6_mixLine (wsV RX6 184 RX6 yX6_mix wsX6_mix) := goodIn_app (goodIn_of _ (by decide +kernel)) ggX6_mixLine_X6_mix
set_option maxRecDepth 20000 in
theorem ggX6_mixLine_X6_byteAt : GoodIn wsX6_mixLine wsX6_byteAt := goodIn_r _ [37, 6, 16, 17, 18, 4, 19, 15, 38, 39, 40, 41, 42, 43, 44, 45, 46, 47, 48, 49, 50, 51, 52, 53, 54, 55, 56] (by decide +kernel) (by decide +kernel)
set_option maxRecDepth 20000 in
theorem gX6_mixLine_X6_byteAt : GoodIn wsX6_mixLine (wsV RX6 175 RX6 yX6_byteAt wsX6_byteAt) := goodIn_app (goodIn_of _ (by decide +kernel)) ggX6_mixLine_X6_byteAt
theorem dX6_mixLine_0 : decode cX6_mixLine 0 = .ok (.iconst 0, 1) := by decide +kernel
theorem dX6_mixLine_1 : decode cX6_mixLine 1 = .ok (.istore_n 2, 1) := by decide +kernel
theorem dX6_mixLine_2 : decode cX6_mixLine 2 = .ok (.iload_n 2, 1) := by decide +kernel
theorem dX6_mixLine_3 : decode cX6_mixLine 3 = .ok (.bipush 12, 2) := by decide +kernel
theorem dX6_mixLine_5 : decode cX6_mixLine 5 = .ok (.if_icmp .ge 19, 3) := by decide +kernel
theorem dX6_mixLine_8 : decode cX6_mixLine 8 = .ok (.aload_n 0, 1) := by decide +kernel
theorem dX6_mixLine_9 : decode cX6_mixLine 9 = .ok (.aload_n 0, 1) := by decide +kernel
theorem dX6_mixLine_10 : decode cX6_mixLine 10 = .ok (.iload_n 1, 1) := by decide +kernel
theorem dX6_mixLine_11 : decode cX6_mixLine 11 = .ok (.iload_n 2, 1) := by decide +kernel
theorem dX6_mixLine_12 : decode cX6_mixLine 12 = .ok (.invokevirtual 136, 3) := by decide +kernel
theorem dX6_mixLine_15 : decode cX6_mixLine 15 = .ok (.invokevirtual 184, 3) := by decide +kernel
theorem dX6_mixLine_18 : decode cX6_mixLine 18 = .ok (.iinc 2 1, 3) := by decide +kernel
theorem dX6_mixLine_21 : decode cX6_mixLine 21 = .ok (.goto (-19), 3) := by decide +kernel
theorem dX6_mixLine_24 : decode cX6_mixLine 24 = .ok (.iconst 0, 1) := by decide +kernel
theorem dX6_mixLine_25 : decode cX6_mixLine 25 = .ok (.istore_n 2, 1) := by decide +kernel
theorem dX6_mixLine_26 : decode cX6_mixLine 26 = .ok (.aload_n 0, 1) := by decide +kernel
theorem dX6_mixLine_27 : decode cX6_mixLine 27 = .ok (.iload_n 1, 1) := by decide +kernel
theorem dX6_mixLine_28 : decode cX6_mixLine 28 = .ok (.iload_n 2, 1) := by decide +kernel
theorem dX6_mixLine_29 : decode cX6_mixLine 29 = .ok (.invokevirtual 175, 3) := by decide +kernel
theorem dX6_mixLine_32 : decode cX6_mixLine 32 = .ok (.iconst (-1), 1) := by decide +kernel
theorem dX6_mixLine_33 : decode cX6_mixLine 33 = .ok (.if_icmp .eq 19, 3) := by decide +kernel
theorem dX6_mixLine_36 : decode cX6_mixLine 36 = .ok (.aload_n 0, 1) := by decide +kernel
theorem dX6_mixLine_37 : decode cX6_mixLine 37 = .ok (.aload_n 0, 1) := by decide +kernel
theorem dX6_mixLine_38 : decode cX6_mixLine 38 = .ok (.iload_n 1, 1) := by decide +kernel
theorem dX6_mixLine_39 : decode cX6_mixLine 39 = .ok (.iload_n 2, 1) := by decide +kernel
theorem dX6_mixLine_40 : decode cX6_mixLine 40 = .ok (.invokevirtual 175, 3) := by decide +kernel
theorem dX6_mixLine_43 : decode cX6_mixLine 43 = .ok (.invokevirtual 184, 3) := by decide +kernel
theorem dX6_mixLine_46 : decode cX6_mixLine 46 = .ok (.iinc 2 1, 3) := by decide +kernel
theorem dX6_mixLine_49 : decode cX6_mixLine 49 = .ok (.goto (-23), 3) := by decide +kernel
theorem dX6_mixLine_52 : decode cX6_mixLine 52 = .ok (.return_, 1) := by decide +kernel
set_option maxRecDepth 20000 in
theorem ggX6_digest_X6_makes : GoodIn wsX6_digest wsX6_makes := goodIn_r _ [12, 5, 13, 14, 15, 11, 16, 17, 18, 19, 6, 7, 20, 21, 22, 23, 24, 25, 26, 27, 28, 29, 30, 31, 32, 33, 34, 35, 36, 37, 38, 39, 40, 41, 42, 43, 44, 45, 46, 47, 48, 49, 50, 51, 113, 114, 115, 116, 117, 118, 119, 120, 121, 122, 123, 124, 125, 126, 127, 128] (by decide +kernel) (by decide +kernel)
set_option maxRecDepth 20000 in
theorem gX6_digest_X6_makes : GoodIn wsX6_digest (wsV RX6 130 RX6 yX6_makes wsX6_makes) := goodIn_app (goodIn_of _ (by decide +kernel)) ggX6_digest_X6_makes
set_option maxRecDepth 20000 in
theorem ggX6_digest_X6_mix : GoodIn wsX6_digest wsX6_mix := goodIn_r _ [55, 56, 3, 113, 114, 115, 116, 117, 118, 119, 120, 121, 122, 123, 124, 125, 126, 127, 128] (by decide +kernel) (by decide +kernel)
set_option maxRecDepth 20000 in
theorem gX6_digest_X6_mix : GoodIn wsX6_digest (wsV RX6 184 RX6 yX6_mix wsX6_mix) := goodIn_app (goodIn_of _ (by decide +kernel)) ggX6_digest_X6_mix
set_option maxRecDepth 20000 in
theorem ggX6_digest_X6_wholeOf : GoodIn wsX6_digest wsX6_wholeOf := goodIn_r _ [60, 5, 6, 7, 61, 62, 63, 64, 11, 65, 48, 49, 50, 51, 30, 31, 32, 33, 66, 67, 68, 69, 24, 70, 71, 72, 73, 113, 114, 115, 116, 117, 118, 119, 120, 121, 122, 123, 124, 125, 126, 127, 128] (by decide +kernel) (by decide +kernel)
set_option maxRecDepth 20000 in
theorem gX6_digest_X6_wholeOf : GoodIn wsX6_digest (wsV RX6 152 RX6 yX6_wholeOf wsX6_wholeOf) := goodIn_app (goodIn_of _ (by decide +kernel)) ggX6_digest_X6_wholeOf
set_option maxRecDepth 20000 in
theorem ggX6_digest_X6_wordOf : GoodIn wsX6_digest wsX6_wordOf := goodIn_r _ [77, 24, 78, 79, 80, 11, 81, 30, 31, 32, 33, 5, 41, 42, 43, 44, 38, 39, 40, 45, 46, 47, 82, 83, 84, 85, 113, 114, 115, 116, 117, 118, 119, 120, 121, 122, 123, 124, 125, 126, 127, 128] (by decide +kernel) (by decide +kernel)
set_option maxRecDepth 20000 in
theorem gX6_digest_X6_wordOf : GoodIn wsX6_digest (wsV RX6 133 RX6 yX6_wordOf wsX6_wordOf) := goodIn_app (goodIn_of _ (by decide +kernel)) ggX6_digest_X6_wordOf
set_option maxRecDepth 20000 in
theorem ggX6_digest_X6_mixLine : GoodIn wsX6_digest wsX6_mixLine := goodIn_r _ [89, 90, 91, 92, 11, 93, 24, 94, 95, 96, 97, 48, 49, 50, 51, 5, 30, 31, 32, 33, 98, 99, 100, 101, 70, 71, 72, 73, 52, 53, 54, 55, 56, 3, 102, 103, 104, 105, 106, 107, 108, 113, 114, 115, 116, 117, 118, 119, 120, 121, 122, 123, 124, 125, 126, 127, 128] (by decide +kernel) (by decide +kernel)
set_option maxRecDepth 20000 in
theorem gX6_digest_X6_mixLine : GoodIn wsX6_digest (wsV RX6 189 RX6 yX6_mixLine wsX6_mixLine) := goodIn_app (goodIn_of _ (by decide +kernel)) ggX6_digest_X6_mixLine
set_option maxRecDepth 20000 in
theorem ggX6_digest_X6_pageTold : GoodIn wsX6_digest wsX6_pageTold := goodIn_r _ [112, 25, 24, 70, 71, 72, 11, 73, 113, 114, 115, 116, 117, 118, 119, 120, 121, 122, 123, 124, 125, 126, 127, 128] (by decide +kernel) (by decide +kernel)
set_option maxRecDepth 20000 in
theorem gX6_digest_X6_pageTold : GoodIn wsX6_digest (wsV RX6 139 RX6 yX6_pageTold wsX6_pageTold) := goodIn_app (goodIn_of _ (by decide +kernel)) ggX6_digest_X6_pageTold
theorem dX6_digest_0 : decode cX6_digest 0 = .ok (.aload_n 0, 1) := by decide +kernel
theorem dX6_digest_1 : decode cX6_digest 1 = .ok (.iconst 0, 1) := by decide +kernel
theorem dX6_digest_2 : decode cX6_digest 2 = .ok (.putfield 32, 3) := by decide +kernel
theorem dX6_digest_5 : decode cX6_digest 5 = .ok (.aload_n 0, 1) := by decide +kernel
theorem dX6_digest_6 : decode cX6_digest 6 = .ok (.invokevirtual 130, 3) := by decide +kernel
theorem dX6_digest_9 : decode cX6_digest 9 = .ok (.aload_n 0, 1) := by decide +kernel
theorem dX6_digest_10 : decode cX6_digest 10 = .ok (.ldc2_w 187, 3) := by decide +kernel
theorem dX6_digest_13 : decode cX6_digest 13 = .ok (.putfield 180, 3) := by decide +kernel
theorem dX6_digest_16 : decode cX6_digest 16 = .ok (.aload_n 0, 1) := by decide +kernel
theorem dX6_digest_17 : decode cX6_digest 17 = .ok (.aload_n 0, 1) := by decide +kernel
theorem dX6_digest_18 : decode cX6_digest 18 = .ok (.getfield 36, 3) := by decide +kernel
theorem dX6_digest_21 : decode cX6_digest 21 = .ok (.invokevirtual 184, 3) := by decide +kernel
theorem dX6_digest_24 : decode cX6_digest 24 = .ok (.iconst 0, 1) := by decide +kernel
theorem dX6_digest_25 : decode cX6_digest 25 = .ok (.istore_n 1, 1) := by decide +kernel
theorem dX6_digest_26 : decode cX6_digest 26 = .ok (.iload_n 1, 1) := by decide +kernel
theorem dX6_digest_27 : decode cX6_digest 27 = .ok (.bipush 14, 2) := by decide +kernel
theorem dX6_digest_29 : decode cX6_digest 29 = .ok (.if_icmp .ge 18, 3) := by decide +kernel
theorem dX6_digest_32 : decode cX6_digest 32 = .ok (.aload_n 0, 1) := by decide +kernel
theorem dX6_digest_33 : decode cX6_digest 33 = .ok (.aload_n 0, 1) := by decide +kernel
theorem dX6_digest_34 : decode cX6_digest 34 = .ok (.iload_n 1, 1) := by decide +kernel
theorem dX6_digest_35 : decode cX6_digest 35 = .ok (.invokevirtual 152, 3) := by decide +kernel
theorem dX6_digest_38 : decode cX6_digest 38 = .ok (.invokevirtual 184, 3) := by decide +kernel
theorem dX6_digest_41 : decode cX6_digest 41 = .ok (.iinc 1 1, 3) := by decide +kernel
theorem dX6_digest_44 : decode cX6_digest 44 = .ok (.goto (-18), 3) := by decide +kernel
theorem dX6_digest_47 : decode cX6_digest 47 = .ok (.iconst 0, 1) := by decide +kernel
theorem dX6_digest_48 : decode cX6_digest 48 = .ok (.istore_n 1, 1) := by decide +kernel
theorem dX6_digest_49 : decode cX6_digest 49 = .ok (.iload_n 1, 1) := by decide +kernel
theorem dX6_digest_50 : decode cX6_digest 50 = .ok (.bipush 8, 2) := by decide +kernel
theorem dX6_digest_52 : decode cX6_digest 52 = .ok (.if_icmp .ge 22, 3) := by decide +kernel
theorem dX6_digest_55 : decode cX6_digest 55 = .ok (.aload_n 0, 1) := by decide +kernel
theorem dX6_digest_56 : decode cX6_digest 56 = .ok (.aload_n 0, 1) := by decide +kernel
theorem dX6_digest_57 : decode cX6_digest 57 = .ok (.getfield 7, 3) := by decide +kernel
theorem dX6_digest_60 : decode cX6_digest 60 = .ok (.bipush 6, 2) := by decide +kernel
theorem dX6_digest_62 : decode cX6_digest 62 = .ok (.iload_n 1, 1) := by decide +kernel
theorem dX6_digest_63 : decode cX6_digest 63 = .ok (.iadd, 1) := by decide +kernel
theorem dX6_digest_64 : decode cX6_digest 64 = .ok (.iaload, 1) := by decide +kernel
theorem dX6_digest_65 : decode cX6_digest 65 = .ok (.invokevirtual 184, 3) := by decide +kernel
theorem dX6_digest_68 : decode cX6_digest 68 = .ok (.iinc 1 1, 3) := by decide +kernel
theorem dX6_digest_71 : decode cX6_digest 71 = .ok (.goto (-22), 3) := by decide +kernel
theorem dX6_digest_74 : decode cX6_digest 74 = .ok (.iconst 0, 1) := by decide +kernel
theorem dX6_digest_75 : decode cX6_digest 75 = .ok (.istore_n 1, 1) := by decide +kernel
theorem dX6_digest_76 : decode cX6_digest 76 = .ok (.iload_n 1, 1) := by decide +kernel
theorem dX6_digest_77 : decode cX6_digest 77 = .ok (.bipush 9, 2) := by decide +kernel
theorem dX6_digest_79 : decode cX6_digest 79 = .ok (.aload_n 0, 1) := by decide +kernel
theorem dX6_digest_80 : decode cX6_digest 80 = .ok (.getfield 7, 3) := by decide +kernel
theorem dX6_digest_83 : decode cX6_digest 83 = .ok (.bipush 14, 2) := by decide +kernel
theorem dX6_digest_85 : decode cX6_digest 85 = .ok (.iaload, 1) := by decide +kernel
theorem dX6_digest_86 : decode cX6_digest 86 = .ok (.imul, 1) := by decide +kernel
theorem dX6_digest_87 : decode cX6_digest 87 = .ok (.if_icmp .ge 25, 3) := by decide +kernel
theorem dX6_digest_90 : decode cX6_digest 90 = .ok (.aload_n 0, 1) := by decide +kernel
theorem dX6_digest_91 : decode cX6_digest 91 = .ok (.aload_n 0, 1) := by decide +kernel
theorem dX6_digest_92 : decode cX6_digest 92 = .ok (.iload_n 1, 1) := by decide +kernel
theorem dX6_digest_93 : decode cX6_digest 93 = .ok (.bipush 9, 2) := by decide +kernel
theorem dX6_digest_95 : decode cX6_digest 95 = .ok (.idiv, 1) := by decide +kernel
theorem dX6_digest_96 : decode cX6_digest 96 = .ok (.iload_n 1, 1) := by decide +kernel
theorem dX6_digest_97 : decode cX6_digest 97 = .ok (.bipush 9, 2) := by decide +kernel
theorem dX6_digest_99 : decode cX6_digest 99 = .ok (.irem, 1) := by decide +kernel
theorem dX6_digest_100 : decode cX6_digest 100 = .ok (.invokevirtual 133, 3) := by decide +kernel
theorem dX6_digest_103 : decode cX6_digest 103 = .ok (.invokevirtual 184, 3) := by decide +kernel
theorem dX6_digest_106 : decode cX6_digest 106 = .ok (.iinc 1 1, 3) := by decide +kernel
theorem dX6_digest_109 : decode cX6_digest 109 = .ok (.goto (-33), 3) := by decide +kernel
theorem dX6_digest_112 : decode cX6_digest 112 = .ok (.iconst 0, 1) := by decide +kernel
theorem dX6_digest_113 : decode cX6_digest 113 = .ok (.istore_n 1, 1) := by decide +kernel
theorem dX6_digest_114 : decode cX6_digest 114 = .ok (.iload_n 1, 1) := by decide +kernel
theorem dX6_digest_115 : decode cX6_digest 115 = .ok (.aload_n 0, 1) := by decide +kernel
theorem dX6_digest_116 : decode cX6_digest 116 = .ok (.getfield 53, 3) := by decide +kernel
theorem dX6_digest_119 : decode cX6_digest 119 = .ok (.if_icmp .ge 14, 3) := by decide +kernel
theorem dX6_digest_122 : decode cX6_digest 122 = .ok (.aload_n 0, 1) := by decide +kernel
theorem dX6_digest_123 : decode cX6_digest 123 = .ok (.iload_n 1, 1) := by decide +kernel
theorem dX6_digest_124 : decode cX6_digest 124 = .ok (.invokevirtual 189, 3) := by decide +kernel
theorem dX6_digest_127 : decode cX6_digest 127 = .ok (.iinc 1 1, 3) := by decide +kernel
theorem dX6_digest_130 : decode cX6_digest 130 = .ok (.goto (-16), 3) := by decide +kernel
theorem dX6_digest_133 : decode cX6_digest 133 = .ok (.iconst 0, 1) := by decide +kernel
theorem dX6_digest_134 : decode cX6_digest 134 = .ok (.istore_n 1, 1) := by decide +kernel
theorem dX6_digest_135 : decode cX6_digest 135 = .ok (.iload_n 1, 1) := by decide +kernel
theorem dX6_digest_136 : decode cX6_digest 136 = .ok (.bipush 6, 2) := by decide +kernel
theorem dX6_digest_138 : decode cX6_digest 138 = .ok (.aload_n 0, 1) := by decide +kernel
theorem dX6_digest_139 : decode cX6_digest 139 = .ok (.getfield 71, 3) := by decide +kernel
theorem dX6_digest_142 : decode cX6_digest 142 = .ok (.imul, 1) := by decide +kernel
theorem dX6_digest_143 : decode cX6_digest 143 = .ok (.if_icmp .ge 25, 3) := by decide +kernel
theorem dX6_digest_146 : decode cX6_digest 146 = .ok (.aload_n 0, 1) := by decide +kernel
theorem dX6_digest_147 : decode cX6_digest 147 = .ok (.aload_n 0, 1) := by decide +kernel
theorem dX6_digest_148 : decode cX6_digest 148 = .ok (.iload_n 1, 1) := by decide +kernel
theorem dX6_digest_149 : decode cX6_digest 149 = .ok (.bipush 6, 2) := by decide +kernel
theorem dX6_digest_151 : decode cX6_digest 151 = .ok (.idiv, 1) := by decide +kernel
theorem dX6_digest_152 : decode cX6_digest 152 = .ok (.iload_n 1, 1) := by decide +kernel
theorem dX6_digest_153 : decode cX6_digest 153 = .ok (.bipush 6, 2) := by decide +kernel
theorem dX6_digest_155 : decode cX6_digest 155 = .ok (.irem, 1) := by decide +kernel
theorem dX6_digest_156 : decode cX6_digest 156 = .ok (.invokevirtual 139, 3) := by decide +kernel
theorem dX6_digest_159 : decode cX6_digest 159 = .ok (.invokevirtual 184, 3) := by decide +kernel
theorem dX6_digest_162 : decode cX6_digest 162 = .ok (.iinc 1 1, 3) := by decide +kernel
theorem dX6_digest_165 : decode cX6_digest 165 = .ok (.goto (-30), 3) := by decide +kernel
theorem dX6_digest_168 : decode cX6_digest 168 = .ok (.aload_n 0, 1) := by decide +kernel
theorem dX6_digest_169 : decode cX6_digest 169 = .ok (.getfield 180, 3) := by decide +kernel
theorem dX6_digest_172 : decode cX6_digest 172 = .ok (.lreturn, 1) := by decide +kernel
theorem dJ9_max_7cf53_0 : decode cJ9_max_7cf53 0 = .ok (.iload_n 0, 1) := by decide +kernel
theorem dJ9_max_7cf53_1 : decode cJ9_max_7cf53 1 = .ok (.iload_n 1, 1) := by decide +kernel
theorem dJ9_max_7cf53_2 : decode cJ9_max_7cf53 2 = .ok (.if_icmp .lt 7, 3) := by decide +kernel
theorem dJ9_max_7cf53_5 : decode cJ9_max_7cf53 5 = .ok (.iload_n 0, 1) := by decide +kernel
theorem dJ9_max_7cf53_6 : decode cJ9_max_7cf53 6 = .ok (.goto 4, 3) := by decide +kernel
theorem dJ9_max_7cf53_9 : decode cJ9_max_7cf53 9 = .ok (.iload_n 1, 1) := by decide +kernel
theorem dJ9_max_7cf53_10 : decode cJ9_max_7cf53 10 = .ok (.ireturn, 1) := by decide +kernel
theorem dJ9_min_7cf53_0 : decode cJ9_min_7cf53 0 = .ok (.iload_n 0, 1) := by decide +kernel
theorem dJ9_min_7cf53_1 : decode cJ9_min_7cf53 1 = .ok (.iload_n 1, 1) := by decide +kernel
theorem dJ9_min_7cf53_2 : decode cJ9_min_7cf53 2 = .ok (.if_icmp .gt 7, 3) := by decide +kernel
theorem dJ9_min_7cf53_5 : decode cJ9_min_7cf53 5 = .ok (.iload_n 0, 1) := by decide +kernel
theorem dJ9_min_7cf53_6 : decode cJ9_min_7cf53 6 = .ok (.goto 4, 3) := by decide +kernel
theorem dJ9_min_7cf53_9 : decode cJ9_min_7cf53 9 = .ok (.iload_n 1, 1) := by decide +kernel
theorem dJ9_min_7cf53_10 : decode cJ9_min_7cf53 10 = .ok (.ireturn, 1) := by decide +kernel
set_option maxRecDepth 20000 in
theorem ggL_insert_X5_insert : GoodIn wsL_insert wsX5_insert := goodIn_ca (goodIn_ca (goodIn_ca (goodIn_r _ [8, 9, 10, 11, 12, 13, 14, 15, 7, 16, 17, 18, 19, 20, 21, 22, 23, 24, 25, 26, 27, 28, 29, 30, 31, 32, 33, 34, 35, 36, 37, 38, 39, 40, 41, 42, 43, 44, 45, 46, 47, 48, 49, 50, 51, 52, 53, 54, 55, 56, 57, 58, 59, 60, 61, 62, 63, 64, 65, 66, 67, 68, 69, 70, 71, 72, 73, 74, 75, 76, 77, 78, 79, 80, 81, 82, 83, 84, 85, 86, 87, 88, 89, 90, 91, 92, 93, 94, 95, 96, 97, 98, 99, 100, 101, 102, 103, 104, 105, 106, 107, 108, 109, 110, 111, 112, 113, 114, 115, 116, 117, 118, 119, 120, 121, 122, 123, 124, 125, 126, 127, 128, 129, 130, 131, 132, 133, 134, 135, 136, 137, 138, 139, 140, 141, 142, 143, 144, 145, 146, 147, 148, 149, 150, 151, 152, 153, 154, 155, 156, 157, 158, 159, 160, 161, 162, 163, 164, 165, 166, 167, 168, 169, 170, 171, 172, 173, 174, 175, 176, 177, 178, 179, 180, 181, 182, 183, 184, 185, 186, 187, 188, 189, 190, 191, 192, 193, 194, 195, 196, 197, 198, 199, 200, 201, 202, 203, 204, 205, 206, 207, 208, 209, 210, 211, 212, 213, 214, 215, 216, 217, 218, 219, 220, 221, 222, 223, 224, 225, 226, 227, 228, 229, 230, 231, 232, 233, 234, 235, 236, 237, 238, 239, 240, 241, 242, 243, 244] (by decide +kernel) (by decide +kernel)) (goodIn_sub (fun _ h => List.mem_cons_of_mem _ (List.mem_append_left _ (List.mem_append_left _ (List.mem_append_right _ h)))) (by decide +kernel))) (goodIn_sub (fun _ h => List.mem_cons_of_mem _ (List.mem_append_left _ (List.mem_append_right _ h))) (by decide +kernel))) (goodIn_sub (fun _ h => List.mem_cons_of_mem _ (List.mem_append_right _ h)) (by decide +kernel))
set_option maxRecDepth 20000 in
theorem gL_insert_X5_insert : GoodIn wsL_insert (wsV RL 7 RX5 yX5_insert wsX5_insert) := goodIn_app (goodIn_of _ (by decide +kernel)) ggL_insert_X5_insert
theorem dL_insert_0 : decode cL_insert 0 = .ok (.aload 6, 2) := by decide +kernel
theorem dL_insert_2 : decode cL_insert 2 = .ok (.iconst 0, 1) := by decide +kernel
theorem dL_insert_3 : decode cL_insert 3 = .ok (.aload_n 0, 1) := by decide +kernel
theorem dL_insert_4 : decode cL_insert 4 = .ok (.iload_n 1, 1) := by decide +kernel
theorem dL_insert_5 : decode cL_insert 5 = .ok (.iload_n 2, 1) := by decide +kernel
theorem dL_insert_6 : decode cL_insert 6 = .ok (.iload_n 3, 1) := by decide +kernel
theorem dL_insert_7 : decode cL_insert 7 = .ok (.iload 4, 2) := by decide +kernel
theorem dL_insert_9 : decode cL_insert 9 = .ok (.iload 5, 2) := by decide +kernel
theorem dL_insert_11 : decode cL_insert 11 = .ok (.invokevirtual 7, 3) := by decide +kernel
theorem dL_insert_14 : decode cL_insert 14 = .ok (.i2l, 1) := by decide +kernel
theorem dL_insert_15 : decode cL_insert 15 = .ok (.lastore, 1) := by decide +kernel
theorem dL_insert_16 : decode cL_insert 16 = .ok (.goto 15, 3) := by decide +kernel
theorem dL_insert_19 : decode cL_insert 19 = .ok (.astore 7, 2) := by decide +kernel
theorem dL_insert_21 : decode cL_insert 21 = .ok (.iconst 1, 1) := by decide +kernel
theorem dL_insert_22 : decode cL_insert 22 = .ok (.ireturn, 1) := by decide +kernel
theorem dL_insert_23 : decode cL_insert 23 = .ok (.astore 7, 2) := by decide +kernel
theorem dL_insert_25 : decode cL_insert 25 = .ok (.iconst 2, 1) := by decide +kernel
theorem dL_insert_26 : decode cL_insert 26 = .ok (.ireturn, 1) := by decide +kernel
theorem dL_insert_27 : decode cL_insert 27 = .ok (.astore 7, 2) := by decide +kernel
theorem dL_insert_29 : decode cL_insert 29 = .ok (.iconst 3, 1) := by decide +kernel
theorem dL_insert_30 : decode cL_insert 30 = .ok (.ireturn, 1) := by decide +kernel
theorem dL_insert_31 : decode cL_insert 31 = .ok (.iconst 0, 1) := by decide +kernel
theorem dL_insert_32 : decode cL_insert 32 = .ok (.ireturn, 1) := by decide +kernel
set_option maxRecDepth 20000 in
theorem ggL_removeWord_X5_removeWord : GoodIn wsL_removeWord wsX5_removeWord := goodIn_ca (goodIn_r _ [6, 7, 8, 9, 10, 11, 5, 12, 13, 14, 15, 16, 17, 18, 19, 20, 21, 22, 23, 24, 25, 26, 27, 28, 29, 30, 31, 32, 33, 34, 35, 36, 37, 38, 39, 40, 41, 42, 43, 44, 45, 46, 47, 48, 49, 50, 51, 52, 53, 54, 55, 56, 57, 58, 59, 60, 61, 62, 63, 64, 65, 66, 67, 68, 69, 70, 71, 72, 73, 74, 75, 76, 77, 78, 79, 80, 81, 82, 83, 84, 85, 86, 87, 88, 89, 90, 91, 92, 93, 94, 95, 96, 97, 98, 99, 100, 101, 102, 103, 104, 105, 106, 107, 108, 109, 110, 111, 112, 113, 114, 115, 116, 117, 118, 119, 120, 121, 122, 123, 124, 125, 126, 127, 128, 129, 130, 131, 132, 133, 134, 135, 136, 137, 138, 139, 140, 141, 142, 143, 144, 145, 146, 147, 148, 149, 150, 151, 152, 153, 154, 155, 156, 157, 158, 159, 160, 161, 162, 163, 164, 165, 166, 167, 168, 169, 170, 171, 172, 173, 174, 175, 176, 177, 178, 179, 180, 181, 182, 183, 184, 185, 186, 187, 188, 189, 190, 191, 192, 193, 194, 195, 196, 197, 198, 199, 200, 201, 202, 203, 204, 205, 206, 207, 208, 209, 210, 211, 212, 213, 214, 215, 216, 217, 218] (by decide +kernel) (by decide +kernel)) (goodIn_sub (fun _ h => List.mem_cons_of_mem _ (List.mem_append_right _ h)) (by decide +kernel))
set_option maxRecDepth 20000 in
theorem gL_removeWord_X5_removeWord : GoodIn wsL_removeWord (wsV RL 19 RX5 yX5_removeWord wsX5_removeWord) := goodIn_app (goodIn_of _ (by decide +kernel)) ggL_removeWord_X5_removeWord
theorem dL_removeWord_0 : decode cL_removeWord 0 = .ok (.aload_n 2, 1) := by decide +kernel
theorem dL_removeWord_1 : decode cL_removeWord 1 = .ok (.iconst 0, 1) := by decide +kernel
theorem dL_removeWord_2 : decode cL_removeWord 2 = .ok (.aload_n 0, 1) := by decide +kernel
theorem dL_removeWord_3 : decode cL_removeWord 3 = .ok (.iload_n 1, 1) := by decide +kernel
theorem dL_removeWord_4 : decode cL_removeWord 4 = .ok (.invokevirtual 19, 3) := by decide +kernel
theorem dL_removeWord_7 : decode cL_removeWord 7 = .ok (.i2l, 1) := by decide +kernel
theorem dL_removeWord_8 : decode cL_removeWord 8 = .ok (.lastore, 1) := by decide +kernel
theorem dL_removeWord_9 : decode cL_removeWord 9 = .ok (.goto 6, 3) := by decide +kernel
theorem dL_removeWord_12 : decode cL_removeWord 12 = .ok (.astore_n 3, 1) := by decide +kernel
theorem dL_removeWord_13 : decode cL_removeWord 13 = .ok (.iconst 1, 1) := by decide +kernel
theorem dL_removeWord_14 : decode cL_removeWord 14 = .ok (.ireturn, 1) := by decide +kernel
theorem dL_removeWord_15 : decode cL_removeWord 15 = .ok (.iconst 0, 1) := by decide +kernel
theorem dL_removeWord_16 : decode cL_removeWord 16 = .ok (.ireturn, 1) := by decide +kernel
set_option maxRecDepth 20000 in
theorem ggL_endParagraph_X5_endParagraph : GoodIn wsL_endParagraph wsX5_endParagraph := goodIn_ca (goodIn_r _ [6, 7, 8, 9, 10, 11, 5, 12, 13, 14, 15, 16, 17, 18, 19, 20, 21, 22, 23, 24, 25, 26, 27, 28, 29, 30, 31, 32, 33, 34, 35, 36, 37, 38, 39, 40, 41, 42, 43, 44, 45, 46, 47, 48, 49, 50, 51, 52, 53, 54, 55, 56, 57, 58, 59, 60, 61, 62, 63, 64, 65, 66, 67, 68, 69, 70, 71, 72, 73, 74, 75, 76, 77, 78, 79, 80, 81, 82, 83, 84, 85, 86, 87, 88, 89, 90, 91, 92, 93, 94, 95, 96, 97, 98, 99, 100, 101, 102, 103, 104, 105, 106, 107, 108, 109, 110, 111, 112, 113, 114, 115, 116, 117, 118, 119, 120, 121, 122, 123, 124, 125, 126, 127, 128, 129, 130, 131, 132, 133, 134, 135, 136, 137, 138, 139, 140, 141, 142, 143, 144, 145, 146, 147, 148, 149, 150, 151, 152, 153, 154, 155, 156, 157, 158, 159, 160, 161, 162, 163, 164, 165, 166, 167, 168, 169, 170, 171, 172, 173, 174, 175, 176, 177, 178, 179, 180, 181, 182, 183, 184, 185, 186, 187, 188, 189, 190, 191, 192, 193, 194, 195, 196, 197, 198, 199, 200, 201, 202, 203, 204, 205, 206, 207, 208, 209, 210, 211, 212, 213, 214, 215, 216, 217] (by decide +kernel) (by decide +kernel)) (goodIn_sub (fun _ h => List.mem_cons_of_mem _ (List.mem_append_right _ h)) (by decide +kernel))
set_option maxRecDepth 20000 in
theorem gL_endParagraph_X5_endParagraph : GoodIn wsL_endParagraph (wsV RL 23 RX5 yX5_endParagraph wsX5_endParagraph) := goodIn_app (goodIn_of _ (by decide +kernel)) ggL_endParagraph_X5_endParagraph
theorem dL_endParagraph_0 : decode cL_endParagraph 0 = .ok (.aload_n 3, 1) := by decide +kernel
theorem dL_endParagraph_1 : decode cL_endParagraph 1 = .ok (.iconst 0, 1) := by decide +kernel
theorem dL_endParagraph_2 : decode cL_endParagraph 2 = .ok (.aload_n 0, 1) := by decide +kernel
theorem dL_endParagraph_3 : decode cL_endParagraph 3 = .ok (.iload_n 1, 1) := by decide +kernel
theorem dL_endParagraph_4 : decode cL_endParagraph 4 = .ok (.iload_n 2, 1) := by decide +kernel
theorem dL_endParagraph_5 : decode cL_endParagraph 5 = .ok (.invokevirtual 23, 3) := by decide +kernel
theorem dL_endParagraph_8 : decode cL_endParagraph 8 = .ok (.i2l, 1) := by decide +kernel
theorem dL_endParagraph_9 : decode cL_endParagraph 9 = .ok (.lastore, 1) := by decide +kernel
theorem dL_endParagraph_10 : decode cL_endParagraph 10 = .ok (.goto 7, 3) := by decide +kernel
theorem dL_endParagraph_13 : decode cL_endParagraph 13 = .ok (.astore 4, 2) := by decide +kernel
theorem dL_endParagraph_15 : decode cL_endParagraph 15 = .ok (.iconst 1, 1) := by decide +kernel
theorem dL_endParagraph_16 : decode cL_endParagraph 16 = .ok (.ireturn, 1) := by decide +kernel
theorem dL_endParagraph_17 : decode cL_endParagraph 17 = .ok (.iconst 0, 1) := by decide +kernel
theorem dL_endParagraph_18 : decode cL_endParagraph 18 = .ok (.ireturn, 1) := by decide +kernel
set_option maxRecDepth 20000 in
theorem ggL_setSigns_X5_setSigns : GoodIn wsL_setSigns wsX5_setSigns := goodIn_ca (goodIn_ca (goodIn_r _ [7, 8, 9, 10, 11, 12, 6, 13, 14, 15, 16, 17, 18, 19, 20, 21, 22, 23, 24, 25, 26, 27, 28, 29, 30, 31, 32, 33, 34, 35, 36, 37, 38, 39, 40, 41, 42, 43, 44, 45, 46, 47, 48, 49, 50, 51, 52, 53, 54, 55, 56, 57, 58, 59, 60, 61, 62, 63, 64, 65, 66, 67, 68, 69, 70, 71, 72, 73, 74, 75, 76, 77, 78, 79, 80, 81, 82, 83, 84, 85, 86, 87, 88, 89, 90, 91, 92, 93, 94, 95, 96, 97, 98, 99, 100, 101, 102, 103, 104, 105, 106, 107, 108, 109, 110, 111, 112, 113, 114, 115, 116, 117, 118, 119, 120, 121, 122, 123, 124, 125, 126, 127, 128, 129, 130, 131, 132, 133, 134, 135, 136, 137, 138, 139, 140, 141, 142, 143, 144, 145, 146, 147, 148, 149, 150, 151, 152, 153, 154, 155, 156, 157, 158, 159, 160, 161, 162, 163, 164, 165, 166, 167, 168, 169, 170, 171, 172, 173, 174, 175, 176, 177, 178, 179, 180, 181, 182, 183, 184, 185, 186, 187, 188, 189, 190, 191, 192, 193, 194, 195, 196, 197, 198, 199, 200, 201, 202, 203, 204, 205, 206, 207, 208, 209, 210, 211, 212, 213, 214, 215, 216, 217, 218, 219, 220, 221, 222, 223, 224, 225, 226] (by decide +kernel) (by decide +kernel)) (goodIn_sub (fun _ h => List.mem_cons_of_mem _ (List.mem_append_left _ (List.mem_append_right _ h))) (by decide +kernel))) (goodIn_sub (fun _ h => List.mem_cons_of_mem _ (List.mem_append_right _ h)) (by decide +kernel))
set_option maxRecDepth 20000 in
theorem gL_setSigns_X5_setSigns : GoodIn wsL_setSigns (wsV RL 27 RX5 yX5_setSigns wsX5_setSigns) := goodIn_app (goodIn_of _ (by decide +kernel)) ggL_setSigns_X5_setSigns
theorem dL_setSigns_0 : decode cL_setSigns 0 = .ok (.aload 4, 2) := by decide +kernel
theorem dL_setSigns_2 : decode cL_setSigns 2 = .ok (.iconst 0, 1) := by decide +kernel
theorem dL_setSigns_3 : decode cL_setSigns 3 = .ok (.aload_n 0, 1) := by decide +kernel
theorem dL_setSigns_4 : decode cL_setSigns 4 = .ok (.iload_n 1, 1) := by decide +kernel
theorem dL_setSigns_5 : decode cL_setSigns 5 = .ok (.iload_n 2, 1) := by decide +kernel
theorem dL_setSigns_6 : decode cL_setSigns 6 = .ok (.iload_n 3, 1) := by decide +kernel
theorem dL_setSigns_7 : decode cL_setSigns 7 = .ok (.invokevirtual 27, 3) := by decide +kernel
theorem dL_setSigns_10 : decode cL_setSigns 10 = .ok (.i2l, 1) := by decide +kernel
theorem dL_setSigns_11 : decode cL_setSigns 11 = .ok (.lastore, 1) := by decide +kernel
theorem dL_setSigns_12 : decode cL_setSigns 12 = .ok (.goto 11, 3) := by decide +kernel
theorem dL_setSigns_15 : decode cL_setSigns 15 = .ok (.astore 5, 2) := by decide +kernel
theorem dL_setSigns_17 : decode cL_setSigns 17 = .ok (.iconst 1, 1) := by decide +kernel
theorem dL_setSigns_18 : decode cL_setSigns 18 = .ok (.ireturn, 1) := by decide +kernel
theorem dL_setSigns_19 : decode cL_setSigns 19 = .ok (.astore 5, 2) := by decide +kernel
theorem dL_setSigns_21 : decode cL_setSigns 21 = .ok (.iconst 2, 1) := by decide +kernel
theorem dL_setSigns_22 : decode cL_setSigns 22 = .ok (.ireturn, 1) := by decide +kernel
theorem dL_setSigns_23 : decode cL_setSigns 23 = .ok (.iconst 0, 1) := by decide +kernel
theorem dL_setSigns_24 : decode cL_setSigns 24 = .ok (.ireturn, 1) := by decide +kernel
set_option maxRecDepth 20000 in
theorem ggL_set_X5_set : GoodIn wsL_set wsX5_set := goodIn_ca (goodIn_r _ [6, 7, 8, 9, 10, 11, 12, 13, 5, 14, 15, 16, 17, 18, 19, 20, 21, 22, 23, 24, 25, 26, 27, 28, 29, 30, 31, 32, 33, 34, 35, 36, 37, 38, 39, 40, 41, 42, 43, 44, 45, 46, 47, 48, 49, 50, 51, 52, 53, 54, 55, 56, 57, 58, 59, 60, 61, 62, 63, 64, 65, 66, 67, 68, 69, 70, 71, 72, 73, 74, 75, 76, 77, 78, 79, 80, 81, 82, 83, 84, 85, 86, 87, 88, 89, 90, 91, 92, 93, 94, 95, 96, 97, 98, 99, 100, 101, 102, 103, 104, 105, 106, 107, 108, 109, 110, 111, 112, 113, 114, 115, 116, 117, 118, 119, 120, 121, 122, 123, 124, 125, 126, 127, 128, 129, 130, 131, 132, 133, 134, 135, 136, 137, 138, 139, 140, 141, 142, 143, 144, 145, 146, 147, 148, 149, 150, 151, 152, 153, 154, 155, 156, 157, 158, 159, 160, 161, 162, 163, 164, 165, 166, 167, 168, 169, 170, 171, 172, 173, 174, 175, 176, 177, 178, 179, 180, 181, 182, 183, 184, 185, 186, 187, 188, 189, 190, 191, 192, 193, 194, 195, 196, 197, 198, 199, 200, 201, 202, 203, 204, 205, 206, 207, 208, 209, 210, 211] (by decide +kernel) (by decide +kernel)) (goodIn_sub (fun _ h => List.mem_cons_of_mem _ (List.mem_append_right _ h)) (by decide +kernel))
set_option maxRecDepth 20000 in
theorem gL_set_X5_set : GoodIn wsL_set (wsV RL 31 RX5 yX5_set wsX5_set) := goodIn_app (goodIn_of _ (by decide +kernel)) ggL_set_X5_set
theorem dL_set_0 : decode cL_set 0 = .ok (.aload_n 3, 1) := by decide +kernel
theorem dL_set_1 : decode cL_set 1 = .ok (.iconst 0, 1) := by decide +kernel
theorem dL_set_2 : decode cL_set 2 = .ok (.aload_n 0, 1) := by decide +kernel
theorem dL_set_3 : decode cL_set 3 = .ok (.iload_n 1, 1) := by decide +kernel
theorem dL_set_4 : decode cL_set 4 = .ok (.iload_n 2, 1) := by decide +kernel
theorem dL_set_5 : decode cL_set 5 = .ok (.invokevirtual 31, 3) := by decide +kernel
theorem dL_set_8 : decode cL_set 8 = .ok (.i2l, 1) := by decide +kernel
theorem dL_set_9 : decode cL_set 9 = .ok (.lastore, 1) := by decide +kernel
theorem dL_set_10 : decode cL_set 10 = .ok (.goto 7, 3) := by decide +kernel
theorem dL_set_13 : decode cL_set 13 = .ok (.astore 4, 2) := by decide +kernel
theorem dL_set_15 : decode cL_set 15 = .ok (.iconst 1, 1) := by decide +kernel
theorem dL_set_16 : decode cL_set 16 = .ok (.ireturn, 1) := by decide +kernel
theorem dL_set_17 : decode cL_set 17 = .ok (.iconst 0, 1) := by decide +kernel
theorem dL_set_18 : decode cL_set 18 = .ok (.ireturn, 1) := by decide +kernel
set_option maxRecDepth 20000 in
theorem ggL_setShare_X5_setShare : GoodIn wsL_setShare wsX5_setShare := goodIn_ca (goodIn_ca (goodIn_r _ [7, 8, 9, 10, 11, 12, 6, 13, 14, 15, 16, 17, 18, 19, 20, 21, 22, 23, 24, 25, 26, 27, 28, 29, 30, 31, 32, 33, 34, 35, 36, 37, 38, 39, 40, 41, 42, 43, 44, 45, 46, 47, 48, 49, 50, 51, 52, 53, 54, 55, 56, 57, 58, 59, 60, 61, 62, 63, 64, 65, 66, 67, 68, 69, 70, 71, 72, 73, 74, 75, 76, 77, 78, 79, 80, 81, 82, 83, 84, 85, 86, 87, 88, 89, 90, 91, 92, 93, 94, 95, 96, 97, 98, 99, 100, 101, 102, 103, 104, 105, 106, 107, 108, 109, 110, 111, 112, 113, 114, 115, 116, 117, 118, 119, 120, 121, 122, 123, 124, 125, 126, 127, 128, 129, 130, 131, 132, 133, 134, 135, 136, 137, 138, 139, 140, 141, 142, 143, 144, 145, 146, 147, 148, 149, 150, 151, 152, 153, 154, 155, 156, 157, 158, 159, 160, 161, 162, 163, 164, 165, 166, 167, 168, 169, 170, 171, 172, 173, 174, 175, 176, 177, 178, 179, 180, 181, 182, 183, 184, 185, 186, 187, 188, 189, 190, 191, 192, 193, 194, 195, 196, 197, 198, 199, 200, 201, 202, 203, 204, 205, 206, 207, 208, 209, 210, 211, 212, 213, 214, 215, 216] (by decide +kernel) (by decide +kernel)) (goodIn_sub (fun _ h => List.mem_cons_of_mem _ (List.mem_append_left _ (List.mem_append_right _ h))) (by decide +kernel))) (goodIn_sub (fun _ h => List.mem_cons_of_mem _ (List.mem_append_right _ h)) (by decide +kernel))
set_option maxRecDepth 20000 in
theorem gL_setShare_X5_setShare : GoodIn wsL_setShare (wsV RL 35 RX5 yX5_setShare wsX5_setShare) := goodIn_app (goodIn_of _ (by decide +kernel)) ggL_setShare_X5_setShare
theorem dL_setShare_0 : decode cL_setShare 0 = .ok (.aload_n 3, 1) := by decide +kernel
theorem dL_setShare_1 : decode cL_setShare 1 = .ok (.iconst 0, 1) := by decide +kernel
theorem dL_setShare_2 : decode cL_setShare 2 = .ok (.aload_n 0, 1) := by decide +kernel
theorem dL_setShare_3 : decode cL_setShare 3 = .ok (.iload_n 1, 1) := by decide +kernel
theorem dL_setShare_4 : decode cL_setShare 4 = .ok (.iload_n 2, 1) := by decide +kernel
theorem dL_setShare_5 : decode cL_setShare 5 = .ok (.invokevirtual 35, 3) := by decide +kernel
theorem dL_setShare_8 : decode cL_setShare 8 = .ok (.i2l, 1) := by decide +kernel
theorem dL_setShare_9 : decode cL_setShare 9 = .ok (.lastore, 1) := by decide +kernel
theorem dL_setShare_10 : decode cL_setShare 10 = .ok (.goto 11, 3) := by decide +kernel
theorem dL_setShare_13 : decode cL_setShare 13 = .ok (.astore 4, 2) := by decide +kernel
theorem dL_setShare_15 : decode cL_setShare 15 = .ok (.iconst 1, 1) := by decide +kernel
theorem dL_setShare_16 : decode cL_setShare 16 = .ok (.ireturn, 1) := by decide +kernel
theorem dL_setShare_17 : decode cL_setShare 17 = .ok (.astore 4, 2) := by decide +kernel
theorem dL_setShare_19 : decode cL_setShare 19 = .ok (.iconst 2, 1) := by decide +kernel
theorem dL_setShare_20 : decode cL_setShare 20 = .ok (.ireturn, 1) := by decide +kernel
theorem dL_setShare_21 : decode cL_setShare 21 = .ok (.iconst 0, 1) := by decide +kernel
theorem dL_setShare_22 : decode cL_setShare 22 = .ok (.ireturn, 1) := by decide +kernel
set_option maxRecDepth 20000 in
theorem ggL_word_X5_word : GoodIn wsL_word wsX5_word := goodIn_ca (goodIn_ca (goodIn_r _ [7, 8, 9, 10, 11, 6, 12, 13, 14, 15, 16, 17, 18, 19, 20, 21, 22, 23, 24, 25, 26, 27, 28, 29, 30, 31, 32, 33, 34, 35, 36, 37, 38, 39, 40, 41, 42, 43, 44, 45, 46, 47, 48, 49, 50, 51, 52, 53, 54, 55, 56, 57, 58, 59, 60, 61, 62, 63, 64, 65, 66, 67, 68, 69, 70, 71, 72, 73, 74, 75, 76, 77, 78, 79, 80, 81, 82, 83, 84, 85, 86, 87, 88, 89, 90, 91, 92, 93, 94, 95] (by decide +kernel) (by decide +kernel)) (goodIn_sub (fun _ h => List.mem_cons_of_mem _ (List.mem_append_left _ (List.mem_append_right _ h))) (by decide +kernel))) (goodIn_sub (fun _ h => List.mem_cons_of_mem _ (List.mem_append_right _ h)) (by decide +kernel))
set_option maxRecDepth 20000 in
theorem gL_word_X5_word : GoodIn wsL_word (wsV RL 38 RX5 yX5_word wsX5_word) := goodIn_app (goodIn_of _ (by decide +kernel)) ggL_word_X5_word
theorem dL_word_0 : decode cL_word 0 = .ok (.aload_n 3, 1) := by decide +kernel
theorem dL_word_1 : decode cL_word 1 = .ok (.iconst 0, 1) := by decide +kernel
theorem dL_word_2 : decode cL_word 2 = .ok (.aload_n 0, 1) := by decide +kernel
theorem dL_word_3 : decode cL_word 3 = .ok (.iload_n 1, 1) := by decide +kernel
theorem dL_word_4 : decode cL_word 4 = .ok (.iload_n 2, 1) := by decide +kernel
theorem dL_word_5 : decode cL_word 5 = .ok (.invokevirtual 38, 3) := by decide +kernel
theorem dL_word_8 : decode cL_word 8 = .ok (.i2l, 1) := by decide +kernel
theorem dL_word_9 : decode cL_word 9 = .ok (.lastore, 1) := by decide +kernel
theorem dL_word_10 : decode cL_word 10 = .ok (.goto 11, 3) := by decide +kernel
theorem dL_word_13 : decode cL_word 13 = .ok (.astore 4, 2) := by decide +kernel
theorem dL_word_15 : decode cL_word 15 = .ok (.iconst 1, 1) := by decide +kernel
theorem dL_word_16 : decode cL_word 16 = .ok (.ireturn, 1) := by decide +kernel
theorem dL_word_17 : decode cL_word 17 = .ok (.astore 4, 2) := by decide +kernel
theorem dL_word_19 : decode cL_word 19 = .ok (.iconst 2, 1) := by decide +kernel
theorem dL_word_20 : decode cL_word 20 = .ok (.ireturn, 1) := by decide +kernel
theorem dL_word_21 : decode cL_word 21 = .ok (.iconst 0, 1) := by decide +kernel
theorem dL_word_22 : decode cL_word 22 = .ok (.ireturn, 1) := by decide +kernel
set_option maxRecDepth 20000 in
theorem ggL_line_X5_line : GoodIn wsL_line wsX5_line := goodIn_ca (goodIn_ca (goodIn_r _ [7, 8, 9, 10, 11, 6, 12, 13, 14, 15, 16, 17, 18, 19, 20, 21, 22, 23, 24, 25, 26, 27, 28, 29, 30, 31, 32, 33, 34, 35, 36, 37, 38] (by decide +kernel) (by decide +kernel)) (goodIn_sub (fun _ h => List.mem_cons_of_mem _ (List.mem_append_left _ (List.mem_append_right _ h))) (by decide +kernel))) (goodIn_sub (fun _ h => List.mem_cons_of_mem _ (List.mem_append_right _ h)) (by decide +kernel))
set_option maxRecDepth 20000 in
theorem gL_line_X5_line : GoodIn wsL_line (wsV RL 41 RX5 yX5_line wsX5_line) := goodIn_app (goodIn_of _ (by decide +kernel)) ggL_line_X5_line
theorem dL_line_0 : decode cL_line 0 = .ok (.aload_n 3, 1) := by decide +kernel
theorem dL_line_1 : decode cL_line 1 = .ok (.iconst 0, 1) := by decide +kernel
theorem dL_line_2 : decode cL_line 2 = .ok (.aload_n 0, 1) := by decide +kernel
theorem dL_line_3 : decode cL_line 3 = .ok (.iload_n 1, 1) := by decide +kernel
theorem dL_line_4 : decode cL_line 4 = .ok (.iload_n 2, 1) := by decide +kernel
theorem dL_line_5 : decode cL_line 5 = .ok (.invokevirtual 41, 3) := by decide +kernel
theorem dL_line_8 : decode cL_line 8 = .ok (.i2l, 1) := by decide +kernel
theorem dL_line_9 : decode cL_line 9 = .ok (.lastore, 1) := by decide +kernel
theorem dL_line_10 : decode cL_line 10 = .ok (.goto 11, 3) := by decide +kernel
theorem dL_line_13 : decode cL_line 13 = .ok (.astore 4, 2) := by decide +kernel
theorem dL_line_15 : decode cL_line 15 = .ok (.iconst 1, 1) := by decide +kernel
theorem dL_line_16 : decode cL_line 16 = .ok (.ireturn, 1) := by decide +kernel
theorem dL_line_17 : decode cL_line 17 = .ok (.astore 4, 2) := by decide +kernel
theorem dL_line_19 : decode cL_line 19 = .ok (.iconst 2, 1) := by decide +kernel
theorem dL_line_20 : decode cL_line 20 = .ok (.ireturn, 1) := by decide +kernel
theorem dL_line_21 : decode cL_line 21 = .ok (.iconst 0, 1) := by decide +kernel
theorem dL_line_22 : decode cL_line 22 = .ok (.ireturn, 1) := by decide +kernel
set_option maxRecDepth 20000 in
theorem ggL_page_X5_page : GoodIn wsL_page wsX5_page := goodIn_ca (goodIn_ca (goodIn_r _ [7, 8, 9, 10, 11, 6, 12, 13, 14, 15, 16, 17, 18, 19, 20, 21, 22, 23, 24, 25, 26, 27, 28, 29, 30, 31, 32, 33, 34, 35, 36, 37, 38] (by decide +kernel) (by decide +kernel)) (goodIn_sub (fun _ h => List.mem_cons_of_mem _ (List.mem_append_left _ (List.mem_append_right _ h))) (by decide +kernel))) (goodIn_sub (fun _ h => List.mem_cons_of_mem _ (List.mem_append_right _ h)) (by decide +kernel))
set_option maxRecDepth 20000 in
theorem gL_page_X5_page : GoodIn wsL_page (wsV RL 44 RX5 yX5_page wsX5_page) := goodIn_app (goodIn_of _ (by decide +kernel)) ggL_page_X5_page
theorem dL_page_0 : decode cL_page 0 = .ok (.aload_n 3, 1) := by decide +kernel
theorem dL_page_1 : decode cL_page 1 = .ok (.iconst 0, 1) := by decide +kernel
theorem dL_page_2 : decode cL_page 2 = .ok (.aload_n 0, 1) := by decide +kernel
theorem dL_page_3 : decode cL_page 3 = .ok (.iload_n 1, 1) := by decide +kernel
theorem dL_page_4 : decode cL_page 4 = .ok (.iload_n 2, 1) := by decide +kernel
theorem dL_page_5 : decode cL_page 5 = .ok (.invokevirtual 44, 3) := by decide +kernel
theorem dL_page_8 : decode cL_page 8 = .ok (.i2l, 1) := by decide +kernel
theorem dL_page_9 : decode cL_page 9 = .ok (.lastore, 1) := by decide +kernel
theorem dL_page_10 : decode cL_page 10 = .ok (.goto 11, 3) := by decide +kernel
theorem dL_page_13 : decode cL_page 13 = .ok (.astore 4, 2) := by decide +kernel
theorem dL_page_15 : decode cL_page 15 = .ok (.iconst 1, 1) := by decide +kernel
theorem dL_page_16 : decode cL_page 16 = .ok (.ireturn, 1) := by decide +kernel
theorem dL_page_17 : decode cL_page 17 = .ok (.astore 4, 2) := by decide +kernel
theorem dL_page_19 : decode cL_page 19 = .ok (.iconst 2, 1) := by decide +kernel
theorem dL_page_20 : decode cL_page 20 = .ok (.ireturn, 1) := by decide +kernel
theorem dL_page_21 : decode cL_page 21 = .ok (.iconst 0, 1) := by decide +kernel
theorem dL_page_22 : decode cL_page 22 = .ok (.ireturn, 1) := by decide +kernel
set_option maxRecDepth 20000 in
theorem ggL_whole_X5_whole : GoodIn wsL_whole wsX5_whole := goodIn_ca (goodIn_r _ [6, 7, 8, 5, 9, 10, 11, 12, 13, 14, 15, 16, 17, 18, 19, 20, 21, 22, 23, 24, 25, 26, 27, 28, 29, 30, 31, 32, 33, 34, 35, 36, 37, 38, 39, 40, 41, 42, 43, 44, 45, 46, 47, 48, 49, 50, 51, 52, 53, 54, 55, 56, 57, 58, 59, 60, 61, 62, 63, 64, 65, 66, 67, 68, 69, 70, 71, 72, 73, 74, 75, 76, 77, 78, 79, 80, 81, 82, 83, 84, 85, 86] (by decide +kernel) (by decide +kernel)) (goodIn_sub (fun _ h => List.mem_cons_of_mem _ (List.mem_append_right _ h)) (by decide +kernel))
set_option maxRecDepth 20000 in
theorem gL_whole_X5_whole : GoodIn wsL_whole (wsV RL 47 RX5 yX5_whole wsX5_whole) := goodIn_app (goodIn_of _ (by decide +kernel)) ggL_whole_X5_whole
theorem dL_whole_0 : decode cL_whole 0 = .ok (.aload_n 2, 1) := by decide +kernel
theorem dL_whole_1 : decode cL_whole 1 = .ok (.iconst 0, 1) := by decide +kernel
theorem dL_whole_2 : decode cL_whole 2 = .ok (.aload_n 0, 1) := by decide +kernel
theorem dL_whole_3 : decode cL_whole 3 = .ok (.iload_n 1, 1) := by decide +kernel
theorem dL_whole_4 : decode cL_whole 4 = .ok (.invokevirtual 47, 3) := by decide +kernel
theorem dL_whole_7 : decode cL_whole 7 = .ok (.i2l, 1) := by decide +kernel
theorem dL_whole_8 : decode cL_whole 8 = .ok (.lastore, 1) := by decide +kernel
theorem dL_whole_9 : decode cL_whole 9 = .ok (.goto 6, 3) := by decide +kernel
theorem dL_whole_12 : decode cL_whole 12 = .ok (.astore_n 3, 1) := by decide +kernel
theorem dL_whole_13 : decode cL_whole 13 = .ok (.iconst 1, 1) := by decide +kernel
theorem dL_whole_14 : decode cL_whole 14 = .ok (.ireturn, 1) := by decide +kernel
theorem dL_whole_15 : decode cL_whole 15 = .ok (.iconst 0, 1) := by decide +kernel
theorem dL_whole_16 : decode cL_whole 16 = .ok (.ireturn, 1) := by decide +kernel
set_option maxRecDepth 20000 in
theorem ggL_share_X5_share : GoodIn wsL_share wsX5_share := goodIn_ca (goodIn_r _ [6, 7, 8, 9, 5, 10, 11, 12, 13, 14, 15, 16, 17, 18, 19, 20, 21, 22, 23, 24, 25, 26, 27, 28, 29, 30, 31, 32, 33] (by decide +kernel) (by decide +kernel)) (goodIn_sub (fun _ h => List.mem_cons_of_mem _ (List.mem_append_right _ h)) (by decide +kernel))
set_option maxRecDepth 20000 in
theorem gL_share_X5_share : GoodIn wsL_share (wsV RL 50 RX5 yX5_share wsX5_share) := goodIn_app (goodIn_of _ (by decide +kernel)) ggL_share_X5_share
theorem dL_share_0 : decode cL_share 0 = .ok (.aload_n 2, 1) := by decide +kernel
theorem dL_share_1 : decode cL_share 1 = .ok (.iconst 0, 1) := by decide +kernel
theorem dL_share_2 : decode cL_share 2 = .ok (.aload_n 0, 1) := by decide +kernel
theorem dL_share_3 : decode cL_share 3 = .ok (.iload_n 1, 1) := by decide +kernel
theorem dL_share_4 : decode cL_share 4 = .ok (.invokevirtual 50, 3) := by decide +kernel
theorem dL_share_7 : decode cL_share 7 = .ok (.i2l, 1) := by decide +kernel
theorem dL_share_8 : decode cL_share 8 = .ok (.lastore, 1) := by decide +kernel
theorem dL_share_9 : decode cL_share 9 = .ok (.goto 6, 3) := by decide +kernel
theorem dL_share_12 : decode cL_share 12 = .ok (.astore_n 3, 1) := by decide +kernel
theorem dL_share_13 : decode cL_share 13 = .ok (.iconst 1, 1) := by decide +kernel
theorem dL_share_14 : decode cL_share 14 = .ok (.ireturn, 1) := by decide +kernel
theorem dL_share_15 : decode cL_share 15 = .ok (.iconst 0, 1) := by decide +kernel
theorem dL_share_16 : decode cL_share 16 = .ok (.ireturn, 1) := by decide +kernel
set_option maxRecDepth 20000 in
theorem ggL_linesWith_X5_linesWith : GoodIn wsL_linesWith wsX5_linesWith := goodIn_ca (goodIn_r _ [6, 7, 8, 9, 10, 5, 11, 12, 13, 14, 15, 16, 17, 18, 19, 20, 21, 22, 23, 24, 25, 26, 27, 28, 29, 30, 31, 32, 33, 34, 35, 36, 37, 38, 39, 40, 41, 42, 43, 44, 45, 46, 47, 48, 49, 50, 51, 52, 53, 54, 55, 56, 57, 58, 59, 60, 61, 62, 63, 64, 65, 66, 67, 68, 69, 70, 71, 72, 73, 74, 75, 76, 77, 78, 79, 80, 81, 82, 83, 84, 85, 86, 87, 88, 89, 90, 91, 92, 93, 94, 95, 96, 97, 98, 99, 100, 101, 102, 103, 104, 105, 106, 107, 108, 109, 110, 111, 112, 113, 114, 115, 116, 117, 118, 119, 120, 121, 122, 123, 124, 125, 126, 127, 128, 129, 130, 131, 132, 133, 134, 135, 136, 137, 138, 139, 140, 141, 142, 143, 144, 145, 146, 147, 148, 149, 150, 151, 152, 153, 154, 155, 156, 157, 158, 159, 160, 161, 162, 163, 164, 165, 166, 167, 168, 169, 170, 171, 172, 173, 174, 175, 176, 177, 178, 179, 180] (by decide +kernel) (by decide +kernel)) (goodIn_sub (fun _ h => List.mem_cons_of_mem _ (List.mem_append_right _ h)) (by decide +kernel))
set_option maxRecDepth 20000 in
theorem gL_linesWith_X5_linesWith : GoodIn wsL_linesWith (wsV RL 53 RX5 yX5_linesWith wsX5_linesWith) := goodIn_app (goodIn_of _ (by decide +kernel)) ggL_linesWith_X5_linesWith
theorem dL_linesWith_0 : decode cL_linesWith 0 = .ok (.aload_n 2, 1) := by decide +kernel
theorem dL_linesWith_1 : decode cL_linesWith 1 = .ok (.iconst 0, 1) := by decide +kernel
theorem dL_linesWith_2 : decode cL_linesWith 2 = .ok (.aload_n 0, 1) := by decide +kernel
theorem dL_linesWith_3 : decode cL_linesWith 3 = .ok (.iload_n 1, 1) := by decide +kernel
theorem dL_linesWith_4 : decode cL_linesWith 4 = .ok (.invokevirtual 53, 3) := by decide +kernel
theorem dL_linesWith_7 : decode cL_linesWith 7 = .ok (.i2l, 1) := by decide +kernel
theorem dL_linesWith_8 : decode cL_linesWith 8 = .ok (.lastore, 1) := by decide +kernel
theorem dL_linesWith_9 : decode cL_linesWith 9 = .ok (.goto 6, 3) := by decide +kernel
theorem dL_linesWith_12 : decode cL_linesWith 12 = .ok (.astore_n 3, 1) := by decide +kernel
theorem dL_linesWith_13 : decode cL_linesWith 13 = .ok (.iconst 1, 1) := by decide +kernel
theorem dL_linesWith_14 : decode cL_linesWith 14 = .ok (.ireturn, 1) := by decide +kernel
theorem dL_linesWith_15 : decode cL_linesWith 15 = .ok (.iconst 0, 1) := by decide +kernel
theorem dL_linesWith_16 : decode cL_linesWith 16 = .ok (.ireturn, 1) := by decide +kernel
set_option maxRecDepth 20000 in
theorem ggL_measureFor_X5_measureFor : GoodIn wsL_measureFor wsX5_measureFor := goodIn_ca (goodIn_r _ [6, 7, 8, 9, 10, 5, 11, 12, 13, 14, 15, 16, 17, 18, 19, 20, 21, 22, 23, 24, 25, 26, 27, 28, 29, 30, 31, 32, 33, 34, 35, 36, 37, 38, 39, 40, 41, 42, 43, 44, 45, 46, 47, 48, 49, 50, 51, 52, 53, 54, 55, 56, 57, 58, 59, 60, 61, 62, 63, 64, 65, 66, 67, 68, 69, 70, 71, 72, 73, 74, 75, 76, 77, 78, 79, 80, 81, 82, 83, 84, 85, 86, 87, 88, 89, 90, 91, 92, 93, 94, 95, 96, 97, 98, 99, 100, 101, 102, 103, 104, 105, 106, 107, 108, 109, 110, 111, 112, 113, 114, 115, 116, 117, 118, 119, 120, 121, 122, 123, 124, 125, 126, 127, 128, 129, 130, 131, 132, 133, 134, 135, 136, 137, 138, 139, 140, 141, 142, 143, 144, 145, 146, 147, 148, 149, 150, 151, 152, 153, 154, 155, 156, 157, 158, 159, 160, 161, 162, 163, 164, 165, 166, 167, 168, 169, 170, 171, 172, 173, 174, 175, 176, 177, 178, 179, 180] (by decide +kernel) (by decide +kernel)) (goodIn_sub (fun _ h => List.mem_cons_of_mem _ (List.mem_append_right _ h)) (by decide +kernel))
set_option maxRecDepth 20000 in
theorem gL_measureFor_X5_measureFor : GoodIn wsL_measureFor (wsV RL 56 RX5 yX5_measureFor wsX5_measureFor) := goodIn_app (goodIn_of _ (by decide +kernel)) ggL_measureFor_X5_measureFor
theorem dL_measureFor_0 : decode cL_measureFor 0 = .ok (.aload_n 2, 1) := by decide +kernel
theorem dL_measureFor_1 : decode cL_measureFor 1 = .ok (.iconst 0, 1) := by decide +kernel
theorem dL_measureFor_2 : decode cL_measureFor 2 = .ok (.aload_n 0, 1) := by decide +kernel
theorem dL_measureFor_3 : decode cL_measureFor 3 = .ok (.iload_n 1, 1) := by decide +kernel
theorem dL_measureFor_4 : decode cL_measureFor 4 = .ok (.invokevirtual 56, 3) := by decide +kernel
theorem dL_measureFor_7 : decode cL_measureFor 7 = .ok (.i2l, 1) := by decide +kernel
theorem dL_measureFor_8 : decode cL_measureFor 8 = .ok (.lastore, 1) := by decide +kernel
theorem dL_measureFor_9 : decode cL_measureFor 9 = .ok (.goto 6, 3) := by decide +kernel
theorem dL_measureFor_12 : decode cL_measureFor 12 = .ok (.astore_n 3, 1) := by decide +kernel
theorem dL_measureFor_13 : decode cL_measureFor 13 = .ok (.iconst 1, 1) := by decide +kernel
theorem dL_measureFor_14 : decode cL_measureFor 14 = .ok (.ireturn, 1) := by decide +kernel
theorem dL_measureFor_15 : decode cL_measureFor 15 = .ok (.iconst 0, 1) := by decide +kernel
theorem dL_measureFor_16 : decode cL_measureFor 16 = .ok (.ireturn, 1) := by decide +kernel
set_option maxRecDepth 20000 in
theorem ggL_evenest_X5_evenest : GoodIn wsL_evenest wsX5_evenest := goodIn_ca (goodIn_r _ [6, 7, 8, 9, 10, 11, 12, 13, 14, 15, 16, 17, 18, 5, 19, 20, 21, 22, 23, 24, 25, 26, 27, 28, 29, 30, 31, 32, 33, 34, 35, 36, 37, 38, 39, 40, 41, 42, 43, 44, 45, 46, 47, 48, 49, 50, 51, 52, 53, 54, 55, 56, 57, 58, 59, 60, 61, 62, 63, 64, 65, 66, 67, 68, 69, 70, 71, 72, 73, 74, 75, 76, 77, 78, 79, 80, 81, 82, 83, 84, 85, 86, 87, 88, 89, 90, 91, 92, 93, 94, 95, 96, 97, 98, 99, 100, 101, 102, 103, 104, 105, 106, 107, 108, 109, 110, 111, 112, 113, 114, 115, 116, 117, 118, 119, 120, 121, 122, 123, 124, 125, 126, 127, 128, 129, 130, 131, 132, 133, 134, 135, 136, 137, 138, 139, 140, 141, 142, 143, 144, 145, 146, 147, 148, 149, 150, 151, 152, 153, 154, 155, 156, 157, 158, 159, 160, 161, 162, 163, 164, 165, 166, 167, 168, 169, 170, 171, 172, 173, 174, 175, 176, 177, 178, 179, 180, 181, 182, 183, 184, 185, 186] (by decide +kernel) (by decide +kernel)) (goodIn_sub (fun _ h => List.mem_cons_of_mem _ (List.mem_append_right _ h)) (by decide +kernel))
set_option maxRecDepth 20000 in
theorem gL_evenest_X5_evenest : GoodIn wsL_evenest (wsV RL 59 RX5 yX5_evenest wsX5_evenest) := goodIn_app (goodIn_of _ (by decide +kernel)) ggL_evenest_X5_evenest
theorem dL_evenest_0 : decode cL_evenest 0 = .ok (.aload_n 2, 1) := by decide +kernel
theorem dL_evenest_1 : decode cL_evenest 1 = .ok (.iconst 0, 1) := by decide +kernel
theorem dL_evenest_2 : decode cL_evenest 2 = .ok (.aload_n 0, 1) := by decide +kernel
theorem dL_evenest_3 : decode cL_evenest 3 = .ok (.iload_n 1, 1) := by decide +kernel
theorem dL_evenest_4 : decode cL_evenest 4 = .ok (.invokevirtual 59, 3) := by decide +kernel
theorem dL_evenest_7 : decode cL_evenest 7 = .ok (.i2l, 1) := by decide +kernel
theorem dL_evenest_8 : decode cL_evenest 8 = .ok (.lastore, 1) := by decide +kernel
theorem dL_evenest_9 : decode cL_evenest 9 = .ok (.goto 6, 3) := by decide +kernel
theorem dL_evenest_12 : decode cL_evenest 12 = .ok (.astore_n 3, 1) := by decide +kernel
theorem dL_evenest_13 : decode cL_evenest 13 = .ok (.iconst 1, 1) := by decide +kernel
theorem dL_evenest_14 : decode cL_evenest 14 = .ok (.ireturn, 1) := by decide +kernel
theorem dL_evenest_15 : decode cL_evenest 15 = .ok (.iconst 0, 1) := by decide +kernel
theorem dL_evenest_16 : decode cL_evenest 16 = .ok (.ireturn, 1) := by decide +kernel
set_option maxRecDepth 20000 in
theorem ggL_type_X5_type : GoodIn wsL_type wsX5_type := goodIn_ca (goodIn_ca (goodIn_r _ [7, 8, 9, 10, 11, 12, 13, 6, 14, 15, 16, 17, 18, 19, 20, 21, 22, 23, 24, 25, 26, 27, 28, 29, 30, 31, 32] (by decide +kernel) (by decide +kernel)) (goodIn_sub (fun _ h => List.mem_cons_of_mem _ (List.mem_append_left _ (List.mem_append_right _ h))) (by decide +kernel))) (goodIn_sub (fun _ h => List.mem_cons_of_mem _ (List.mem_append_right _ h)) (by decide +kernel))
set_option maxRecDepth 20000 in
theorem gL_type_X5_type : GoodIn wsL_type (wsV RL 62 RX5 yX5_type wsX5_type) := goodIn_app (goodIn_of _ (by decide +kernel)) ggL_type_X5_type
theorem dL_type_0 : decode cL_type 0 = .ok (.aload_n 2, 1) := by decide +kernel
theorem dL_type_1 : decode cL_type 1 = .ok (.iconst 0, 1) := by decide +kernel
theorem dL_type_2 : decode cL_type 2 = .ok (.aload_n 0, 1) := by decide +kernel
theorem dL_type_3 : decode cL_type 3 = .ok (.iload_n 1, 1) := by decide +kernel
theorem dL_type_4 : decode cL_type 4 = .ok (.invokevirtual 62, 3) := by decide +kernel
theorem dL_type_7 : decode cL_type 7 = .ok (.i2l, 1) := by decide +kernel
theorem dL_type_8 : decode cL_type 8 = .ok (.lastore, 1) := by decide +kernel
theorem dL_type_9 : decode cL_type 9 = .ok (.goto 9, 3) := by decide +kernel
theorem dL_type_12 : decode cL_type 12 = .ok (.astore_n 3, 1) := by decide +kernel
theorem dL_type_13 : decode cL_type 13 = .ok (.iconst 1, 1) := by decide +kernel
theorem dL_type_14 : decode cL_type 14 = .ok (.ireturn, 1) := by decide +kernel
theorem dL_type_15 : decode cL_type 15 = .ok (.astore_n 3, 1) := by decide +kernel
theorem dL_type_16 : decode cL_type 16 = .ok (.iconst 2, 1) := by decide +kernel
theorem dL_type_17 : decode cL_type 17 = .ok (.ireturn, 1) := by decide +kernel
theorem dL_type_18 : decode cL_type 18 = .ok (.iconst 0, 1) := by decide +kernel
theorem dL_type_19 : decode cL_type 19 = .ok (.ireturn, 1) := by decide +kernel
set_option maxRecDepth 20000 in
theorem ggL_lineByte_X5_lineByte : GoodIn wsL_lineByte wsX5_lineByte := goodIn_ca (goodIn_ca (goodIn_r _ [7, 8, 9, 10, 11, 12, 13, 6, 14, 15, 16, 17, 18, 19, 20, 21, 22, 23, 24, 25, 26, 27, 28, 29, 30, 31, 32, 33, 34, 35, 36, 37, 38, 39, 40, 41, 42, 43, 44, 45, 46, 47, 48, 49, 50, 51, 52, 53, 54, 55, 56, 57, 58, 59, 60, 61, 62, 63, 64, 65, 66, 67, 68, 69, 70, 71, 72, 73, 74, 75, 76, 77, 78, 79, 80, 81, 82] (by decide +kernel) (by decide +kernel)) (goodIn_sub (fun _ h => List.mem_cons_of_mem _ (List.mem_append_left _ (List.mem_append_right _ h))) (by decide +kernel))) (goodIn_sub (fun _ h => List.mem_cons_of_mem _ (List.mem_append_right _ h)) (by decide +kernel))
set_option maxRecDepth 20000 in
theorem gL_lineByte_X5_lineByte : GoodIn wsL_lineByte (wsV RL 65 RX5 yX5_lineByte wsX5_lineByte) := goodIn_app (goodIn_of _ (by decide +kernel)) ggL_lineByte_X5_lineByte
theorem dL_lineByte_0 : decode cL_lineByte 0 = .ok (.aload_n 3, 1) := by decide +kernel
theorem dL_lineByte_1 : decode cL_lineByte 1 = .ok (.iconst 0, 1) := by decide +kernel
theorem dL_lineByte_2 : decode cL_lineByte 2 = .ok (.aload_n 0, 1) := by decide +kernel
theorem dL_lineByte_3 : decode cL_lineByte 3 = .ok (.iload_n 1, 1) := by decide +kernel
theorem dL_lineByte_4 : decode cL_lineByte 4 = .ok (.iload_n 2, 1) := by decide +kernel
theorem dL_lineByte_5 : decode cL_lineByte 5 = .ok (.invokevirtual 65, 3) := by decide +kernel
theorem dL_lineByte_8 : decode cL_lineByte 8 = .ok (.i2l, 1) := by decide +kernel
theorem dL_lineByte_9 : decode cL_lineByte 9 = .ok (.lastore, 1) := by decide +kernel
theorem dL_lineByte_10 : decode cL_lineByte 10 = .ok (.goto 11, 3) := by decide +kernel
theorem dL_lineByte_13 : decode cL_lineByte 13 = .ok (.astore 4, 2) := by decide +kernel
theorem dL_lineByte_15 : decode cL_lineByte 15 = .ok (.iconst 1, 1) := by decide +kernel
theorem dL_lineByte_16 : decode cL_lineByte 16 = .ok (.ireturn, 1) := by decide +kernel
theorem dL_lineByte_17 : decode cL_lineByte 17 = .ok (.astore 4, 2) := by decide +kernel
theorem dL_lineByte_19 : decode cL_lineByte 19 = .ok (.iconst 2, 1) := by decide +kernel
theorem dL_lineByte_20 : decode cL_lineByte 20 = .ok (.ireturn, 1) := by decide +kernel
theorem dL_lineByte_21 : decode cL_lineByte 21 = .ok (.iconst 0, 1) := by decide +kernel
theorem dL_lineByte_22 : decode cL_lineByte 22 = .ok (.ireturn, 1) := by decide +kernel
set_option maxRecDepth 20000 in
theorem ggL_undo_X5_undo : GoodIn wsL_undo wsX5_undo := goodIn_ca (goodIn_r _ [6, 7, 8, 9, 10, 11, 12, 13, 14, 15, 16, 17, 18, 19, 20, 21, 22, 23, 24, 25, 26, 27, 28, 29, 30, 31, 32, 33, 34, 35, 36, 37, 38, 39, 40, 41, 42, 43, 44, 45, 46, 47, 5, 48, 49, 50, 51, 52, 53, 54, 55, 56, 57, 58, 59, 60, 61, 62, 63, 64, 65, 66, 67, 68, 69, 70, 71, 72, 73, 74, 75, 76, 77, 78, 79, 80, 81, 82, 83, 84, 85, 86, 87, 88, 89, 90, 91, 92, 93, 94, 95, 96, 97, 98, 99, 100, 101, 102, 103, 104, 105, 106, 107, 108, 109, 110, 111, 112, 113, 114, 115, 116, 117, 118, 119, 120, 121, 122, 123, 124, 125, 126, 127, 128, 129, 130, 131, 132, 133, 134, 135, 136, 137, 138, 139, 140, 141, 142, 143, 144, 145, 146, 147, 148, 149, 150, 151, 152, 153, 154, 155, 156, 157, 158, 159, 160, 161, 162, 163, 164, 165, 166, 167, 168, 169, 170, 171, 172, 173, 174, 175, 176, 177, 178, 179, 180, 181, 182, 183, 184, 185, 186, 187, 188, 189, 190, 191, 192, 193, 194, 195, 196, 197, 198, 199, 200, 201, 202] (by decide +kernel) (by decide +kernel)) (goodIn_sub (fun _ h => List.mem_cons_of_mem _ (List.mem_append_right _ h)) (by decide +kernel))
set_option maxRecDepth 20000 in
theorem gL_undo_X5_undo : GoodIn wsL_undo (wsV RL 68 RX5 yX5_undo wsX5_undo) := goodIn_app (goodIn_of _ (by decide +kernel)) ggL_undo_X5_undo
theorem dL_undo_0 : decode cL_undo 0 = .ok (.aload_n 1, 1) := by decide +kernel
theorem dL_undo_1 : decode cL_undo 1 = .ok (.iconst 0, 1) := by decide +kernel
theorem dL_undo_2 : decode cL_undo 2 = .ok (.aload_n 0, 1) := by decide +kernel
theorem dL_undo_3 : decode cL_undo 3 = .ok (.invokevirtual 68, 3) := by decide +kernel
theorem dL_undo_6 : decode cL_undo 6 = .ok (.i2l, 1) := by decide +kernel
theorem dL_undo_7 : decode cL_undo 7 = .ok (.lastore, 1) := by decide +kernel
theorem dL_undo_8 : decode cL_undo 8 = .ok (.goto 6, 3) := by decide +kernel
theorem dL_undo_11 : decode cL_undo 11 = .ok (.astore_n 2, 1) := by decide +kernel
theorem dL_undo_12 : decode cL_undo 12 = .ok (.iconst 1, 1) := by decide +kernel
theorem dL_undo_13 : decode cL_undo 13 = .ok (.ireturn, 1) := by decide +kernel
theorem dL_undo_14 : decode cL_undo 14 = .ok (.iconst 0, 1) := by decide +kernel
theorem dL_undo_15 : decode cL_undo 15 = .ok (.ireturn, 1) := by decide +kernel
set_option maxRecDepth 20000 in
theorem ggL_law_X5_init : GoodIn wsL_law wsX5_init := goodIn_r _ [9, 10, 11, 12, 13, 14, 15, 16, 17, 18, 19, 20, 21, 22, 23, 24, 25, 26, 27, 28, 29, 30, 31, 32, 33, 34, 35, 36, 37, 38, 39, 40, 41, 42, 43, 44, 45, 46, 47, 48, 49, 50, 51, 52, 53, 54, 55, 56, 57, 58, 59, 60, 61, 62, 63, 64, 65, 66, 67, 68, 69, 70, 71, 72, 842, 843, 844, 845, 846, 847, 848, 849, 850, 820, 821, 822, 823, 824, 825, 851, 852, 853, 854, 855, 856, 857, 858, 859, 860, 861, 862, 863, 864, 865, 866, 867, 868, 869, 870] (by decide +kernel) (by decide +kernel)
set_option maxRecDepth 20000 in
theorem gL_law_X5_init : GoodIn wsL_law (wsX5_init) := ggL_law_X5_init
set_option maxRecDepth 20000 in
theorem ggL_law_X6_init : GoodIn wsL_law wsX6_init := goodIn_r _ [75, 76, 11, 12, 34, 77, 78, 79, 80, 81, 82, 83, 84, 5, 85, 826, 827, 828, 829, 830, 831, 832, 833, 834, 835, 836, 837, 838, 839, 840, 841] (by decide +kernel) (by decide +kernel)
set_option maxRecDepth 20000 in
theorem gL_law_X6_init : GoodIn wsL_law (wsX6_init) := ggL_law_X6_init
set_option maxRecDepth 20000 in
theorem ggL_law_L_insert : GoodIn wsL_law wsL_insert := goodIn_ca (goodIn_ca (goodIn_ca (goodIn_r _ [89, 90, 91, 92, 93, 94, 95, 2, 96, 97, 98, 16, 99, 30, 100, 101, 102, 103, 104, 105, 106, 107, 108, 109, 110, 111, 112, 113, 114, 115, 116, 117, 118, 119, 120, 121, 29, 122, 123, 124, 125, 126, 127, 72, 128, 129, 130, 131, 132, 133, 134, 15, 135, 48, 136, 137, 138, 139, 49, 140, 141, 142, 143, 144, 35, 36, 37, 38, 39, 41, 145, 146, 147, 148, 149, 150, 151, 152, 153, 154, 155, 156, 157, 158, 159, 160, 161, 162, 163, 164, 165, 166, 167, 168, 169, 170, 171, 172, 20, 173, 174, 175, 176, 177, 178, 179, 19, 180, 181, 56, 182, 183, 184, 185, 186, 187, 188, 189, 60, 190, 191, 192, 193, 194, 59, 195, 196, 197, 198, 199, 200, 201, 202, 203, 204, 205, 206, 207, 208, 209, 210, 211, 212, 213, 214, 215, 216, 217, 218, 219, 220, 221, 222, 223, 224, 225, 226, 227, 228, 229, 230, 231, 232, 233, 234, 235, 236, 237, 238, 239, 240, 241, 242, 243, 244, 245, 246, 247, 248, 249, 250, 251, 252, 53, 253, 254, 255, 256, 257, 258, 259, 55, 260, 261, 262, 263, 264, 265, 266, 267, 268, 269, 270, 271, 272, 273, 274, 275, 54, 276, 277, 278, 279, 820, 821, 822, 823, 824, 825, 842, 843, 844, 845, 846, 847, 848, 849, 850, 861, 862, 851, 852, 853, 854, 855, 856, 857, 863, 864, 865, 866, 867, 868, 869, 870] (by decide +kernel) (by decide +kernel)) (goodIn_sub (fun _ h => List.mem_append_left _ (List.mem_append_left _ (List.mem_append_right _ h))) (by decide +kernel))) (goodIn_sub (fun _ h => List.mem_append_left _ (List.mem_append_right _ h)) (by decide +kernel))) (goodIn_sub (fun _ h => List.mem_append_right _ h) (by decide +kernel))
set_option maxRecDepth 20000 in
theorem gL_law_L_insert : GoodIn wsL_law (va_wsS RL 76 yL_insert wsL_insert) := goodIn_app (goodIn_of _ (by decide +kernel)) ggL_law_L_insert
set_option maxRecDepth 20000 in
theorem ggL_law_X6_insert : GoodIn wsL_law wsX6_insert := goodIn_r _ [283, 77, 284, 285, 286, 5, 287, 288, 83, 84, 85, 289, 290, 291, 292, 293, 294, 295, 79, 296, 297, 298, 299, 300, 301, 302, 303, 304, 305, 306, 307, 308, 78, 309, 310, 311, 312, 826, 827, 828, 829, 830, 831, 832, 833, 834, 835, 836, 837, 838, 839, 840, 841] (by decide +kernel) (by decide +kernel)
set_option maxRecDepth 20000 in
theorem gL_law_X6_insert : GoodIn wsL_law (wsV RL 81 RX6 yX6_insert wsX6_insert) := goodIn_app (goodIn_of _ (by decide +kernel)) ggL_law_X6_insert
set_option maxRecDepth 20000 in
theorem ggL_law_X6_thrown : GoodIn wsL_law wsX6_thrown := goodIn_r _ [316, 288, 826, 827, 828, 829, 830, 831, 832, 833, 834, 835, 836, 837, 838, 839, 840, 841] (by decide +kernel) (by decide +kernel)
set_option maxRecDepth 20000 in
theorem gL_law_X6_thrown : GoodIn wsL_law (wsV RL 82 RX6 yX6_thrown wsX6_thrown) := goodIn_app (goodIn_of _ (by decide +kernel)) ggL_law_X6_thrown
set_option maxRecDepth 20000 in
theorem ggL_law_L_removeWord : GoodIn wsL_law wsL_removeWord := goodIn_ca (goodIn_r _ [319, 90, 320, 321, 322, 2, 323, 16, 99, 30, 100, 101, 102, 103, 104, 119, 120, 121, 29, 122, 123, 124, 125, 126, 127, 72, 128, 129, 130, 131, 132, 133, 134, 15, 135, 48, 136, 137, 138, 139, 49, 140, 141, 142, 143, 144, 35, 36, 37, 38, 39, 41, 324, 325, 326, 327, 161, 162, 163, 164, 149, 150, 151, 152, 153, 154, 155, 156, 169, 170, 171, 172, 20, 173, 174, 175, 176, 177, 178, 179, 19, 180, 181, 56, 182, 183, 184, 185, 186, 187, 188, 189, 60, 190, 191, 192, 193, 194, 59, 195, 196, 197, 198, 199, 200, 201, 202, 203, 204, 205, 206, 207, 208, 209, 210, 211, 212, 213, 214, 215, 216, 217, 218, 219, 220, 221, 222, 223, 224, 225, 226, 227, 228, 229, 230, 231, 232, 233, 234, 235, 236, 237, 238, 239, 240, 241, 242, 243, 244, 245, 246, 247, 248, 249, 250, 251, 252, 53, 253, 254, 255, 256, 257, 258, 259, 55, 260, 261, 262, 263, 264, 265, 266, 267, 268, 269, 270, 271, 272, 273, 274, 275, 54, 276, 277, 278, 279, 820, 821, 822, 823, 824, 825, 842, 843, 844, 845, 846, 847, 848, 849, 850, 861, 862, 851, 852, 853, 854, 855, 856, 857, 863, 864, 865, 866, 867, 868, 869, 870] (by decide +kernel) (by decide +kernel)) (goodIn_sub (fun _ h => List.mem_append_left _ (List.mem_append_right _ h)) (by decide +kernel))
set_option maxRecDepth 20000 in
theorem gL_law_L_removeWord : GoodIn wsL_law (va_wsS RL 85 yL_removeWord wsL_removeWord) := goodIn_app (goodIn_of _ (by decide +kernel)) ggL_law_L_removeWord
set_option maxRecDepth 20000 in
theorem ggL_law_X6_removeWord : GoodIn wsL_law wsX6_removeWord := goodIn_r _ [331, 77, 332, 333, 334, 5, 335, 284, 285, 286, 287, 288, 292, 293, 294, 295, 79, 304, 305, 306, 307, 308, 78, 309, 310, 311, 312, 826, 827, 828, 829, 830, 831, 832, 833, 834, 835, 836, 837, 838, 839, 840, 841] (by decide +kernel) (by decide +kernel)
set_option maxRecDepth 20000 in
theorem gL_law_X6_removeWord : GoodIn wsL_law (wsV RL 88 RX6 yX6_removeWord wsX6_removeWord) := goodIn_app (goodIn_of _ (by decide +kernel)) ggL_law_X6_removeWord
set_option maxRecDepth 20000 in
theorem ggL_law_L_endParagraph : GoodIn wsL_law wsL_endParagraph := goodIn_ca (goodIn_r _ [338, 90, 339, 340, 341, 2, 342, 16, 99, 30, 100, 101, 102, 103, 104, 119, 120, 121, 29, 122, 123, 124, 125, 126, 127, 72, 128, 129, 130, 131, 132, 133, 134, 15, 135, 48, 136, 137, 138, 139, 49, 140, 141, 142, 143, 144, 35, 36, 37, 38, 39, 41, 343, 344, 345, 346, 161, 162, 163, 164, 347, 348, 349, 350, 169, 170, 171, 172, 20, 173, 174, 175, 176, 177, 178, 179, 19, 180, 181, 56, 182, 183, 184, 185, 186, 187, 188, 189, 60, 190, 191, 192, 193, 194, 59, 195, 196, 197, 155, 198, 199, 200, 201, 202, 154, 156, 203, 204, 205, 206, 207, 208, 209, 210, 211, 212, 213, 214, 215, 216, 217, 218, 219, 220, 221, 222, 223, 224, 225, 226, 227, 228, 229, 230, 231, 232, 233, 234, 235, 236, 237, 238, 239, 240, 241, 242, 243, 244, 245, 246, 247, 248, 249, 250, 251, 252, 53, 253, 254, 255, 256, 257, 258, 259, 55, 260, 261, 262, 263, 264, 265, 266, 267, 268, 269, 270, 271, 272, 273, 274, 275, 54, 276, 277, 278, 279, 820, 821, 822, 823, 824, 825, 842, 843, 844, 845, 846, 847, 848, 849, 850, 861, 862, 851, 852, 853, 854, 855, 856, 857, 863, 864, 865, 866, 867, 868, 869, 870] (by decide +kernel) (by decide +kernel)) (goodIn_sub (fun _ h => List.mem_append_left _ (List.mem_append_right _ h)) (by decide +kernel))
set_option maxRecDepth 20000 in
theorem gL_law_L_endParagraph : GoodIn wsL_law (va_wsS RL 89 yL_endParagraph wsL_endParagraph) := goodIn_app (goodIn_of _ (by decide +kernel)) ggL_law_L_endParagraph
set_option maxRecDepth 20000 in
theorem ggL_law_X6_endParagraph : GoodIn wsL_law wsX6_endParagraph := goodIn_r _ [354, 332, 333, 334, 5, 335, 77, 284, 285, 286, 287, 288, 292, 293, 294, 295, 79, 355, 356, 357, 358, 300, 301, 302, 303, 304, 305, 306, 307, 308, 78, 309, 310, 311, 312, 826, 827, 828, 829, 830, 831, 832, 833, 834, 835, 836, 837, 838, 839, 840, 841] (by decide +kernel) (by decide +kernel)
set_option maxRecDepth 20000 in
theorem gL_law_X6_endParagraph : GoodIn wsL_law (wsV RL 92 RX6 yX6_endParagraph wsX6_endParagraph) := goodIn_app (goodIn_of _ (by decide +kernel)) ggL_law_X6_endParagraph
set_option maxRecDepth 20000 in
theorem ggL_law_L_setSigns : GoodIn wsL_law wsL_setSigns := goodIn_ca (goodIn_ca (goodIn_r _ [361, 90, 91, 362, 363, 364, 2, 365, 16, 99, 30, 100, 101, 102, 103, 104, 110, 111, 112, 108, 109, 113, 114, 115, 116, 117, 118, 119, 120, 121, 29, 122, 123, 124, 125, 126, 127, 72, 128, 129, 130, 131, 132, 133, 134, 15, 135, 48, 136, 137, 138, 139, 49, 140, 141, 142, 143, 144, 35, 36, 37, 38, 39, 41, 165, 166, 167, 168, 161, 162, 163, 164, 169, 170, 171, 172, 20, 173, 174, 175, 176, 177, 178, 179, 19, 180, 181, 56, 182, 183, 184, 185, 186, 187, 188, 189, 60, 190, 191, 192, 193, 194, 59, 195, 196, 197, 155, 198, 199, 200, 201, 202, 154, 156, 203, 204, 205, 206, 207, 208, 209, 210, 211, 212, 213, 214, 215, 216, 217, 218, 219, 220, 221, 222, 223, 224, 225, 226, 227, 228, 229, 230, 231, 232, 233, 234, 235, 236, 237, 238, 239, 240, 241, 242, 243, 244, 245, 246, 247, 248, 249, 250, 251, 252, 53, 253, 254, 255, 256, 257, 258, 259, 55, 260, 261, 262, 263, 264, 265, 266, 267, 268, 269, 270, 271, 272, 273, 274, 275, 54, 276, 277, 278, 279, 366, 820, 821, 822, 823, 824, 825, 842, 843, 844, 845, 846, 847, 848, 849, 850, 861, 862, 851, 852, 853, 854, 855, 856, 857, 863, 864, 865, 866, 867, 868, 869, 870] (by decide +kernel) (by decide +kernel)) (goodIn_sub (fun _ h => List.mem_append_left _ (List.mem_append_right _ h)) (by decide +kernel))) (goodIn_sub (fun _ h => List.mem_append_right _ h) (by decide +kernel))
set_option maxRecDepth 20000 in
theorem gL_law_L_setSigns : GoodIn wsL_law (va_wsS RL 93 yL_setSigns wsL_setSigns) := goodIn_app (goodIn_of _ (by decide +kernel)) ggL_law_L_setSigns
set_option maxRecDepth 20000 in
theorem ggL_law_X6_setSigns : GoodIn wsL_law wsX6_setSigns := goodIn_r _ [370, 332, 333, 334, 5, 335, 77, 284, 285, 286, 287, 288, 289, 290, 291, 83, 84, 85, 292, 293, 294, 295, 79, 300, 301, 302, 303, 371, 372, 373, 374, 355, 356, 357, 358, 375, 376, 377, 378, 379, 380, 304, 305, 306, 307, 308, 78, 309, 310, 311, 312, 826, 827, 828, 829, 830, 831, 832, 833, 834, 835, 836, 837, 838, 839, 840, 841] (by decide +kernel) (by decide +kernel)
set_option maxRecDepth 20000 in
theorem gL_law_X6_setSigns : GoodIn wsL_law (wsV RL 96 RX6 yX6_setSigns wsX6_setSigns) := goodIn_app (goodIn_of _ (by decide +kernel)) ggL_law_X6_setSigns
set_option maxRecDepth 20000 in
theorem ggL_law_L_set : GoodIn wsL_law wsL_set := goodIn_ca (goodIn_r _ [383, 91, 384, 385, 386, 2, 387, 388, 389, 30, 16, 390, 105, 106, 107, 108, 109, 119, 120, 121, 29, 122, 123, 124, 125, 126, 127, 72, 128, 129, 130, 131, 132, 133, 134, 15, 135, 48, 136, 137, 138, 139, 49, 140, 141, 142, 143, 144, 35, 36, 37, 38, 39, 41, 173, 174, 175, 176, 169, 170, 171, 172, 20, 177, 178, 179, 19, 180, 181, 56, 182, 183, 184, 185, 186, 187, 188, 189, 60, 190, 191, 192, 193, 194, 59, 195, 196, 197, 155, 198, 199, 200, 201, 202, 154, 156, 203, 204, 205, 206, 207, 161, 162, 163, 164, 208, 209, 210, 211, 212, 213, 214, 215, 216, 217, 218, 219, 220, 221, 222, 223, 224, 225, 226, 227, 228, 229, 230, 231, 232, 233, 234, 235, 236, 237, 238, 239, 240, 241, 242, 243, 244, 245, 246, 247, 248, 249, 250, 251, 252, 53, 253, 254, 255, 256, 257, 258, 259, 55, 260, 261, 262, 263, 264, 265, 266, 267, 268, 269, 270, 271, 272, 273, 274, 275, 54, 276, 277, 278, 279, 820, 821, 822, 823, 824, 825, 842, 843, 844, 845, 846, 847, 848, 849, 850, 861, 862, 851, 852, 853, 854, 855, 856, 857, 863, 864, 865, 866, 867, 868, 869, 870] (by decide +kernel) (by decide +kernel)) (goodIn_sub (fun _ h => List.mem_append_right _ h) (by decide +kernel))
set_option maxRecDepth 20000 in
theorem gL_law_L_set : GoodIn wsL_law (va_wsS RL 97 yL_set wsL_set) := goodIn_app (goodIn_of _ (by decide +kernel)) ggL_law_L_set
set_option maxRecDepth 20000 in
theorem ggL_law_X6_set : GoodIn wsL_law wsX6_set := goodIn_r _ [394, 77, 395, 396, 5, 397, 83, 84, 85, 284, 285, 286, 287, 288, 292, 293, 294, 295, 79, 304, 305, 306, 307, 308, 78, 309, 310, 311, 312, 826, 827, 828, 829, 830, 831, 832, 833, 834, 835, 836, 837, 838, 839, 840, 841] (by decide +kernel) (by decide +kernel)
set_option maxRecDepth 20000 in
theorem gL_law_X6_set : GoodIn wsL_law (wsV RL 100 RX6 yX6_set wsX6_set) := goodIn_app (goodIn_of _ (by decide +kernel)) ggL_law_X6_set
set_option maxRecDepth 20000 in
theorem ggL_law_L_setShare : GoodIn wsL_law wsL_setShare := goodIn_ca (goodIn_ca (goodIn_r _ [400, 90, 91, 401, 402, 403, 2, 404, 30, 16, 405, 100, 101, 102, 103, 104, 105, 106, 107, 108, 109, 119, 120, 121, 29, 122, 123, 124, 125, 126, 127, 72, 128, 129, 130, 131, 132, 133, 134, 15, 135, 48, 136, 137, 138, 139, 49, 140, 141, 142, 143, 144, 35, 36, 37, 38, 39, 41, 406, 229, 230, 231, 169, 170, 171, 172, 20, 173, 174, 175, 176, 177, 178, 179, 19, 180, 181, 56, 182, 183, 184, 185, 186, 187, 188, 189, 60, 190, 191, 192, 193, 194, 59, 195, 196, 197, 155, 198, 199, 200, 201, 202, 154, 156, 203, 204, 205, 206, 207, 161, 162, 163, 164, 208, 209, 210, 211, 212, 213, 214, 215, 216, 217, 218, 219, 220, 221, 222, 223, 224, 225, 226, 227, 228, 232, 233, 234, 235, 236, 237, 238, 239, 240, 241, 242, 243, 244, 245, 246, 247, 248, 249, 250, 251, 252, 53, 253, 254, 255, 256, 257, 258, 259, 55, 260, 261, 262, 263, 264, 265, 266, 267, 268, 269, 270, 271, 272, 273, 274, 275, 54, 276, 277, 278, 279, 820, 821, 822, 823, 824, 825, 842, 843, 844, 845, 846, 847, 848, 849, 850, 861, 862, 851, 852, 853, 854, 855, 856, 857, 863, 864, 865, 866, 867, 868, 869, 870] (by decide +kernel) (by decide +kernel)) (goodIn_sub (fun _ h => List.mem_append_left _ (List.mem_append_right _ h)) (by decide +kernel))) (goodIn_sub (fun _ h => List.mem_append_right _ h) (by decide +kernel))
set_option maxRecDepth 20000 in
theorem gL_law_L_setShare : GoodIn wsL_law (va_wsS RL 101 yL_setShare wsL_setShare) := goodIn_app (goodIn_of _ (by decide +kernel)) ggL_law_L_setShare
set_option maxRecDepth 20000 in
theorem ggL_law_X6_setShare : GoodIn wsL_law wsX6_setShare := goodIn_r _ [410, 77, 83, 84, 5, 85, 284, 285, 286, 287, 288, 292, 293, 294, 295, 79, 304, 305, 306, 307, 308, 78, 309, 310, 311, 312, 826, 827, 828, 829, 830, 831, 832, 833, 834, 835, 836, 837, 838, 839, 840, 841] (by decide +kernel) (by decide +kernel)
set_option maxRecDepth 20000 in
theorem gL_law_X6_setShare : GoodIn wsL_law (wsV RL 103 RX6 yX6_setShare wsX6_setShare) := goodIn_app (goodIn_of _ (by decide +kernel)) ggL_law_X6_setShare
set_option maxRecDepth 20000 in
theorem ggL_law_L_word : GoodIn wsL_law wsL_word := goodIn_ca (goodIn_ca (goodIn_r _ [413, 90, 91, 414, 415, 416, 2, 417, 16, 99, 100, 101, 102, 103, 104, 105, 106, 107, 108, 109, 418, 419, 420, 421, 20, 422, 423, 424, 19, 425, 55, 426, 427, 428, 15, 429, 36, 161, 162, 163, 164, 144, 366, 205, 206, 207, 37, 38, 39, 208, 209, 210, 430, 221, 222, 223, 431, 233, 234, 235, 343, 344, 345, 346, 41, 432, 269, 270, 271, 53, 433, 434, 435, 436, 820, 821, 822, 823, 824, 825, 842, 843, 844, 845, 846, 847, 848, 849, 850, 851, 852, 853, 854, 855, 856, 857] (by decide +kernel) (by decide +kernel)) (goodIn_sub (fun _ h => List.mem_append_left _ (List.mem_append_right _ h)) (by decide +kernel))) (goodIn_sub (fun _ h => List.mem_append_right _ h) (by decide +kernel))
set_option maxRecDepth 20000 in
theorem gL_law_L_word : GoodIn wsL_law (va_wsS RL 104 yL_word wsL_word) := goodIn_app (goodIn_of _ (by decide +kernel)) ggL_law_L_word
set_option maxRecDepth 20000 in
theorem ggL_law_X6_word : GoodIn wsL_law wsX6_word := goodIn_r _ [440, 332, 333, 334, 5, 335, 77, 284, 285, 286, 287, 288, 83, 84, 85, 441, 442, 443, 444, 445, 446, 447, 448, 449, 450, 451, 452, 453, 454, 455, 456, 457, 81, 82, 458, 459, 460, 461, 355, 356, 357, 358, 462, 463, 464, 465, 375, 376, 377, 371, 372, 373, 374, 378, 379, 380, 466, 467, 468, 469, 470, 471, 472, 473, 474, 475, 476, 477, 478, 479, 480, 481, 309, 310, 311, 312, 826, 827, 828, 829, 830, 831, 832, 833, 834, 835, 836, 837, 838, 839, 840, 841] (by decide +kernel) (by decide +kernel)
set_option maxRecDepth 20000 in
theorem gL_law_X6_word : GoodIn wsL_law (wsV RL 106 RX6 yX6_word wsX6_word) := goodIn_app (goodIn_of _ (by decide +kernel)) ggL_law_X6_word
set_option maxRecDepth 20000 in
theorem ggL_law_L_line : GoodIn wsL_law wsL_line := goodIn_ca (goodIn_ca (goodIn_r _ [484, 90, 91, 485, 486, 487, 2, 488, 20, 489, 100, 101, 102, 103, 104, 105, 106, 107, 108, 109, 432, 269, 270, 19, 271, 53, 820, 821, 822, 823, 824, 825, 851, 852, 853, 854, 855, 856, 857] (by decide +kernel) (by decide +kernel)) (goodIn_sub (fun _ h => List.mem_append_left _ (List.mem_append_right _ h)) (by decide +kernel))) (goodIn_sub (fun _ h => List.mem_append_right _ h) (by decide +kernel))
set_option maxRecDepth 20000 in
theorem gL_law_L_line : GoodIn wsL_law (va_wsS RL 107 yL_line wsL_line) := goodIn_app (goodIn_of _ (by decide +kernel)) ggL_law_L_line
set_option maxRecDepth 20000 in
theorem ggL_law_X6_line : GoodIn wsL_law wsX6_line := goodIn_r _ [493, 452, 441, 442, 443, 5, 444, 77, 445, 446, 447, 448, 449, 450, 451, 453, 454, 455, 456, 457, 81, 82, 458, 459, 460, 461, 355, 356, 357, 358, 462, 463, 464, 465, 375, 376, 377, 371, 372, 373, 374, 378, 379, 380, 466, 467, 468, 469, 284, 285, 286, 287, 288, 83, 84, 85, 494, 495, 496, 497, 498, 499, 500, 501, 502, 503, 504, 505, 506, 507, 508, 509, 309, 310, 311, 312, 826, 827, 828, 829, 830, 831, 832, 833, 834, 835, 836, 837, 838, 839, 840, 841] (by decide +kernel) (by decide +kernel)
set_option maxRecDepth 20000 in
theorem gL_law_X6_line : GoodIn wsL_law (wsV RL 109 RX6 yX6_line wsX6_line) := goodIn_app (goodIn_of _ (by decide +kernel)) ggL_law_X6_line
set_option maxRecDepth 20000 in
theorem ggL_law_L_page : GoodIn wsL_law wsL_page := goodIn_ca (goodIn_ca (goodIn_r _ [512, 90, 91, 513, 514, 515, 2, 516, 20, 517, 100, 101, 102, 103, 104, 105, 106, 107, 108, 109, 518, 519, 520, 19, 521, 54, 820, 821, 822, 823, 824, 825, 851, 852, 853, 854, 855, 856, 857] (by decide +kernel) (by decide +kernel)) (goodIn_sub (fun _ h => List.mem_append_left _ (List.mem_append_right _ h)) (by decide +kernel))) (goodIn_sub (fun _ h => List.mem_append_right _ h) (by decide +kernel))
set_option maxRecDepth 20000 in
theorem gL_law_L_page : GoodIn wsL_law (va_wsS RL 110 yL_page wsL_page) := goodIn_app (goodIn_of _ (by decide +kernel)) ggL_law_L_page
set_option maxRecDepth 20000 in
theorem ggL_law_X6_page : GoodIn wsL_law wsX6_page := goodIn_r _ [525, 453, 441, 442, 443, 5, 444, 77, 445, 446, 447, 448, 449, 450, 451, 452, 454, 455, 456, 457, 81, 82, 458, 459, 460, 461, 355, 356, 357, 358, 462, 463, 464, 465, 375, 376, 377, 371, 372, 373, 374, 378, 379, 380, 466, 467, 468, 469, 284, 285, 286, 287, 288, 83, 84, 85, 526, 527, 528, 529, 506, 507, 508, 509, 309, 310, 311, 312, 826, 827, 828, 829, 830, 831, 832, 833, 834, 835, 836, 837, 838, 839, 840, 841] (by decide +kernel) (by decide +kernel)
set_option maxRecDepth 20000 in
theorem gL_law_X6_page : GoodIn wsL_law (wsV RL 112 RX6 yX6_page wsX6_page) := goodIn_app (goodIn_of _ (by decide +kernel)) ggL_law_X6_page
set_option maxRecDepth 20000 in
theorem ggL_law_L_whole : GoodIn wsL_law wsL_whole := goodIn_ca (goodIn_r _ [532, 91, 533, 534, 535, 2, 536, 105, 106, 107, 108, 109, 537, 538, 539, 540, 16, 99, 20, 489, 517, 25, 541, 542, 543, 544, 15, 545, 144, 546, 241, 242, 243, 41, 161, 162, 163, 164, 547, 548, 549, 19, 550, 183, 276, 277, 278, 279, 268, 269, 270, 271, 53, 551, 552, 553, 554, 173, 174, 175, 176, 48, 820, 821, 822, 823, 824, 825, 842, 843, 844, 845, 846, 847, 848, 849, 850, 851, 852, 853, 854, 855, 856, 857, 858, 859, 860] (by decide +kernel) (by decide +kernel)) (goodIn_sub (fun _ h => List.mem_append_right _ h) (by decide +kernel))
set_option maxRecDepth 20000 in
theorem gL_law_L_whole : GoodIn wsL_law (va_wsS RL 113 yL_whole wsL_whole) := goodIn_app (goodIn_of _ (by decide +kernel)) ggL_law_L_whole
set_option maxRecDepth 20000 in
theorem ggL_law_X6_whole : GoodIn wsL_law wsX6_whole := goodIn_r _ [558, 83, 84, 5, 85, 284, 285, 286, 287, 288, 441, 442, 443, 444, 77, 445, 446, 447, 448, 449, 450, 451, 452, 453, 454, 455, 456, 457, 81, 82, 458, 459, 460, 461, 355, 356, 357, 358, 462, 463, 464, 465, 375, 376, 377, 371, 372, 373, 374, 378, 379, 380, 466, 467, 468, 469, 559, 560, 561, 562, 563, 564, 565, 566, 567, 568, 569, 570, 571, 506, 507, 508, 509, 309, 310, 311, 312, 826, 827, 828, 829, 830, 831, 832, 833, 834, 835, 836, 837, 838, 839, 840, 841] (by decide +kernel) (by decide +kernel)
set_option maxRecDepth 20000 in
theorem gL_law_X6_whole : GoodIn wsL_law (wsV RL 115 RX6 yX6_whole wsX6_whole) := goodIn_app (goodIn_of _ (by decide +kernel)) ggL_law_X6_whole
set_option maxRecDepth 20000 in
theorem ggL_law_L_share : GoodIn wsL_law wsL_share := goodIn_ca (goodIn_r _ [574, 90, 575, 576, 577, 2, 578, 16, 100, 101, 102, 103, 104, 406, 229, 230, 15, 231, 49, 820, 821, 822, 823, 824, 825, 842, 843, 844, 845, 846, 847, 848, 849, 850] (by decide +kernel) (by decide +kernel)) (goodIn_sub (fun _ h => List.mem_append_left _ (List.mem_append_right _ h)) (by decide +kernel))
set_option maxRecDepth 20000 in
theorem gL_law_L_share : GoodIn wsL_law (va_wsS RL 116 yL_share wsL_share) := goodIn_app (goodIn_of _ (by decide +kernel)) ggL_law_L_share
set_option maxRecDepth 20000 in
theorem ggL_law_X6_share : GoodIn wsL_law wsX6_share := goodIn_r _ [582, 77, 83, 84, 5, 85, 309, 310, 311, 312, 288, 284, 285, 286, 287, 826, 827, 828, 829, 830, 831, 832, 833, 834, 835, 836, 837, 838, 839, 840, 841] (by decide +kernel) (by decide +kernel)
set_option maxRecDepth 20000 in
theorem gL_law_X6_share : GoodIn wsL_law (wsV RL 118 RX6 yX6_share wsX6_share) := goodIn_app (goodIn_of _ (by decide +kernel)) ggL_law_X6_share
set_option maxRecDepth 20000 in
theorem ggL_law_X5_unevenness : GoodIn wsL_law wsX5_unevenness := goodIn_r _ [586, 20, 587, 588, 589, 19, 590, 183, 268, 269, 270, 271, 53, 820, 821, 822, 823, 824, 825, 851, 852, 853, 854, 855, 856, 857] (by decide +kernel) (by decide +kernel)
set_option maxRecDepth 20000 in
theorem gL_law_X5_unevenness : GoodIn wsL_law (wsV RL 119 RX5 yX5_unevenness wsX5_unevenness) := goodIn_app (goodIn_of _ (by decide +kernel)) ggL_law_X5_unevenness
set_option maxRecDepth 20000 in
theorem ggL_law_X6_unevenness : GoodIn wsL_law wsX6_unevenness := goodIn_r _ [594, 441, 442, 443, 5, 444, 77, 445, 446, 447, 448, 449, 450, 451, 452, 453, 454, 455, 456, 457, 81, 82, 458, 459, 460, 461, 355, 356, 357, 358, 462, 463, 464, 465, 375, 376, 377, 371, 372, 373, 374, 378, 379, 380, 466, 467, 468, 469, 595, 596, 597, 598, 498, 499, 500, 501, 502, 503, 504, 505, 506, 507, 508, 509, 309, 310, 311, 312, 288, 826, 827, 828, 829, 830, 831, 832, 833, 834, 835, 836, 837, 838, 839, 840, 841] (by decide +kernel) (by decide +kernel)
set_option maxRecDepth 20000 in
theorem gL_law_X6_unevenness : GoodIn wsL_law (wsV RL 122 RX6 yX6_unevenness wsX6_unevenness) := goodIn_app (goodIn_of _ (by decide +kernel)) ggL_law_X6_unevenness
set_option maxRecDepth 20000 in
theorem ggL_law_X5_meanEmpty : GoodIn wsL_law wsX5_meanEmpty := goodIn_r _ [602, 20, 489, 551, 552, 553, 19, 554, 183, 268, 269, 270, 271, 53, 820, 821, 822, 823, 824, 825, 851, 852, 853, 854, 855, 856, 857] (by decide +kernel) (by decide +kernel)
set_option maxRecDepth 20000 in
theorem gL_law_X5_meanEmpty : GoodIn wsL_law (wsV RL 123 RX5 yX5_meanEmpty wsX5_meanEmpty) := goodIn_app (goodIn_of _ (by decide +kernel)) ggL_law_X5_meanEmpty
set_option maxRecDepth 20000 in
theorem ggL_law_X6_meanEmpty : GoodIn wsL_law wsX6_meanEmpty := goodIn_r _ [606, 288, 452, 441, 442, 443, 5, 444, 77, 445, 446, 447, 448, 449, 450, 451, 453, 454, 455, 456, 457, 81, 82, 458, 459, 460, 461, 355, 356, 357, 358, 462, 463, 464, 465, 375, 376, 377, 371, 372, 373, 374, 378, 379, 380, 466, 467, 468, 469, 502, 503, 504, 505, 506, 507, 508, 509, 826, 827, 828, 829, 830, 831, 832, 833, 834, 835, 836, 837, 838, 839, 840, 841] (by decide +kernel) (by decide +kernel)
set_option maxRecDepth 20000 in
theorem gL_law_X6_meanEmpty : GoodIn wsL_law (wsV RL 127 RX6 yX6_meanEmpty wsX6_meanEmpty) := goodIn_app (goodIn_of _ (by decide +kernel)) ggL_law_X6_meanEmpty
set_option maxRecDepth 20000 in
theorem ggL_law_L_linesWith : GoodIn wsL_law wsL_linesWith := goodIn_ca (goodIn_r _ [609, 91, 610, 611, 612, 2, 613, 21, 489, 105, 106, 107, 108, 109, 614, 615, 616, 617, 16, 173, 174, 175, 15, 176, 48, 177, 178, 179, 19, 180, 181, 56, 182, 137, 138, 139, 183, 184, 185, 186, 187, 188, 189, 60, 190, 191, 192, 193, 194, 59, 195, 196, 197, 155, 198, 199, 200, 201, 202, 154, 156, 203, 204, 205, 206, 207, 37, 38, 39, 161, 162, 163, 164, 144, 208, 209, 210, 211, 212, 213, 214, 215, 216, 217, 218, 219, 220, 221, 222, 223, 224, 225, 226, 227, 228, 229, 230, 231, 49, 232, 233, 234, 235, 236, 237, 238, 239, 240, 241, 242, 243, 41, 244, 245, 246, 247, 248, 249, 250, 251, 252, 53, 253, 254, 255, 256, 257, 258, 259, 55, 260, 261, 262, 263, 264, 265, 266, 267, 268, 269, 270, 271, 272, 273, 274, 275, 54, 276, 277, 278, 279, 820, 821, 822, 823, 824, 825, 851, 852, 853, 854, 855, 856, 857, 842, 843, 844, 845, 846, 847, 848, 849, 850, 863, 864, 865, 866, 867, 868, 869, 870] (by decide +kernel) (by decide +kernel)) (goodIn_sub (fun _ h => List.mem_append_right _ h) (by decide +kernel))
set_option maxRecDepth 20000 in
theorem gL_law_L_linesWith : GoodIn wsL_law (va_wsS RL 128 yL_linesWith wsL_linesWith) := goodIn_app (goodIn_of _ (by decide +kernel)) ggL_law_L_linesWith
set_option maxRecDepth 20000 in
theorem ggL_law_X6_linesWith : GoodIn wsL_law wsX6_linesWith := goodIn_r _ [621, 77, 452, 83, 84, 5, 85, 284, 285, 286, 287, 288, 445, 446, 447, 448, 449, 450, 451, 453, 454, 455, 456, 457, 81, 82, 458, 459, 460, 461, 355, 356, 357, 358, 462, 463, 464, 465, 375, 376, 377, 371, 372, 373, 374, 378, 379, 380, 466, 467, 468, 469, 309, 310, 311, 312, 826, 827, 828, 829, 830, 831, 832, 833, 834, 835, 836, 837, 838, 839, 840, 841] (by decide +kernel) (by decide +kernel)
set_option maxRecDepth 20000 in
theorem gL_law_X6_linesWith : GoodIn wsL_law (wsV RL 130 RX6 yX6_linesWith wsX6_linesWith) := goodIn_app (goodIn_of _ (by decide +kernel)) ggL_law_X6_linesWith
set_option maxRecDepth 20000 in
theorem ggL_law_L_measureFor : GoodIn wsL_law wsL_measureFor := goodIn_ca (goodIn_r _ [624, 91, 625, 626, 627, 2, 628, 21, 489, 105, 106, 107, 108, 109, 614, 615, 616, 617, 16, 173, 174, 175, 15, 176, 48, 177, 178, 179, 19, 180, 181, 56, 182, 137, 138, 139, 183, 184, 185, 186, 187, 188, 189, 60, 190, 191, 192, 193, 194, 59, 195, 196, 197, 155, 198, 199, 200, 201, 202, 154, 156, 203, 204, 205, 206, 207, 37, 38, 39, 161, 162, 163, 164, 144, 208, 209, 210, 211, 212, 213, 214, 215, 216, 217, 218, 219, 220, 221, 222, 223, 224, 225, 226, 227, 228, 229, 230, 231, 49, 232, 233, 234, 235, 236, 237, 238, 239, 240, 241, 242, 243, 41, 244, 245, 246, 247, 248, 249, 250, 251, 252, 53, 253, 254, 255, 256, 257, 258, 259, 55, 260, 261, 262, 263, 264, 265, 266, 267, 268, 269, 270, 271, 272, 273, 274, 275, 54, 276, 277, 278, 279, 820, 821, 822, 823, 824, 825, 851, 852, 853, 854, 855, 856, 857, 842, 843, 844, 845, 846, 847, 848, 849, 850, 863, 864, 865, 866, 867, 868, 869, 870] (by decide +kernel) (by decide +kernel)) (goodIn_sub (fun _ h => List.mem_append_right _ h) (by decide +kernel))
set_option maxRecDepth 20000 in
theorem gL_law_L_measureFor : GoodIn wsL_law (va_wsS RL 131 yL_measureFor wsL_measureFor) := goodIn_app (goodIn_of _ (by decide +kernel)) ggL_law_L_measureFor
set_option maxRecDepth 20000 in
theorem ggL_law_X6_measureFor : GoodIn wsL_law wsX6_measureFor := goodIn_r _ [632, 77, 452, 83, 84, 5, 85, 284, 285, 286, 287, 288, 445, 446, 447, 448, 449, 450, 451, 453, 454, 455, 456, 457, 81, 82, 458, 459, 460, 461, 355, 356, 357, 358, 462, 463, 464, 465, 375, 376, 377, 371, 372, 373, 374, 378, 379, 380, 466, 467, 468, 469, 309, 310, 311, 312, 826, 827, 828, 829, 830, 831, 832, 833, 834, 835, 836, 837, 838, 839, 840, 841] (by decide +kernel) (by decide +kernel)
set_option maxRecDepth 20000 in
theorem gL_law_X6_measureFor : GoodIn wsL_law (wsV RL 133 RX6 yX6_measureFor wsX6_measureFor) := goodIn_app (goodIn_of _ (by decide +kernel)) ggL_law_X6_measureFor
set_option maxRecDepth 20000 in
theorem ggL_law_X5_linesUnlent : GoodIn wsL_law wsX5_linesUnlent := goodIn_r _ [636, 21, 16, 489, 173, 174, 175, 15, 176, 48, 177, 178, 179, 19, 180, 181, 56, 182, 137, 138, 139, 183, 184, 185, 186, 187, 188, 189, 60, 190, 191, 192, 193, 194, 59, 195, 196, 197, 155, 198, 199, 200, 201, 202, 154, 156, 203, 204, 205, 206, 207, 37, 38, 39, 161, 162, 163, 164, 144, 208, 2, 209, 210, 211, 212, 213, 214, 215, 216, 217, 218, 219, 220, 221, 222, 223, 224, 225, 226, 227, 228, 229, 230, 231, 49, 232, 233, 234, 235, 236, 237, 238, 239, 240, 241, 242, 243, 41, 244, 245, 246, 247, 248, 249, 250, 251, 252, 53, 253, 254, 255, 256, 257, 258, 259, 55, 260, 261, 262, 263, 264, 265, 266, 267, 268, 269, 270, 271, 272, 273, 274, 275, 54, 276, 277, 278, 279, 820, 821, 822, 823, 824, 825, 851, 852, 853, 854, 855, 856, 857, 842, 843, 844, 845, 846, 847, 848, 849, 850, 863, 864, 865, 866, 867, 868, 869, 870] (by decide +kernel) (by decide +kernel)
set_option maxRecDepth 20000 in
theorem gL_law_X5_linesUnlent : GoodIn wsL_law (wsV RL 134 RX5 yX5_linesUnlent wsX5_linesUnlent) := goodIn_app (goodIn_of _ (by decide +kernel)) ggL_law_X5_linesUnlent
set_option maxRecDepth 20000 in
theorem ggL_law_X6_linesUnlent : GoodIn wsL_law wsX6_linesUnlent := goodIn_r _ [640, 77, 452, 445, 446, 447, 5, 448, 449, 450, 451, 453, 454, 455, 456, 457, 81, 82, 458, 459, 460, 461, 355, 356, 357, 358, 462, 463, 464, 465, 375, 376, 377, 371, 372, 373, 374, 378, 379, 380, 466, 467, 468, 469, 309, 310, 311, 312, 288, 826, 827, 828, 829, 830, 831, 832, 833, 834, 835, 836, 837, 838, 839, 840, 841] (by decide +kernel) (by decide +kernel)
set_option maxRecDepth 20000 in
theorem gL_law_X6_linesUnlent : GoodIn wsL_law (wsV RL 137 RX6 yX6_linesUnlent wsX6_linesUnlent) := goodIn_app (goodIn_of _ (by decide +kernel)) ggL_law_X6_linesUnlent
set_option maxRecDepth 20000 in
theorem ggL_law_L_evenest : GoodIn wsL_law wsL_evenest := goodIn_ca (goodIn_r _ [643, 91, 644, 645, 646, 2, 647, 16, 648, 197, 155, 198, 649, 650, 154, 156, 21, 105, 106, 107, 108, 109, 173, 174, 175, 15, 176, 48, 614, 615, 616, 617, 177, 178, 179, 19, 180, 181, 56, 182, 137, 138, 139, 183, 184, 185, 186, 187, 188, 189, 60, 190, 191, 192, 193, 194, 59, 195, 196, 199, 200, 201, 202, 203, 204, 205, 206, 207, 37, 38, 39, 161, 162, 163, 164, 144, 208, 209, 210, 211, 212, 213, 214, 215, 216, 217, 218, 219, 220, 221, 222, 223, 224, 225, 226, 227, 228, 229, 230, 231, 49, 232, 233, 234, 235, 236, 237, 238, 239, 240, 241, 242, 243, 41, 244, 245, 246, 247, 248, 249, 250, 251, 252, 53, 253, 254, 255, 256, 257, 258, 259, 55, 260, 261, 262, 263, 264, 265, 266, 267, 268, 269, 270, 271, 272, 273, 274, 275, 54, 276, 277, 278, 279, 587, 588, 589, 590, 820, 821, 822, 823, 824, 825, 842, 843, 844, 845, 846, 847, 848, 849, 850, 851, 852, 853, 854, 855, 856, 857, 863, 864, 865, 866, 867, 868, 869, 870] (by decide +kernel) (by decide +kernel)) (goodIn_sub (fun _ h => List.mem_append_right _ h) (by decide +kernel))
set_option maxRecDepth 20000 in
theorem gL_law_L_evenest : GoodIn wsL_law (va_wsS RL 138 yL_evenest wsL_evenest) := goodIn_app (goodIn_of _ (by decide +kernel)) ggL_law_L_evenest
set_option maxRecDepth 20000 in
theorem ggL_law_X6_evenest : GoodIn wsL_law wsX6_evenest := goodIn_r _ [654, 77, 83, 84, 5, 85, 284, 285, 286, 287, 288, 445, 446, 447, 448, 449, 450, 451, 452, 453, 454, 455, 456, 457, 81, 82, 458, 459, 460, 461, 355, 356, 357, 358, 462, 463, 464, 465, 375, 376, 377, 371, 372, 373, 374, 378, 379, 380, 466, 467, 468, 469, 595, 596, 597, 598, 498, 499, 500, 501, 502, 503, 504, 505, 506, 507, 508, 509, 309, 310, 311, 312, 826, 827, 828, 829, 830, 831, 832, 833, 834, 835, 836, 837, 838, 839, 840, 841] (by decide +kernel) (by decide +kernel)
set_option maxRecDepth 20000 in
theorem gL_law_X6_evenest : GoodIn wsL_law (wsV RL 140 RX6 yX6_evenest wsX6_evenest) := goodIn_app (goodIn_of _ (by decide +kernel)) ggL_law_X6_evenest
set_option maxRecDepth 20000 in
theorem ggL_law_L_type : GoodIn wsL_law wsL_type := goodIn_ca (goodIn_ca (goodIn_r _ [657, 91, 92, 658, 659, 660, 2, 661, 97, 98, 25, 541, 105, 106, 107, 108, 109, 662, 663, 664, 24, 665, 666, 67, 820, 821, 822, 823, 824, 825, 858, 859, 860] (by decide +kernel) (by decide +kernel)) (goodIn_sub (fun _ h => List.mem_append_left _ (List.mem_append_left _ (List.mem_append_right _ h))) (by decide +kernel))) (goodIn_sub (fun _ h => List.mem_append_right _ h) (by decide +kernel))
set_option maxRecDepth 20000 in
theorem gL_law_L_type : GoodIn wsL_law (va_wsS RL 141 yL_type wsL_type) := goodIn_app (goodIn_of _ (by decide +kernel)) ggL_law_L_type
set_option maxRecDepth 20000 in
theorem ggL_law_X6_type : GoodIn wsL_law wsX6_type := goodIn_r _ [670, 563, 80, 83, 84, 5, 85, 284, 285, 286, 287, 288, 309, 310, 311, 312, 826, 827, 828, 829, 830, 831, 832, 833, 834, 835, 836, 837, 838, 839, 840, 841] (by decide +kernel) (by decide +kernel)
set_option maxRecDepth 20000 in
theorem gL_law_X6_type : GoodIn wsL_law (wsV RL 143 RX6 yX6_type wsX6_type) := goodIn_app (goodIn_of _ (by decide +kernel)) ggL_law_X6_type
set_option maxRecDepth 20000 in
theorem ggL_law_X5_clearText : GoodIn wsL_law wsX5_clearText := goodIn_r _ [674, 25, 541, 820, 821, 822, 823, 824, 825, 858, 859, 860] (by decide +kernel) (by decide +kernel)
set_option maxRecDepth 20000 in
theorem gL_law_X5_clearText : GoodIn wsL_law (wsV RL 144 RX5 yX5_clearText wsX5_clearText) := goodIn_app (goodIn_of _ (by decide +kernel)) ggL_law_X5_clearText
set_option maxRecDepth 20000 in
theorem ggL_law_X6_clearText : GoodIn wsL_law wsX6_clearText := goodIn_r _ [678, 563, 309, 310, 311, 5, 312, 288, 826, 827, 828, 829, 830, 831, 832, 833, 834, 835, 836, 837, 838, 839, 840, 841] (by decide +kernel) (by decide +kernel)
set_option maxRecDepth 20000 in
theorem gL_law_X6_clearText : GoodIn wsL_law (wsV RL 147 RX6 yX6_clearText wsX6_clearText) := goodIn_app (goodIn_of _ (by decide +kernel)) ggL_law_X6_clearText
set_option maxRecDepth 20000 in
theorem ggL_law_X5_readWords : GoodIn wsL_law wsX5_readWords := goodIn_r _ [682, 25, 26, 30, 16, 99, 683, 684, 685, 24, 686, 687, 688, 666, 67, 689, 690, 691, 692, 693, 694, 695, 696, 697, 146, 147, 15, 148, 144, 36, 37, 38, 39, 41, 149, 150, 151, 152, 153, 154, 155, 156, 35, 136, 137, 138, 139, 114, 2, 115, 698, 166, 167, 168, 161, 162, 163, 164, 699, 158, 159, 160, 700, 701, 702, 703, 117, 118, 704, 221, 222, 223, 705, 706, 707, 708, 709, 348, 349, 350, 119, 120, 121, 29, 122, 123, 124, 125, 126, 127, 72, 128, 129, 130, 131, 132, 133, 134, 135, 48, 49, 140, 141, 142, 143, 710, 169, 170, 171, 172, 20, 173, 174, 175, 176, 177, 178, 179, 19, 180, 181, 56, 182, 183, 184, 185, 186, 187, 188, 189, 60, 190, 191, 192, 193, 194, 59, 195, 196, 197, 198, 199, 200, 201, 202, 203, 204, 205, 206, 207, 208, 209, 210, 211, 212, 213, 214, 215, 216, 217, 218, 219, 220, 224, 225, 226, 227, 228, 229, 230, 231, 232, 233, 234, 235, 236, 237, 238, 239, 240, 241, 242, 243, 244, 245, 246, 247, 248, 249, 250, 251, 252, 53, 253, 254, 255, 256, 257, 258, 259, 55, 260, 261, 262, 263, 264, 265, 266, 267, 268, 269, 270, 271, 272, 273, 274, 275, 54, 276, 277, 278, 279, 820, 821, 822, 823, 824, 825, 842, 843, 844, 845, 846, 847, 848, 849, 850, 858, 859, 860, 861, 862, 851, 852, 853, 854, 855, 856, 857, 863, 864, 865, 866, 867, 868, 869, 870] (by decide +kernel) (by decide +kernel)
set_option maxRecDepth 20000 in
theorem gL_law_X5_readWords : GoodIn wsL_law (wsV RL 148 RX5 yX5_readWords wsX5_readWords) := goodIn_app (goodIn_of _ (by decide +kernel)) ggL_law_X5_readWords
set_option maxRecDepth 20000 in
theorem ggL_law_X6_readWords : GoodIn wsL_law wsX6_readWords := goodIn_r _ [714, 77, 715, 563, 79, 292, 293, 294, 5, 295, 716, 717, 718, 719, 80, 720, 721, 722, 723, 296, 297, 298, 299, 300, 301, 302, 303, 724, 725, 726, 727, 728, 729, 730, 83, 84, 85, 309, 310, 311, 312, 288, 304, 305, 306, 307, 308, 78, 826, 827, 828, 829, 830, 831, 832, 833, 834, 835, 836, 837, 838, 839, 840, 841] (by decide +kernel) (by decide +kernel)
set_option maxRecDepth 20000 in
theorem gL_law_X6_readWords : GoodIn wsL_law (wsV RL 151 RX6 yX6_readWords wsX6_readWords) := goodIn_app (goodIn_of _ (by decide +kernel)) ggL_law_X6_readWords
set_option maxRecDepth 20000 in
theorem ggL_law_L_lineByte : GoodIn wsL_law wsL_lineByte := goodIn_ca (goodIn_ca (goodIn_r _ [733, 90, 91, 734, 735, 736, 2, 737, 108, 109, 20, 489, 100, 101, 102, 103, 104, 738, 739, 740, 741, 16, 432, 269, 270, 19, 271, 53, 742, 743, 744, 15, 745, 746, 221, 222, 223, 38, 161, 162, 163, 164, 144, 747, 233, 234, 235, 39, 748, 427, 428, 429, 36, 749, 750, 751, 752, 35, 753, 754, 755, 820, 821, 822, 823, 824, 825, 851, 852, 853, 854, 855, 856, 857, 842, 843, 844, 845, 846, 847, 848, 849, 850] (by decide +kernel) (by decide +kernel)) (goodIn_sub (fun _ h => List.mem_append_right _ h) (by decide +kernel))) (goodIn_sub (fun _ h => List.mem_append_left _ (List.mem_append_right _ h)) (by decide +kernel))
set_option maxRecDepth 20000 in
theorem gL_law_L_lineByte : GoodIn wsL_law (va_wsS RL 152 yL_lineByte wsL_lineByte) := goodIn_app (goodIn_of _ (by decide +kernel)) ggL_law_L_lineByte
set_option maxRecDepth 20000 in
theorem ggL_law_X6_lineByte : GoodIn wsL_law wsX6_lineByte := goodIn_r _ [759, 452, 441, 442, 443, 5, 444, 77, 445, 446, 447, 448, 449, 450, 451, 453, 454, 455, 456, 457, 81, 82, 458, 459, 460, 461, 355, 356, 357, 358, 462, 463, 464, 465, 375, 376, 377, 371, 372, 373, 374, 378, 379, 380, 466, 467, 468, 469, 284, 285, 286, 287, 288, 760, 761, 762, 763, 728, 729, 730, 309, 310, 311, 312, 826, 827, 828, 829, 830, 831, 832, 833, 834, 835, 836, 837, 838, 839, 840, 841] (by decide +kernel) (by decide +kernel)
set_option maxRecDepth 20000 in
theorem gL_law_X6_lineByte : GoodIn wsL_law (wsV RL 154 RX6 yX6_lineByte wsX6_lineByte) := goodIn_app (goodIn_of _ (by decide +kernel)) ggL_law_X6_lineByte
set_option maxRecDepth 20000 in
theorem ggL_law_L_undo : GoodIn wsL_law wsL_undo := goodIn_ca (goodIn_r _ [766, 92, 767, 768, 769, 2, 770, 97, 98, 30, 771, 16, 772, 773, 774, 29, 775, 123, 128, 129, 130, 131, 72, 132, 133, 134, 15, 135, 48, 136, 137, 138, 139, 49, 140, 141, 142, 143, 144, 35, 36, 37, 38, 39, 41, 169, 170, 171, 172, 20, 173, 174, 175, 176, 177, 178, 179, 19, 180, 181, 56, 182, 183, 184, 185, 186, 187, 188, 189, 60, 190, 191, 192, 193, 194, 59, 195, 196, 197, 155, 198, 199, 200, 201, 202, 154, 156, 203, 204, 205, 206, 207, 161, 162, 163, 164, 208, 209, 210, 211, 212, 213, 214, 215, 216, 217, 218, 219, 220, 221, 222, 223, 224, 225, 226, 227, 228, 229, 230, 231, 232, 233, 234, 235, 236, 237, 238, 239, 240, 241, 242, 243, 244, 245, 246, 247, 248, 249, 250, 251, 252, 53, 253, 254, 255, 256, 257, 258, 259, 55, 260, 261, 262, 263, 264, 265, 266, 267, 268, 269, 270, 271, 272, 273, 274, 275, 54, 276, 277, 278, 279, 820, 821, 822, 823, 824, 825, 861, 862, 842, 843, 844, 845, 846, 847, 848, 849, 850, 851, 852, 853, 854, 855, 856, 857, 863, 864, 865, 866, 867, 868, 869, 870] (by decide +kernel) (by decide +kernel)) (goodIn_sub (fun _ h => List.mem_append_left _ (List.mem_append_left _ (List.mem_append_right _ h))) (by decide +kernel))
set_option maxRecDepth 20000 in
theorem gL_law_L_undo : GoodIn wsL_law (va_wsS RL 155 yL_undo wsL_undo) := goodIn_app (goodIn_of _ (by decide +kernel)) ggL_law_L_undo
set_option maxRecDepth 20000 in
theorem ggL_law_X6_undo : GoodIn wsL_law wsX6_undo := goodIn_r _ [779, 308, 77, 78, 284, 285, 286, 5, 287, 288, 309, 310, 311, 312, 826, 827, 828, 829, 830, 831, 832, 833, 834, 835, 836, 837, 838, 839, 840, 841] (by decide +kernel) (by decide +kernel)
set_option maxRecDepth 20000 in
theorem gL_law_X6_undo : GoodIn wsL_law (wsV RL 158 RX6 yX6_undo wsX6_undo) := goodIn_app (goodIn_of _ (by decide +kernel)) ggL_law_X6_undo
set_option maxRecDepth 20000 in
theorem ggL_law_X5_digest : GoodIn wsL_law wsX5_digest := goodIn_r _ [783, 784, 30, 771, 16, 785, 786, 2, 787, 788, 537, 538, 539, 540, 99, 20, 489, 517, 25, 541, 542, 543, 544, 15, 545, 144, 546, 241, 242, 243, 41, 161, 162, 163, 164, 547, 548, 549, 19, 550, 183, 276, 277, 278, 279, 268, 269, 270, 271, 53, 551, 552, 553, 554, 173, 174, 175, 176, 48, 406, 229, 230, 231, 49, 789, 790, 791, 792, 418, 419, 420, 421, 422, 423, 424, 425, 55, 426, 427, 428, 429, 36, 366, 205, 206, 207, 37, 38, 39, 208, 209, 210, 430, 221, 222, 223, 431, 233, 234, 235, 343, 344, 345, 346, 432, 433, 434, 435, 436, 793, 794, 795, 796, 797, 798, 799, 800, 650, 154, 155, 156, 742, 743, 744, 745, 746, 747, 748, 738, 739, 740, 741, 749, 750, 751, 752, 35, 753, 754, 755, 801, 802, 803, 804, 518, 519, 520, 521, 54, 820, 821, 822, 823, 824, 825, 861, 862, 842, 843, 844, 845, 846, 847, 848, 849, 850, 851, 852, 853, 854, 855, 856, 857, 858, 859, 860] (by decide +kernel) (by decide +kernel)
set_option maxRecDepth 20000 in
theorem gL_law_X5_digest : GoodIn wsL_law (wsV RL 159 RX5 yX5_digest wsX5_digest) := goodIn_app (goodIn_of _ (by decide +kernel)) ggL_law_X5_digest
set_option maxRecDepth 20000 in
theorem ggL_law_X6_digest : GoodIn wsL_law wsX6_digest := goodIn_r _ [808, 288, 809, 810, 308, 77, 452, 453, 441, 442, 443, 5, 444, 445, 446, 447, 448, 449, 450, 451, 454, 455, 456, 457, 81, 82, 458, 459, 460, 461, 355, 356, 357, 358, 462, 463, 464, 465, 375, 376, 377, 371, 372, 373, 374, 378, 379, 380, 466, 467, 468, 469, 811, 812, 813, 814, 815, 559, 560, 561, 562, 563, 564, 565, 566, 567, 568, 569, 570, 571, 506, 507, 508, 509, 470, 471, 472, 473, 474, 475, 476, 477, 478, 479, 480, 481, 816, 817, 818, 819, 494, 495, 496, 497, 498, 499, 500, 501, 502, 503, 504, 505, 760, 761, 762, 763, 728, 729, 730, 526, 527, 528, 529, 826, 827, 828, 829, 830, 831, 832, 833, 834, 835, 836, 837, 838, 839, 840, 841] (by decide +kernel) (by decide +kernel)
