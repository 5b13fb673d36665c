theorem dX6_pageTold_120 : decode cX6_pageTold 120 = .ok (.iadd, 1) := by decide +kernel
theorem dX6_pageTold_121 : decode cX6_pageTold 121 = .ok (.iaload, 1) := by decide +kernel
theorem dX6_pageTold_122 : decode cX6_pageTold 122 = .ok (.iadd, 1) := by decide +kernel
theorem dX6_pageTold_123 : decode cX6_pageTold 123 = .ok (.istore 5, 2) := by decide +kernel
theorem dX6_pageTold_125 : decode cX6_pageTold 125 = .ok (.iinc 6 1, 3) := by decide +kernel
theorem dX6_pageTold_128 : decode cX6_pageTold 128 = .ok (.goto (-42), 3) := by decide +kernel
theorem dX6_pageTold_131 : decode cX6_pageTold 131 = .ok (.iload 5, 2) := by decide +kernel
theorem dX6_pageTold_133 : decode cX6_pageTold 133 = .ok (.ireturn, 1) := by decide +kernel
set_option maxRecDepth 20000 in
theorem ggX6_page_X6_makes : GoodIn wsX6_page wsX6_makes := goodIn_r _ [6, 7, 8, 9, 10, 5, 11, 12, 13, 14, 15, 1, 16, 17, 18, 19, 20, 21, 22, 23, 24, 25, 26, 27, 28, 29, 30, 31, 32, 33, 34, 35, 36, 37, 38, 39, 40, 41, 42, 43, 44, 45, 46, 47, 68, 69, 70, 71, 72, 73, 74, 75, 76, 77, 78, 79, 80, 81, 82, 83] (by decide +kernel) (by decide +kernel)
set_option maxRecDepth 20000 in
theorem gX6_page_X6_makes : GoodIn wsX6_page (wsV RX6 130 RX6 yX6_makes wsX6_makes) := goodIn_app (goodIn_of _ (by decide +kernel)) ggX6_page_X6_makes
set_option maxRecDepth 20000 in
theorem ggX6_page_X6_fails : GoodIn wsX6_page wsX6_fails := goodIn_r _ [51, 52, 68, 69, 70, 71, 72, 73, 74, 75, 76, 77, 78, 79, 80, 81, 82, 83] (by decide +kernel) (by decide +kernel)
set_option maxRecDepth 20000 in
theorem gX6_page_X6_fails : GoodIn wsX6_page (wsV RX6 101 RX6 yX6_fails wsX6_fails) := goodIn_app (goodIn_of _ (by decide +kernel)) ggX6_page_X6_fails
set_option maxRecDepth 20000 in
theorem ggX6_page_X6_in : GoodIn wsX6_page wsX6_in := goodIn_r _ [55] (by decide +kernel) (by decide +kernel)
set_option maxRecDepth 20000 in
theorem gX6_page_X6_in : GoodIn wsX6_page (va_wsS RX6 28 yX6_in wsX6_in) := goodIn_app (goodIn_of _ (by decide +kernel)) ggX6_page_X6_in
set_option maxRecDepth 20000 in
theorem ggX6_page_X6_pageTold : GoodIn wsX6_page wsX6_pageTold := goodIn_r _ [59, 21, 20, 60, 61, 62, 5, 63, 68, 69, 70, 71, 72, 73, 74, 75, 76, 77, 78, 79, 80, 81, 82, 83] (by decide +kernel) (by decide +kernel)
set_option maxRecDepth 20000 in
theorem gX6_page_X6_pageTold : GoodIn wsX6_page (wsV RX6 139 RX6 yX6_pageTold wsX6_pageTold) := goodIn_app (goodIn_of _ (by decide +kernel)) ggX6_page_X6_pageTold
set_option maxRecDepth 20000 in
theorem ggX6_page_X6_tells : GoodIn wsX6_page wsX6_tells := goodIn_r _ [67, 52, 68, 69, 70, 71, 72, 73, 74, 75, 76, 77, 78, 79, 80, 81, 82, 83] (by decide +kernel) (by decide +kernel)
set_option maxRecDepth 20000 in
theorem gX6_page_X6_tells : GoodIn wsX6_page (wsV RX6 39 RX6 yX6_tells wsX6_tells) := goodIn_app (goodIn_of _ (by decide +kernel)) ggX6_page_X6_tells
theorem dX6_page_0 : decode cX6_page 0 = .ok (.aload_n 0, 1) := by decide +kernel
theorem dX6_page_1 : decode cX6_page 1 = .ok (.invokevirtual 130, 3) := by decide +kernel
theorem dX6_page_4 : decode cX6_page 4 = .ok (.iload_n 1, 1) := by decide +kernel
theorem dX6_page_5 : decode cX6_page 5 = .ok (.ifCond .lt 11, 3) := by decide +kernel
theorem dX6_page_8 : decode cX6_page 8 = .ok (.iload_n 1, 1) := by decide +kernel
theorem dX6_page_9 : decode cX6_page 9 = .ok (.aload_n 0, 1) := by decide +kernel
theorem dX6_page_10 : decode cX6_page 10 = .ok (.getfield 71, 3) := by decide +kernel
theorem dX6_page_13 : decode cX6_page 13 = .ok (.if_icmp .lt 9, 3) := by decide +kernel
theorem dX6_page_16 : decode cX6_page 16 = .ok (.aload_n 0, 1) := by decide +kernel
theorem dX6_page_17 : decode cX6_page 17 = .ok (.iconst 1, 1) := by decide +kernel
theorem dX6_page_18 : decode cX6_page 18 = .ok (.invokevirtual 101, 3) := by decide +kernel
theorem dX6_page_21 : decode cX6_page 21 = .ok (.ireturn, 1) := by decide +kernel
theorem dX6_page_22 : decode cX6_page 22 = .ok (.iload_n 2, 1) := by decide +kernel
theorem dX6_page_23 : decode cX6_page 23 = .ok (.iconst 0, 1) := by decide +kernel
theorem dX6_page_24 : decode cX6_page 24 = .ok (.iconst 5, 1) := by decide +kernel
theorem dX6_page_25 : decode cX6_page 25 = .ok (.invokestatic 28, 3) := by decide +kernel
theorem dX6_page_28 : decode cX6_page 28 = .ok (.ifCond .eq 16, 3) := by decide +kernel
theorem dX6_page_31 : decode cX6_page 31 = .ok (.aload_n 0, 1) := by decide +kernel
theorem dX6_page_32 : decode cX6_page 32 = .ok (.aload_n 0, 1) := by decide +kernel
theorem dX6_page_33 : decode cX6_page 33 = .ok (.iload_n 1, 1) := by decide +kernel
theorem dX6_page_34 : decode cX6_page 34 = .ok (.iload_n 2, 1) := by decide +kernel
theorem dX6_page_35 : decode cX6_page 35 = .ok (.invokevirtual 139, 3) := by decide +kernel
theorem dX6_page_38 : decode cX6_page 38 = .ok (.invokevirtual 39, 3) := by decide +kernel
theorem dX6_page_41 : decode cX6_page 41 = .ok (.goto 8, 3) := by decide +kernel
theorem dX6_page_44 : decode cX6_page 44 = .ok (.aload_n 0, 1) := by decide +kernel
theorem dX6_page_45 : decode cX6_page 45 = .ok (.iconst 2, 1) := by decide +kernel
theorem dX6_page_46 : decode cX6_page 46 = .ok (.invokevirtual 101, 3) := by decide +kernel
theorem dX6_page_49 : decode cX6_page 49 = .ok (.ireturn, 1) := by decide +kernel
set_option maxRecDepth 20000 in
theorem ggX6_paragraphs_X6_endsOne : GoodIn wsX6_paragraphs wsX6_endsOne := goodIn_r _ [6, 1, 7, 8, 9, 5, 10, 11, 12, 13, 14, 15, 16, 17, 18, 19, 20, 21, 22, 23, 24, 25, 26] (by decide +kernel) (by decide +kernel)
set_option maxRecDepth 20000 in
theorem gX6_paragraphs_X6_endsOne : GoodIn wsX6_paragraphs (wsV RX6 78 RX6 yX6_endsOne wsX6_endsOne) := goodIn_app (goodIn_of _ (by decide +kernel)) ggX6_paragraphs_X6_endsOne
theorem dX6_paragraphs_0 : decode cX6_paragraphs 0 = .ok (.iconst 0, 1) := by decide +kernel
theorem dX6_paragraphs_1 : decode cX6_paragraphs 1 = .ok (.istore_n 1, 1) := by decide +kernel
theorem dX6_paragraphs_2 : decode cX6_paragraphs 2 = .ok (.iconst 0, 1) := by decide +kernel
theorem dX6_paragraphs_3 : decode cX6_paragraphs 3 = .ok (.istore_n 2, 1) := by decide +kernel
theorem dX6_paragraphs_4 : decode cX6_paragraphs 4 = .ok (.iload_n 2, 1) := by decide +kernel
theorem dX6_paragraphs_5 : decode cX6_paragraphs 5 = .ok (.aload_n 0, 1) := by decide +kernel
theorem dX6_paragraphs_6 : decode cX6_paragraphs 6 = .ok (.getfield 7, 3) := by decide +kernel
theorem dX6_paragraphs_9 : decode cX6_paragraphs 9 = .ok (.bipush 14, 2) := by decide +kernel
theorem dX6_paragraphs_11 : decode cX6_paragraphs 11 = .ok (.iaload, 1) := by decide +kernel
theorem dX6_paragraphs_12 : decode cX6_paragraphs 12 = .ok (.if_icmp .ge 25, 3) := by decide +kernel
theorem dX6_paragraphs_15 : decode cX6_paragraphs 15 = .ok (.iload_n 1, 1) := by decide +kernel
theorem dX6_paragraphs_16 : decode cX6_paragraphs 16 = .ok (.aload_n 0, 1) := by decide +kernel
theorem dX6_paragraphs_17 : decode cX6_paragraphs 17 = .ok (.iload_n 2, 1) := by decide +kernel
theorem dX6_paragraphs_18 : decode cX6_paragraphs 18 = .ok (.invokevirtual 78, 3) := by decide +kernel
theorem dX6_paragraphs_21 : decode cX6_paragraphs 21 = .ok (.ifCond .eq 7, 3) := by decide +kernel
theorem dX6_paragraphs_24 : decode cX6_paragraphs 24 = .ok (.iconst 1, 1) := by decide +kernel
theorem dX6_paragraphs_25 : decode cX6_paragraphs 25 = .ok (.goto 4, 3) := by decide +kernel
theorem dX6_paragraphs_28 : decode cX6_paragraphs 28 = .ok (.iconst 0, 1) := by decide +kernel
theorem dX6_paragraphs_29 : decode cX6_paragraphs 29 = .ok (.iadd, 1) := by decide +kernel
theorem dX6_paragraphs_30 : decode cX6_paragraphs 30 = .ok (.istore_n 1, 1) := by decide +kernel
theorem dX6_paragraphs_31 : decode cX6_paragraphs 31 = .ok (.iinc 2 1, 3) := by decide +kernel
theorem dX6_paragraphs_34 : decode cX6_paragraphs 34 = .ok (.goto (-30), 3) := by decide +kernel
theorem dX6_paragraphs_37 : decode cX6_paragraphs 37 = .ok (.iload_n 1, 1) := by decide +kernel
theorem dX6_paragraphs_38 : decode cX6_paragraphs 38 = .ok (.ireturn, 1) := by decide +kernel
set_option maxRecDepth 20000 in
theorem ggX6_sumOf_X6_lent : GoodIn wsX6_sumOf wsX6_lent := goodIn_r _ [7, 2, 8, 9, 10, 11, 12, 13, 14, 15, 16, 17, 18, 19, 20, 21, 22, 23] (by decide +kernel) (by decide +kernel)
set_option maxRecDepth 20000 in
theorem gX6_sumOf_X6_lent : GoodIn wsX6_sumOf (wsV RX6 89 RX6 yX6_lent wsX6_lent) := goodIn_app (goodIn_of _ (by decide +kernel)) ggX6_sumOf_X6_lent
theorem dX6_sumOf_0 : decode cX6_sumOf 0 = .ok (.iconst 0, 1) := by decide +kernel
theorem dX6_sumOf_1 : decode cX6_sumOf 1 = .ok (.istore_n 2, 1) := by decide +kernel
theorem dX6_sumOf_2 : decode cX6_sumOf 2 = .ok (.iconst 0, 1) := by decide +kernel
theorem dX6_sumOf_3 : decode cX6_sumOf 3 = .ok (.istore_n 3, 1) := by decide +kernel
theorem dX6_sumOf_4 : decode cX6_sumOf 4 = .ok (.iload_n 3, 1) := by decide +kernel
theorem dX6_sumOf_5 : decode cX6_sumOf 5 = .ok (.aload_n 0, 1) := by decide +kernel
theorem dX6_sumOf_6 : decode cX6_sumOf 6 = .ok (.getfield 53, 3) := by decide +kernel
theorem dX6_sumOf_9 : decode cX6_sumOf 9 = .ok (.if_icmp .ge 60, 3) := by decide +kernel
theorem dX6_sumOf_12 : decode cX6_sumOf 12 = .ok (.iload_n 2, 1) := by decide +kernel
theorem dX6_sumOf_13 : decode cX6_sumOf 13 = .ok (.iload_n 1, 1) := by decide +kernel
theorem dX6_sumOf_14 : decode cX6_sumOf 14 = .ok (.bipush 10, 2) := by decide +kernel
theorem dX6_sumOf_16 : decode cX6_sumOf 16 = .ok (.if_icmp .ne 19, 3) := by decide +kernel
theorem dX6_sumOf_19 : decode cX6_sumOf 19 = .ok (.aload_n 0, 1) := by decide +kernel
theorem dX6_sumOf_20 : decode cX6_sumOf 20 = .ok (.iload_n 3, 1) := by decide +kernel
theorem dX6_sumOf_21 : decode cX6_sumOf 21 = .ok (.invokevirtual 89, 3) := by decide +kernel
theorem dX6_sumOf_24 : decode cX6_sumOf 24 = .ok (.ifCond .le 7, 3) := by decide +kernel
theorem dX6_sumOf_27 : decode cX6_sumOf 27 = .ok (.iconst 1, 1) := by decide +kernel
theorem dX6_sumOf_28 : decode cX6_sumOf 28 = .ok (.goto 33, 3) := by decide +kernel
theorem dX6_sumOf_31 : decode cX6_sumOf 31 = .ok (.iconst 0, 1) := by decide +kernel
theorem dX6_sumOf_32 : decode cX6_sumOf 32 = .ok (.goto 29, 3) := by decide +kernel
theorem dX6_sumOf_35 : decode cX6_sumOf 35 = .ok (.iload_n 1, 1) := by decide +kernel
theorem dX6_sumOf_36 : decode cX6_sumOf 36 = .ok (.bipush 11, 2) := by decide +kernel
theorem dX6_sumOf_38 : decode cX6_sumOf 38 = .ok (.if_icmp .ne 18, 3) := by decide +kernel
theorem dX6_sumOf_41 : decode cX6_sumOf 41 = .ok (.aload_n 0, 1) := by decide +kernel
theorem dX6_sumOf_42 : decode cX6_sumOf 42 = .ok (.getfield 22, 3) := by decide +kernel
theorem dX6_sumOf_45 : decode cX6_sumOf 45 = .ok (.bipush 10, 2) := by decide +kernel
theorem dX6_sumOf_47 : decode cX6_sumOf 47 = .ok (.iload_n 3, 1) := by decide +kernel
theorem dX6_sumOf_48 : decode cX6_sumOf 48 = .ok (.imul, 1) := by decide +kernel
theorem dX6_sumOf_49 : decode cX6_sumOf 49 = .ok (.bipush 9, 2) := by decide +kernel
theorem dX6_sumOf_51 : decode cX6_sumOf 51 = .ok (.iadd, 1) := by decide +kernel
theorem dX6_sumOf_52 : decode cX6_sumOf 52 = .ok (.iaload, 1) := by decide +kernel
theorem dX6_sumOf_53 : decode cX6_sumOf 53 = .ok (.goto 8, 3) := by decide +kernel
theorem dX6_sumOf_56 : decode cX6_sumOf 56 = .ok (.aload_n 0, 1) := by decide +kernel
theorem dX6_sumOf_57 : decode cX6_sumOf 57 = .ok (.iload_n 3, 1) := by decide +kernel
theorem dX6_sumOf_58 : decode cX6_sumOf 58 = .ok (.invokevirtual 89, 3) := by decide +kernel
theorem dX6_sumOf_61 : decode cX6_sumOf 61 = .ok (.iadd, 1) := by decide +kernel
theorem dX6_sumOf_62 : decode cX6_sumOf 62 = .ok (.istore_n 2, 1) := by decide +kernel
theorem dX6_sumOf_63 : decode cX6_sumOf 63 = .ok (.iinc 3 1, 3) := by decide +kernel
theorem dX6_sumOf_66 : decode cX6_sumOf 66 = .ok (.goto (-62), 3) := by decide +kernel
theorem dX6_sumOf_69 : decode cX6_sumOf 69 = .ok (.iload_n 2, 1) := by decide +kernel
theorem dX6_sumOf_70 : decode cX6_sumOf 70 = .ok (.ireturn, 1) := by decide +kernel
set_option maxRecDepth 20000 in
theorem ggX6_wholeOf_X6_paragraphs : GoodIn wsX6_wholeOf wsX6_paragraphs := goodIn_r _ [9, 1, 10, 11, 12, 8, 13, 14, 15, 16, 17, 27, 28, 29, 30, 31, 32, 33, 34, 35, 36, 37, 38, 39, 40, 41, 42] (by decide +kernel) (by decide +kernel)
set_option maxRecDepth 20000 in
theorem gX6_wholeOf_X6_paragraphs : GoodIn wsX6_wholeOf (wsV RX6 142 RX6 yX6_paragraphs wsX6_paragraphs) := goodIn_app (goodIn_of _ (by decide +kernel)) ggX6_wholeOf_X6_paragraphs
set_option maxRecDepth 20000 in
theorem ggX6_wholeOf_X6_sumOf : GoodIn wsX6_wholeOf wsX6_sumOf := goodIn_r _ [21, 2, 22, 23, 24, 25, 8, 26, 27, 28, 29, 30, 31, 32, 33, 34, 35, 36, 37, 38, 39, 40, 41, 42] (by decide +kernel) (by decide +kernel)
set_option maxRecDepth 20000 in
theorem gX6_wholeOf_X6_sumOf : GoodIn wsX6_wholeOf (wsV RX6 146 RX6 yX6_sumOf wsX6_sumOf) := goodIn_app (goodIn_of _ (by decide +kernel)) ggX6_wholeOf_X6_sumOf
theorem dX6_wholeOf_0 : decode cX6_wholeOf 0 = .ok (.iload_n 1, 1) := by decide +kernel
theorem dX6_wholeOf_1 : decode cX6_wholeOf 1 = .ok (.tableswitch 105 0 13 #[71, 79, 84, 89, 105, 105, 105, 105, 105, 105, 94, 94, 94, 100], 71) := by decide +kernel
theorem dX6_wholeOf_72 : decode cX6_wholeOf 72 = .ok (.aload_n 0, 1) := by decide +kernel
theorem dX6_wholeOf_73 : decode cX6_wholeOf 73 = .ok (.getfield 7, 3) := by decide +kernel
theorem dX6_wholeOf_76 : decode cX6_wholeOf 76 = .ok (.bipush 14, 2) := by decide +kernel
theorem dX6_wholeOf_78 : decode cX6_wholeOf 78 = .ok (.iaload, 1) := by decide +kernel
theorem dX6_wholeOf_79 : decode cX6_wholeOf 79 = .ok (.ireturn, 1) := by decide +kernel
theorem dX6_wholeOf_80 : decode cX6_wholeOf 80 = .ok (.aload_n 0, 1) := by decide +kernel
theorem dX6_wholeOf_81 : decode cX6_wholeOf 81 = .ok (.getfield 53, 3) := by decide +kernel
theorem dX6_wholeOf_84 : decode cX6_wholeOf 84 = .ok (.ireturn, 1) := by decide +kernel
theorem dX6_wholeOf_85 : decode cX6_wholeOf 85 = .ok (.aload_n 0, 1) := by decide +kernel
theorem dX6_wholeOf_86 : decode cX6_wholeOf 86 = .ok (.getfield 71, 3) := by decide +kernel
theorem dX6_wholeOf_89 : decode cX6_wholeOf 89 = .ok (.ireturn, 1) := by decide +kernel
theorem dX6_wholeOf_90 : decode cX6_wholeOf 90 = .ok (.aload_n 0, 1) := by decide +kernel
theorem dX6_wholeOf_91 : decode cX6_wholeOf 91 = .ok (.invokevirtual 142, 3) := by decide +kernel
theorem dX6_wholeOf_94 : decode cX6_wholeOf 94 = .ok (.ireturn, 1) := by decide +kernel
theorem dX6_wholeOf_95 : decode cX6_wholeOf 95 = .ok (.aload_n 0, 1) := by decide +kernel
theorem dX6_wholeOf_96 : decode cX6_wholeOf 96 = .ok (.iload_n 1, 1) := by decide +kernel
theorem dX6_wholeOf_97 : decode cX6_wholeOf 97 = .ok (.invokevirtual 146, 3) := by decide +kernel
theorem dX6_wholeOf_100 : decode cX6_wholeOf 100 = .ok (.ireturn, 1) := by decide +kernel
theorem dX6_wholeOf_101 : decode cX6_wholeOf 101 = .ok (.aload_n 0, 1) := by decide +kernel
theorem dX6_wholeOf_102 : decode cX6_wholeOf 102 = .ok (.getfield 149, 3) := by decide +kernel
theorem dX6_wholeOf_105 : decode cX6_wholeOf 105 = .ok (.ireturn, 1) := by decide +kernel
theorem dX6_wholeOf_106 : decode cX6_wholeOf 106 = .ok (.aload_n 0, 1) := by decide +kernel
theorem dX6_wholeOf_107 : decode cX6_wholeOf 107 = .ok (.getfield 7, 3) := by decide +kernel
theorem dX6_wholeOf_110 : decode cX6_wholeOf 110 = .ok (.iload_n 1, 1) := by decide +kernel
theorem dX6_wholeOf_111 : decode cX6_wholeOf 111 = .ok (.iconst 4, 1) := by decide +kernel
theorem dX6_wholeOf_112 : decode cX6_wholeOf 112 = .ok (.isub, 1) := by decide +kernel
theorem dX6_wholeOf_113 : decode cX6_wholeOf 113 = .ok (.iaload, 1) := by decide +kernel
theorem dX6_wholeOf_114 : decode cX6_wholeOf 114 = .ok (.ireturn, 1) := by decide +kernel
set_option maxRecDepth 20000 in
theorem ggX6_whole_X6_in : GoodIn wsX6_whole wsX6_in := goodIn_r _ [4] (by decide +kernel) (by decide +kernel)
set_option maxRecDepth 20000 in
theorem gX6_whole_X6_in : GoodIn wsX6_whole (va_wsS RX6 28 yX6_in wsX6_in) := goodIn_app (goodIn_of _ (by decide +kernel)) ggX6_whole_X6_in
set_option maxRecDepth 20000 in
theorem ggX6_whole_X6_fails : GoodIn wsX6_whole wsX6_fails := goodIn_r _ [8, 9, 77, 78, 79, 80, 81, 82, 83, 84, 85, 86, 87, 88, 89, 90, 91, 92] (by decide +kernel) (by decide +kernel)
set_option maxRecDepth 20000 in
theorem gX6_whole_X6_fails : GoodIn wsX6_whole (wsV RX6 101 RX6 yX6_fails wsX6_fails) := goodIn_app (goodIn_of _ (by decide +kernel)) ggX6_whole_X6_fails
set_option maxRecDepth 20000 in
theorem ggX6_whole_X6_makes : GoodIn wsX6_whole wsX6_makes := goodIn_r _ [13, 14, 15, 16, 17, 3, 18, 19, 20, 21, 22, 23, 24, 25, 26, 27, 28, 29, 30, 31, 32, 33, 34, 35, 36, 37, 38, 39, 40, 41, 42, 43, 44, 45, 46, 47, 48, 49, 50, 51, 52, 53, 54, 55, 77, 78, 79, 80, 81, 82, 83, 84, 85, 86, 87, 88, 89, 90, 91, 92] (by decide +kernel) (by decide +kernel)
set_option maxRecDepth 20000 in
theorem gX6_whole_X6_makes : GoodIn wsX6_whole (wsV RX6 130 RX6 yX6_makes wsX6_makes) := goodIn_app (goodIn_of _ (by decide +kernel)) ggX6_whole_X6_makes
set_option maxRecDepth 20000 in
theorem ggX6_whole_X6_wholeOf : GoodIn wsX6_whole wsX6_wholeOf := goodIn_r _ [59, 14, 22, 23, 60, 61, 62, 63, 3, 64, 52, 53, 54, 55, 34, 35, 36, 37, 65, 66, 67, 68, 28, 69, 70, 71, 72, 77, 78, 79, 80, 81, 82, 83, 84, 85, 86, 87, 88, 89, 90, 91, 92] (by decide +kernel) (by decide +kernel)
set_option maxRecDepth 20000 in
theorem gX6_whole_X6_wholeOf : GoodIn wsX6_whole (wsV RX6 152 RX6 yX6_wholeOf wsX6_wholeOf) := goodIn_app (goodIn_of _ (by decide +kernel)) ggX6_whole_X6_wholeOf
set_option maxRecDepth 20000 in
theorem ggX6_whole_X6_tells : GoodIn wsX6_whole wsX6_tells := goodIn_r _ [76, 9, 77, 78, 79, 80, 81, 82, 83, 84, 85, 86, 87, 88, 89, 90, 91, 92] (by decide +kernel) (by decide +kernel)
set_option maxRecDepth 20000 in
theorem gX6_whole_X6_tells : GoodIn wsX6_whole (wsV RX6 39 RX6 yX6_tells wsX6_tells) := goodIn_app (goodIn_of _ (by decide +kernel)) ggX6_whole_X6_tells
theorem dX6_whole_0 : decode cX6_whole 0 = .ok (.iload_n 1, 1) := by decide +kernel
theorem dX6_whole_1 : decode cX6_whole 1 = .ok (.iconst 0, 1) := by decide +kernel
theorem dX6_whole_2 : decode cX6_whole 2 = .ok (.bipush 13, 2) := by decide +kernel
theorem dX6_whole_4 : decode cX6_whole 4 = .ok (.invokestatic 28, 3) := by decide +kernel
theorem dX6_whole_7 : decode cX6_whole 7 = .ok (.ifCond .ne 9, 3) := by decide +kernel
theorem dX6_whole_10 : decode cX6_whole 10 = .ok (.aload_n 0, 1) := by decide +kernel
theorem dX6_whole_11 : decode cX6_whole 11 = .ok (.iconst 1, 1) := by decide +kernel
theorem dX6_whole_12 : decode cX6_whole 12 = .ok (.invokevirtual 101, 3) := by decide +kernel
theorem dX6_whole_15 : decode cX6_whole 15 = .ok (.ireturn, 1) := by decide +kernel
theorem dX6_whole_16 : decode cX6_whole 16 = .ok (.aload_n 0, 1) := by decide +kernel
theorem dX6_whole_17 : decode cX6_whole 17 = .ok (.invokevirtual 130, 3) := by decide +kernel
theorem dX6_whole_20 : decode cX6_whole 20 = .ok (.aload_n 0, 1) := by decide +kernel
theorem dX6_whole_21 : decode cX6_whole 21 = .ok (.aload_n 0, 1) := by decide +kernel
theorem dX6_whole_22 : decode cX6_whole 22 = .ok (.iload_n 1, 1) := by decide +kernel
theorem dX6_whole_23 : decode cX6_whole 23 = .ok (.invokevirtual 152, 3) := by decide +kernel
theorem dX6_whole_26 : decode cX6_whole 26 = .ok (.invokevirtual 39, 3) := by decide +kernel
theorem dX6_whole_29 : decode cX6_whole 29 = .ok (.ireturn, 1) := by decide +kernel
set_option maxRecDepth 20000 in
theorem ggX6_share_X6_in : GoodIn wsX6_share wsX6_in := goodIn_r _ [5] (by decide +kernel) (by decide +kernel)
set_option maxRecDepth 20000 in
theorem gX6_share_X6_in : GoodIn wsX6_share (va_wsS RX6 28 yX6_in wsX6_in) := goodIn_app (goodIn_of _ (by decide +kernel)) ggX6_share_X6_in
set_option maxRecDepth 20000 in
theorem ggX6_share_X6_tells : GoodIn wsX6_share wsX6_tells := goodIn_r _ [9, 10, 15, 16, 17, 18, 19, 20, 21, 22, 23, 24, 25, 26, 27, 28, 29, 30] (by decide +kernel) (by decide +kernel)
set_option maxRecDepth 20000 in
theorem gX6_share_X6_tells : GoodIn wsX6_share (wsV RX6 39 RX6 yX6_tells wsX6_tells) := goodIn_app (goodIn_of _ (by decide +kernel)) ggX6_share_X6_tells
set_option maxRecDepth 20000 in
theorem ggX6_share_X6_fails : GoodIn wsX6_share wsX6_fails := goodIn_r _ [14, 10, 15, 16, 17, 18, 19, 20, 21, 22, 23, 24, 25, 26, 27, 28, 29, 30] (by decide +kernel) (by decide +kernel)
set_option maxRecDepth 20000 in
theorem gX6_share_X6_fails : GoodIn wsX6_share (wsV RX6 101 RX6 yX6_fails wsX6_fails) := goodIn_app (goodIn_of _ (by decide +kernel)) ggX6_share_X6_fails
theorem dX6_share_0 : decode cX6_share 0 = .ok (.iload_n 1, 1) := by decide +kernel
theorem dX6_share_1 : decode cX6_share 1 = .ok (.iconst 0, 1) := by decide +kernel
theorem dX6_share_2 : decode cX6_share 2 = .ok (.bipush 7, 2) := by decide +kernel
theorem dX6_share_4 : decode cX6_share 4 = .ok (.invokestatic 28, 3) := by decide +kernel
theorem dX6_share_7 : decode cX6_share 7 = .ok (.ifCond .eq 19, 3) := by decide +kernel
theorem dX6_share_10 : decode cX6_share 10 = .ok (.aload_n 0, 1) := by decide +kernel
theorem dX6_share_11 : decode cX6_share 11 = .ok (.aload_n 0, 1) := by decide +kernel
theorem dX6_share_12 : decode cX6_share 12 = .ok (.getfield 7, 3) := by decide +kernel
theorem dX6_share_15 : decode cX6_share 15 = .ok (.bipush 6, 2) := by decide +kernel
theorem dX6_share_17 : decode cX6_share 17 = .ok (.iload_n 1, 1) := by decide +kernel
theorem dX6_share_18 : decode cX6_share 18 = .ok (.iadd, 1) := by decide +kernel
theorem dX6_share_19 : decode cX6_share 19 = .ok (.iaload, 1) := by decide +kernel
theorem dX6_share_20 : decode cX6_share 20 = .ok (.invokevirtual 39, 3) := by decide +kernel
theorem dX6_share_23 : decode cX6_share 23 = .ok (.goto 8, 3) := by decide +kernel
theorem dX6_share_26 : decode cX6_share 26 = .ok (.aload_n 0, 1) := by decide +kernel
theorem dX6_share_27 : decode cX6_share 27 = .ok (.iconst 1, 1) := by decide +kernel
theorem dX6_share_28 : decode cX6_share 28 = .ok (.invokevirtual 101, 3) := by decide +kernel
theorem dX6_share_31 : decode cX6_share 31 = .ok (.ireturn, 1) := by decide +kernel
set_option maxRecDepth 20000 in
theorem ggX6_unevenness_X6_makes : GoodIn wsX6_unevenness wsX6_makes := goodIn_r _ [5, 6, 7, 8, 9, 4, 10, 11, 12, 13, 14, 15, 16, 17, 18, 19, 20, 21, 22, 23, 24, 25, 26, 27, 28, 29, 30, 31, 32, 33, 34, 35, 36, 37, 38, 39, 40, 41, 42, 43, 44, 45, 46, 47, 69, 70, 71, 72, 73, 74, 75, 76, 77, 78, 79, 80, 81, 82, 83, 84] (by decide +kernel) (by decide +kernel)
set_option maxRecDepth 20000 in
theorem gX6_unevenness_X6_makes : GoodIn wsX6_unevenness (wsV RX6 130 RX6 yX6_makes wsX6_makes) := goodIn_app (goodIn_of _ (by decide +kernel)) ggX6_unevenness_X6_makes
set_option maxRecDepth 20000 in
theorem ggX6_unevenness_X6_unevennessNow : GoodIn wsX6_unevenness wsX6_unevennessNow := goodIn_r _ [51, 14, 52, 53, 54, 4, 55, 20, 44, 45, 46, 47, 6, 26, 27, 28, 29, 56, 57, 58, 59, 60, 61, 62, 63, 69, 70, 71, 72, 73, 74, 75, 76, 77, 78, 79, 80, 81, 82, 83, 84] (by decide +kernel) (by decide +kernel)
set_option maxRecDepth 20000 in
theorem gX6_unevenness_X6_unevennessNow : GoodIn wsX6_unevenness (wsV RX6 155 RX6 yX6_unevennessNow wsX6_unevennessNow) := goodIn_app (goodIn_of _ (by decide +kernel)) ggX6_unevenness_X6_unevennessNow
set_option maxRecDepth 20000 in
theorem ggX6_unevenness_X6_tells : GoodIn wsX6_unevenness wsX6_tells := goodIn_r _ [67, 68, 69, 70, 71, 72, 73, 74, 75, 76, 77, 78, 79, 80, 81, 82, 83, 84] (by decide +kernel) (by decide +kernel)
set_option maxRecDepth 20000 in
theorem gX6_unevenness_X6_tells : GoodIn wsX6_unevenness (wsV RX6 39 RX6 yX6_tells wsX6_tells) := goodIn_app (goodIn_of _ (by decide +kernel)) ggX6_unevenness_X6_tells
theorem dX6_unevenness_0 : decode cX6_unevenness 0 = .ok (.aload_n 0, 1) := by decide +kernel
theorem dX6_unevenness_1 : decode cX6_unevenness 1 = .ok (.invokevirtual 130, 3) := by decide +kernel
theorem dX6_unevenness_4 : decode cX6_unevenness 4 = .ok (.aload_n 0, 1) := by decide +kernel
theorem dX6_unevenness_5 : decode cX6_unevenness 5 = .ok (.aload_n 0, 1) := by decide +kernel
theorem dX6_unevenness_6 : decode cX6_unevenness 6 = .ok (.invokevirtual 155, 3) := by decide +kernel
theorem dX6_unevenness_9 : decode cX6_unevenness 9 = .ok (.invokevirtual 39, 3) := by decide +kernel
theorem dX6_unevenness_12 : decode cX6_unevenness 12 = .ok (.ireturn, 1) := by decide +kernel
set_option maxRecDepth 20000 in
theorem ggX6_meanEmpty_X6_makes : GoodIn wsX6_meanEmpty wsX6_makes := goodIn_r _ [7, 8, 9, 10, 11, 6, 12, 13, 14, 15, 2, 16, 17, 18, 19, 20, 21, 22, 23, 24, 25, 26, 27, 28, 29, 30, 31, 32, 33, 34, 35, 36, 37, 38, 39, 40, 41, 42, 43, 44, 45, 46, 47, 48, 57, 58, 59, 60, 61, 62, 63, 64, 65, 66, 67, 68, 69, 70, 71, 72] (by decide +kernel) (by decide +kernel)
set_option maxRecDepth 20000 in
theorem gX6_meanEmpty_X6_makes : GoodIn wsX6_meanEmpty (wsV RX6 130 RX6 yX6_makes wsX6_makes) := goodIn_app (goodIn_of _ (by decide +kernel)) ggX6_meanEmpty_X6_makes
set_option maxRecDepth 20000 in
theorem ggX6_meanEmpty_X6_empty : GoodIn wsX6_meanEmpty wsX6_empty := goodIn_r _ [52, 21, 53, 54, 55, 6, 56, 57, 58, 59, 60, 61, 62, 63, 64, 65, 66, 67, 68, 69, 70, 71, 72] (by decide +kernel) (by decide +kernel)
set_option maxRecDepth 20000 in
theorem gX6_meanEmpty_X6_empty : GoodIn wsX6_meanEmpty (wsV RX6 95 RX6 yX6_empty wsX6_empty) := goodIn_app (goodIn_of _ (by decide +kernel)) ggX6_meanEmpty_X6_empty
theorem dX6_meanEmpty_0 : decode cX6_meanEmpty 0 = .ok (.aload_n 0, 1) := by decide +kernel
theorem dX6_meanEmpty_1 : decode cX6_meanEmpty 1 = .ok (.iconst 0, 1) := by decide +kernel
theorem dX6_meanEmpty_2 : decode cX6_meanEmpty 2 = .ok (.putfield 32, 3) := by decide +kernel
theorem dX6_meanEmpty_5 : decode cX6_meanEmpty 5 = .ok (.aload_n 0, 1) := by decide +kernel
theorem dX6_meanEmpty_6 : decode cX6_meanEmpty 6 = .ok (.invokevirtual 130, 3) := by decide +kernel
theorem dX6_meanEmpty_9 : decode cX6_meanEmpty 9 = .ok (.iconst 0, 1) := by decide +kernel
theorem dX6_meanEmpty_10 : decode cX6_meanEmpty 10 = .ok (.istore_n 1, 1) := by decide +kernel
theorem dX6_meanEmpty_11 : decode cX6_meanEmpty 11 = .ok (.iconst 0, 1) := by decide +kernel
theorem dX6_meanEmpty_12 : decode cX6_meanEmpty 12 = .ok (.istore_n 2, 1) := by decide +kernel
theorem dX6_meanEmpty_13 : decode cX6_meanEmpty 13 = .ok (.iload_n 2, 1) := by decide +kernel
theorem dX6_meanEmpty_14 : decode cX6_meanEmpty 14 = .ok (.aload_n 0, 1) := by decide +kernel
theorem dX6_meanEmpty_15 : decode cX6_meanEmpty 15 = .ok (.getfield 53, 3) := by decide +kernel
theorem dX6_meanEmpty_18 : decode cX6_meanEmpty 18 = .ok (.if_icmp .ge 17, 3) := by decide +kernel
theorem dX6_meanEmpty_21 : decode cX6_meanEmpty 21 = .ok (.iload_n 1, 1) := by decide +kernel
theorem dX6_meanEmpty_22 : decode cX6_meanEmpty 22 = .ok (.aload_n 0, 1) := by decide +kernel
theorem dX6_meanEmpty_23 : decode cX6_meanEmpty 23 = .ok (.iload_n 2, 1) := by decide +kernel
theorem dX6_meanEmpty_24 : decode cX6_meanEmpty 24 = .ok (.invokevirtual 95, 3) := by decide +kernel
theorem dX6_meanEmpty_27 : decode cX6_meanEmpty 27 = .ok (.iadd, 1) := by decide +kernel
theorem dX6_meanEmpty_28 : decode cX6_meanEmpty 28 = .ok (.istore_n 1, 1) := by decide +kernel
theorem dX6_meanEmpty_29 : decode cX6_meanEmpty 29 = .ok (.iinc 2 1, 3) := by decide +kernel
theorem dX6_meanEmpty_32 : decode cX6_meanEmpty 32 = .ok (.goto (-19), 3) := by decide +kernel
theorem dX6_meanEmpty_35 : decode cX6_meanEmpty 35 = .ok (.aload_n 0, 1) := by decide +kernel
theorem dX6_meanEmpty_36 : decode cX6_meanEmpty 36 = .ok (.getfield 53, 3) := by decide +kernel
theorem dX6_meanEmpty_39 : decode cX6_meanEmpty 39 = .ok (.ifCond .ne 7, 3) := by decide +kernel
theorem dX6_meanEmpty_42 : decode cX6_meanEmpty 42 = .ok (.dconst 0, 1) := by decide +kernel
theorem dX6_meanEmpty_43 : decode cX6_meanEmpty 43 = .ok (.goto 11, 3) := by decide +kernel
theorem dX6_meanEmpty_46 : decode cX6_meanEmpty 46 = .ok (.iload_n 1, 1) := by decide +kernel
theorem dX6_meanEmpty_47 : decode cX6_meanEmpty 47 = .ok (.i2d, 1) := by decide +kernel
theorem dX6_meanEmpty_48 : decode cX6_meanEmpty 48 = .ok (.aload_n 0, 1) := by decide +kernel
theorem dX6_meanEmpty_49 : decode cX6_meanEmpty 49 = .ok (.getfield 53, 3) := by decide +kernel
theorem dX6_meanEmpty_52 : decode cX6_meanEmpty 52 = .ok (.i2d, 1) := by decide +kernel
theorem dX6_meanEmpty_53 : decode cX6_meanEmpty 53 = .ok (.ddiv, 1) := by decide +kernel
theorem dX6_meanEmpty_54 : decode cX6_meanEmpty 54 = .ok (.dreturn, 1) := by decide +kernel
set_option maxRecDepth 20000 in
theorem ggX6_linesWith_X6_in : GoodIn wsX6_linesWith wsX6_in := goodIn_r _ [6] (by decide +kernel) (by decide +kernel)
set_option maxRecDepth 20000 in
theorem gX6_linesWith_X6_in : GoodIn wsX6_linesWith (va_wsS RX6 28 yX6_in wsX6_in) := goodIn_app (goodIn_of _ (by decide +kernel)) ggX6_linesWith_X6_in
set_option maxRecDepth 20000 in
theorem ggX6_linesWith_X6_fails : GoodIn wsX6_linesWith wsX6_fails := goodIn_r _ [10, 11, 56, 57, 58, 59, 60, 61, 62, 63, 64, 65, 66, 67, 68, 69, 70, 71] (by decide +kernel) (by decide +kernel)
set_option maxRecDepth 20000 in
theorem gX6_linesWith_X6_fails : GoodIn wsX6_linesWith (wsV RX6 101 RX6 yX6_fails wsX6_fails) := goodIn_app (goodIn_of _ (by decide +kernel)) ggX6_linesWith_X6_fails
set_option maxRecDepth 20000 in
theorem ggX6_linesWith_X6_setAll : GoodIn wsX6_linesWith wsX6_setAll := goodIn_r _ [15, 16, 17, 18, 2, 19, 1, 20, 21, 22, 5, 23, 24, 25, 26, 27, 28, 29, 30, 31, 32, 33, 34, 35, 36, 37, 38, 39, 40, 41, 42, 43, 44, 45, 46, 47, 48, 49, 50, 51, 56, 57, 58, 59, 60, 61, 62, 63, 64, 65, 66, 67, 68, 69, 70, 71] (by decide +kernel) (by decide +kernel)
set_option maxRecDepth 20000 in
theorem gX6_linesWith_X6_setAll : GoodIn wsX6_linesWith (wsV RX6 85 RX6 yX6_setAll wsX6_setAll) := goodIn_app (goodIn_of _ (by decide +kernel)) ggX6_linesWith_X6_setAll
set_option maxRecDepth 20000 in
theorem ggX6_linesWith_X6_tells : GoodIn wsX6_linesWith wsX6_tells := goodIn_r _ [55, 11, 56, 57, 58, 59, 60, 61, 62, 63, 64, 65, 66, 67, 68, 69, 70, 71] (by decide +kernel) (by decide +kernel)
set_option maxRecDepth 20000 in
theorem gX6_linesWith_X6_tells : GoodIn wsX6_linesWith (wsV RX6 39 RX6 yX6_tells wsX6_tells) := goodIn_app (goodIn_of _ (by decide +kernel)) ggX6_linesWith_X6_tells
theorem dX6_linesWith_0 : decode cX6_linesWith 0 = .ok (.iload_n 1, 1) := by decide +kernel
theorem dX6_linesWith_1 : decode cX6_linesWith 1 = .ok (.bipush 20, 2) := by decide +kernel
theorem dX6_linesWith_3 : decode cX6_linesWith 3 = .ok (.sipush 200, 3) := by decide +kernel
theorem dX6_linesWith_6 : decode cX6_linesWith 6 = .ok (.invokestatic 28, 3) := by decide +kernel
theorem dX6_linesWith_9 : decode cX6_linesWith 9 = .ok (.ifCond .ne 9, 3) := by decide +kernel
theorem dX6_linesWith_12 : decode cX6_linesWith 12 = .ok (.aload_n 0, 1) := by decide +kernel
theorem dX6_linesWith_13 : decode cX6_linesWith 13 = .ok (.iconst 1, 1) := by decide +kernel
theorem dX6_linesWith_14 : decode cX6_linesWith 14 = .ok (.invokevirtual 101, 3) := by decide +kernel
theorem dX6_linesWith_17 : decode cX6_linesWith 17 = .ok (.ireturn, 1) := by decide +kernel
theorem dX6_linesWith_18 : decode cX6_linesWith 18 = .ok (.aload_n 0, 1) := by decide +kernel
theorem dX6_linesWith_19 : decode cX6_linesWith 19 = .ok (.iload_n 1, 1) := by decide +kernel
theorem dX6_linesWith_20 : decode cX6_linesWith 20 = .ok (.aload_n 0, 1) := by decide +kernel
theorem dX6_linesWith_21 : decode cX6_linesWith 21 = .ok (.getfield 7, 3) := by decide +kernel
theorem dX6_linesWith_24 : decode cX6_linesWith 24 = .ok (.iconst 2, 1) := by decide +kernel
theorem dX6_linesWith_25 : decode cX6_linesWith 25 = .ok (.iaload, 1) := by decide +kernel
theorem dX6_linesWith_26 : decode cX6_linesWith 26 = .ok (.aload_n 0, 1) := by decide +kernel
theorem dX6_linesWith_27 : decode cX6_linesWith 27 = .ok (.getfield 7, 3) := by decide +kernel
theorem dX6_linesWith_30 : decode cX6_linesWith 30 = .ok (.iconst 3, 1) := by decide +kernel
theorem dX6_linesWith_31 : decode cX6_linesWith 31 = .ok (.iaload, 1) := by decide +kernel
theorem dX6_linesWith_32 : decode cX6_linesWith 32 = .ok (.invokevirtual 85, 3) := by decide +kernel
theorem dX6_linesWith_35 : decode cX6_linesWith 35 = .ok (.aload_n 0, 1) := by decide +kernel
theorem dX6_linesWith_36 : decode cX6_linesWith 36 = .ok (.aload_n 0, 1) := by decide +kernel
theorem dX6_linesWith_37 : decode cX6_linesWith 37 = .ok (.getfield 53, 3) := by decide +kernel
theorem dX6_linesWith_40 : decode cX6_linesWith 40 = .ok (.invokevirtual 39, 3) := by decide +kernel
theorem dX6_linesWith_43 : decode cX6_linesWith 43 = .ok (.ireturn, 1) := by decide +kernel
set_option maxRecDepth 20000 in
theorem ggX6_measureFor_X6_in : GoodIn wsX6_measureFor wsX6_in := goodIn_r _ [6] (by decide +kernel) (by decide +kernel)
set_option maxRecDepth 20000 in
theorem gX6_measureFor_X6_in : GoodIn wsX6_measureFor (va_wsS RX6 28 yX6_in wsX6_in) := goodIn_app (goodIn_of _ (by decide +kernel)) ggX6_measureFor_X6_in
set_option maxRecDepth 20000 in
theorem ggX6_measureFor_X6_fails : GoodIn wsX6_measureFor wsX6_fails := goodIn_r _ [10, 11, 56, 57, 58, 59, 60, 61, 62, 63, 64, 65, 66, 67, 68, 69, 70, 71] (by decide +kernel) (by decide +kernel)
set_option maxRecDepth 20000 in
theorem gX6_measureFor_X6_fails : GoodIn wsX6_measureFor (wsV RX6 101 RX6 yX6_fails wsX6_fails) := goodIn_app (goodIn_of _ (by decide +kernel)) ggX6_measureFor_X6_fails
set_option maxRecDepth 20000 in
theorem ggX6_measureFor_X6_setAll : GoodIn wsX6_measureFor wsX6_setAll := goodIn_r _ [15, 16, 17, 18, 2, 19, 1, 20, 21, 22, 5, 23, 24, 25, 26, 27, 28, 29, 30, 31, 32, 33, 34, 35, 36, 37, 38, 39, 40, 41, 42, 43, 44, 45, 46, 47, 48, 49, 50, 51, 56, 57, 58, 59, 60, 61, 62, 63, 64, 65, 66, 67, 68, 69, 70, 71] (by decide +kernel) (by decide +kernel)
set_option maxRecDepth 20000 in
theorem gX6_measureFor_X6_setAll : GoodIn wsX6_measureFor (wsV RX6 85 RX6 yX6_setAll wsX6_setAll) := goodIn_app (goodIn_of _ (by decide +kernel)) ggX6_measureFor_X6_setAll
set_option maxRecDepth 20000 in
theorem ggX6_measureFor_X6_tells : GoodIn wsX6_measureFor wsX6_tells := goodIn_r _ [55, 11, 56, 57, 58, 59, 60, 61, 62, 63, 64, 65, 66, 67, 68, 69, 70, 71] (by decide +kernel) (by decide +kernel)
set_option maxRecDepth 20000 in
theorem gX6_measureFor_X6_tells : GoodIn wsX6_measureFor (wsV RX6 39 RX6 yX6_tells wsX6_tells) := goodIn_app (goodIn_of _ (by decide +kernel)) ggX6_measureFor_X6_tells
theorem dX6_measureFor_0 : decode cX6_measureFor 0 = .ok (.iload_n 1, 1) := by decide +kernel
theorem dX6_measureFor_1 : decode cX6_measureFor 1 = .ok (.iconst 1, 1) := by decide +kernel
theorem dX6_measureFor_2 : decode cX6_measureFor 2 = .ok (.bipush 60, 2) := by decide +kernel
theorem dX6_measureFor_4 : decode cX6_measureFor 4 = .ok (.invokestatic 28, 3) := by decide +kernel
theorem dX6_measureFor_7 : decode cX6_measureFor 7 = .ok (.ifCond .ne 9, 3) := by decide +kernel
theorem dX6_measureFor_10 : decode cX6_measureFor 10 = .ok (.aload_n 0, 1) := by decide +kernel
theorem dX6_measureFor_11 : decode cX6_measureFor 11 = .ok (.iconst 1, 1) := by decide +kernel
theorem dX6_measureFor_12 : decode cX6_measureFor 12 = .ok (.invokevirtual 101, 3) := by decide +kernel
theorem dX6_measureFor_15 : decode cX6_measureFor 15 = .ok (.ireturn, 1) := by decide +kernel
theorem dX6_measureFor_16 : decode cX6_measureFor 16 = .ok (.bipush 20, 2) := by decide +kernel
theorem dX6_measureFor_18 : decode cX6_measureFor 18 = .ok (.istore_n 2, 1) := by decide +kernel
theorem dX6_measureFor_19 : decode cX6_measureFor 19 = .ok (.iload_n 2, 1) := by decide +kernel
theorem dX6_measureFor_20 : decode cX6_measureFor 20 = .ok (.sipush 200, 3) := by decide +kernel
theorem dX6_measureFor_23 : decode cX6_measureFor 23 = .ok (.if_icmp .gt 40, 3) := by decide +kernel
theorem dX6_measureFor_26 : decode cX6_measureFor 26 = .ok (.aload_n 0, 1) := by decide +kernel
theorem dX6_measureFor_27 : decode cX6_measureFor 27 = .ok (.iload_n 2, 1) := by decide +kernel
theorem dX6_measureFor_28 : decode cX6_measureFor 28 = .ok (.aload_n 0, 1) := by decide +kernel
theorem dX6_measureFor_29 : decode cX6_measureFor 29 = .ok (.getfield 7, 3) := by decide +kernel
theorem dX6_measureFor_32 : decode cX6_measureFor 32 = .ok (.iconst 2, 1) := by decide +kernel
theorem dX6_measureFor_33 : decode cX6_measureFor 33 = .ok (.iaload, 1) := by decide +kernel
theorem dX6_measureFor_34 : decode cX6_measureFor 34 = .ok (.aload_n 0, 1) := by decide +kernel
theorem dX6_measureFor_35 : decode cX6_measureFor 35 = .ok (.getfield 7, 3) := by decide +kernel
theorem dX6_measureFor_38 : decode cX6_measureFor 38 = .ok (.iconst 3, 1) := by decide +kernel
theorem dX6_measureFor_39 : decode cX6_measureFor 39 = .ok (.iaload, 1) := by decide +kernel
theorem dX6_measureFor_40 : decode cX6_measureFor 40 = .ok (.invokevirtual 85, 3) := by decide +kernel
theorem dX6_measureFor_43 : decode cX6_measureFor 43 = .ok (.aload_n 0, 1) := by decide +kernel
theorem dX6_measureFor_44 : decode cX6_measureFor 44 = .ok (.getfield 53, 3) := by decide +kernel
theorem dX6_measureFor_47 : decode cX6_measureFor 47 = .ok (.iload_n 1, 1) := by decide +kernel
theorem dX6_measureFor_48 : decode cX6_measureFor 48 = .ok (.if_icmp .gt 9, 3) := by decide +kernel
theorem dX6_measureFor_51 : decode cX6_measureFor 51 = .ok (.aload_n 0, 1) := by decide +kernel
theorem dX6_measureFor_52 : decode cX6_measureFor 52 = .ok (.iload_n 2, 1) := by decide +kernel
theorem dX6_measureFor_53 : decode cX6_measureFor 53 = .ok (.invokevirtual 39, 3) := by decide +kernel
theorem dX6_measureFor_56 : decode cX6_measureFor 56 = .ok (.ireturn, 1) := by decide +kernel
theorem dX6_measureFor_57 : decode cX6_measureFor 57 = .ok (.iinc 2 1, 3) := by decide +kernel
theorem dX6_measureFor_60 : decode cX6_measureFor 60 = .ok (.goto (-41), 3) := by decide +kernel
theorem dX6_measureFor_63 : decode cX6_measureFor 63 = .ok (.aload_n 0, 1) := by decide +kernel
theorem dX6_measureFor_64 : decode cX6_measureFor 64 = .ok (.iconst (-1), 1) := by decide +kernel
theorem dX6_measureFor_65 : decode cX6_measureFor 65 = .ok (.invokevirtual 39, 3) := by decide +kernel
theorem dX6_measureFor_68 : decode cX6_measureFor 68 = .ok (.ireturn, 1) := by decide +kernel
set_option maxRecDepth 20000 in
theorem ggX6_linesUnlent_X6_setAll : GoodIn wsX6_linesUnlent wsX6_setAll := goodIn_r _ [7, 8, 9, 10, 2, 11, 1, 12, 13, 14, 6, 15, 16, 17, 18, 19, 20, 21, 22, 23, 24, 25, 26, 27, 28, 29, 30, 31, 32, 33, 34, 35, 36, 37, 38, 39, 40, 41, 42, 43, 49, 50, 51, 52, 53, 54, 55, 56, 57, 58, 59, 60, 61, 62, 63, 64] (by decide +kernel) (by decide +kernel)
set_option maxRecDepth 20000 in
theorem gX6_linesUnlent_X6_setAll : GoodIn wsX6_linesUnlent (wsV RX6 85 RX6 yX6_setAll wsX6_setAll) := goodIn_app (goodIn_of _ (by decide +kernel)) ggX6_linesUnlent_X6_setAll
set_option maxRecDepth 20000 in
theorem ggX6_linesUnlent_X6_tells : GoodIn wsX6_linesUnlent wsX6_tells := goodIn_r _ [47, 48, 49, 50, 51, 52, 53, 54, 55, 56, 57, 58, 59, 60, 61, 62, 63, 64] (by decide +kernel) (by decide +kernel)
set_option maxRecDepth 20000 in
theorem gX6_linesUnlent_X6_tells : GoodIn wsX6_linesUnlent (wsV RX6 39 RX6 yX6_tells wsX6_tells) := goodIn_app (goodIn_of _ (by decide +kernel)) ggX6_linesUnlent_X6_tells
theorem dX6_linesUnlent_0 : decode cX6_linesUnlent 0 = .ok (.aload_n 0, 1) := by decide +kernel
theorem dX6_linesUnlent_1 : decode cX6_linesUnlent 1 = .ok (.aload_n 0, 1) := by decide +kernel
theorem dX6_linesUnlent_2 : decode cX6_linesUnlent 2 = .ok (.getfield 7, 3) := by decide +kernel
theorem dX6_linesUnlent_5 : decode cX6_linesUnlent 5 = .ok (.iconst 0, 1) := by decide +kernel
theorem dX6_linesUnlent_6 : decode cX6_linesUnlent 6 = .ok (.iaload, 1) := by decide +kernel
theorem dX6_linesUnlent_7 : decode cX6_linesUnlent 7 = .ok (.iconst 0, 1) := by decide +kernel
theorem dX6_linesUnlent_8 : decode cX6_linesUnlent 8 = .ok (.iconst 0, 1) := by decide +kernel
theorem dX6_linesUnlent_9 : decode cX6_linesUnlent 9 = .ok (.invokevirtual 85, 3) := by decide +kernel
theorem dX6_linesUnlent_12 : decode cX6_linesUnlent 12 = .ok (.aload_n 0, 1) := by decide +kernel
theorem dX6_linesUnlent_13 : decode cX6_linesUnlent 13 = .ok (.aload_n 0, 1) := by decide +kernel
theorem dX6_linesUnlent_14 : decode cX6_linesUnlent 14 = .ok (.getfield 53, 3) := by decide +kernel
theorem dX6_linesUnlent_17 : decode cX6_linesUnlent 17 = .ok (.invokevirtual 39, 3) := by decide +kernel
theorem dX6_linesUnlent_20 : decode cX6_linesUnlent 20 = .ok (.ireturn, 1) := by decide +kernel
set_option maxRecDepth 20000 in
theorem ggX6_evenest_X6_in : GoodIn wsX6_evenest wsX6_in := goodIn_r _ [5] (by decide +kernel) (by decide +kernel)
set_option maxRecDepth 20000 in
theorem gX6_evenest_X6_in : GoodIn wsX6_evenest (va_wsS RX6 28 yX6_in wsX6_in) := goodIn_app (goodIn_of _ (by decide +kernel)) ggX6_evenest_X6_in
set_option maxRecDepth 20000 in
theorem ggX6_evenest_X6_fails : GoodIn wsX6_evenest wsX6_fails := goodIn_r _ [9, 10, 72, 73, 74, 75, 76, 77, 78, 79, 80, 81, 82, 83, 84, 85, 86, 87] (by decide +kernel) (by decide +kernel)
set_option maxRecDepth 20000 in
theorem gX6_evenest_X6_fails : GoodIn wsX6_evenest (wsV RX6 101 RX6 yX6_fails wsX6_fails) := goodIn_app (goodIn_of _ (by decide +kernel)) ggX6_evenest_X6_fails
set_option maxRecDepth 20000 in
theorem ggX6_evenest_X6_setAll : GoodIn wsX6_evenest wsX6_setAll := goodIn_r _ [14, 15, 16, 17, 18, 19, 1, 20, 21, 22, 4, 23, 24, 25, 26, 27, 28, 29, 30, 31, 32, 33, 34, 35, 36, 37, 38, 39, 40, 41, 42, 43, 44, 45, 46, 47, 48, 49, 50, 51, 72, 73, 74, 75, 76, 77, 78, 79, 80, 81, 82, 83, 84, 85, 86, 87] (by decide +kernel) (by decide +kernel)
set_option maxRecDepth 20000 in
theorem gX6_evenest_X6_setAll : GoodIn wsX6_evenest (wsV RX6 85 RX6 yX6_setAll wsX6_setAll) := goodIn_app (goodIn_of _ (by decide +kernel)) ggX6_evenest_X6_setAll
set_option maxRecDepth 20000 in
theorem ggX6_evenest_X6_unevennessNow : GoodIn wsX6_evenest wsX6_unevennessNow := goodIn_r _ [55, 18, 56, 57, 58, 4, 59, 24, 48, 49, 50, 51, 1, 30, 31, 32, 33, 60, 61, 62, 63, 64, 65, 66, 67, 72, 73, 74, 75, 76, 77, 78, 79, 80, 81, 82, 83, 84, 85, 86, 87] (by decide +kernel) (by decide +kernel)
set_option maxRecDepth 20000 in
theorem gX6_evenest_X6_unevennessNow : GoodIn wsX6_evenest (wsV RX6 155 RX6 yX6_unevennessNow wsX6_unevennessNow) := goodIn_app (goodIn_of _ (by decide +kernel)) ggX6_evenest_X6_unevennessNow
set_option maxRecDepth 20000 in
theorem ggX6_evenest_X6_tells : GoodIn wsX6_evenest wsX6_tells := goodIn_r _ [71, 10, 72, 73, 74, 75, 76, 77, 78, 79, 80, 81, 82, 83, 84, 85, 86, 87] (by decide +kernel) (by decide +kernel)
set_option maxRecDepth 20000 in
theorem gX6_evenest_X6_tells : GoodIn wsX6_evenest (wsV RX6 39 RX6 yX6_tells wsX6_tells) := goodIn_app (goodIn_of _ (by decide +kernel)) ggX6_evenest_X6_tells
theorem dX6_evenest_0 : decode cX6_evenest 0 = .ok (.iload_n 1, 1) := by decide +kernel
theorem dX6_evenest_1 : decode cX6_evenest 1 = .ok (.iconst 0, 1) := by decide +kernel
theorem dX6_evenest_2 : decode cX6_evenest 2 = .ok (.bipush 20, 2) := by decide +kernel
theorem dX6_evenest_4 : decode cX6_evenest 4 = .ok (.invokestatic 28, 3) := by decide +kernel
theorem dX6_evenest_7 : decode cX6_evenest 7 = .ok (.ifCond .ne 9, 3) := by decide +kernel
theorem dX6_evenest_10 : decode cX6_evenest 10 = .ok (.aload_n 0, 1) := by decide +kernel
theorem dX6_evenest_11 : decode cX6_evenest 11 = .ok (.iconst 1, 1) := by decide +kernel
theorem dX6_evenest_12 : decode cX6_evenest 12 = .ok (.invokevirtual 101, 3) := by decide +kernel
theorem dX6_evenest_15 : decode cX6_evenest 15 = .ok (.ireturn, 1) := by decide +kernel
theorem dX6_evenest_16 : decode cX6_evenest 16 = .ok (.iconst (-1), 1) := by decide +kernel
theorem dX6_evenest_17 : decode cX6_evenest 17 = .ok (.istore_n 2, 1) := by decide +kernel
theorem dX6_evenest_18 : decode cX6_evenest 18 = .ok (.iconst 0, 1) := by decide +kernel
theorem dX6_evenest_19 : decode cX6_evenest 19 = .ok (.istore_n 3, 1) := by decide +kernel
theorem dX6_evenest_20 : decode cX6_evenest 20 = .ok (.aload_n 0, 1) := by decide +kernel
theorem dX6_evenest_21 : decode cX6_evenest 21 = .ok (.getfield 7, 3) := by decide +kernel
theorem dX6_evenest_24 : decode cX6_evenest 24 = .ok (.iconst 0, 1) := by decide +kernel
theorem dX6_evenest_25 : decode cX6_evenest 25 = .ok (.iaload, 1) := by decide +kernel
theorem dX6_evenest_26 : decode cX6_evenest 26 = .ok (.iload_n 1, 1) := by decide +kernel
theorem dX6_evenest_27 : decode cX6_evenest 27 = .ok (.isub, 1) := by decide +kernel
theorem dX6_evenest_28 : decode cX6_evenest 28 = .ok (.istore 4, 2) := by decide +kernel
theorem dX6_evenest_30 : decode cX6_evenest 30 = .ok (.iload 4, 2) := by decide +kernel
theorem dX6_evenest_32 : decode cX6_evenest 32 = .ok (.aload_n 0, 1) := by decide +kernel
theorem dX6_evenest_33 : decode cX6_evenest 33 = .ok (.getfield 7, 3) := by decide +kernel
theorem dX6_evenest_36 : decode cX6_evenest 36 = .ok (.iconst 0, 1) := by decide +kernel
theorem dX6_evenest_37 : decode cX6_evenest 37 = .ok (.iaload, 1) := by decide +kernel
theorem dX6_evenest_38 : decode cX6_evenest 38 = .ok (.iload_n 1, 1) := by decide +kernel
theorem dX6_evenest_39 : decode cX6_evenest 39 = .ok (.iadd, 1) := by decide +kernel
theorem dX6_evenest_40 : decode cX6_evenest 40 = .ok (.if_icmp .gt 77, 3) := by decide +kernel
theorem dX6_evenest_43 : decode cX6_evenest 43 = .ok (.iload 4, 2) := by decide +kernel
theorem dX6_evenest_45 : decode cX6_evenest 45 = .ok (.bipush 20, 2) := by decide +kernel
theorem dX6_evenest_47 : decode cX6_evenest 47 = .ok (.sipush 200, 3) := by decide +kernel
theorem dX6_evenest_50 : decode cX6_evenest 50 = .ok (.invokestatic 28, 3) := by decide +kernel
theorem dX6_evenest_53 : decode cX6_evenest 53 = .ok (.ifCond .eq 58, 3) := by decide +kernel
theorem dX6_evenest_56 : decode cX6_evenest 56 = .ok (.aload_n 0, 1) := by decide +kernel
theorem dX6_evenest_57 : decode cX6_evenest 57 = .ok (.iload 4, 2) := by decide +kernel
theorem dX6_evenest_59 : decode cX6_evenest 59 = .ok (.aload_n 0, 1) := by decide +kernel
theorem dX6_evenest_60 : decode cX6_evenest 60 = .ok (.getfield 7, 3) := by decide +kernel
theorem dX6_evenest_63 : decode cX6_evenest 63 = .ok (.iconst 2, 1) := by decide +kernel
theorem dX6_evenest_64 : decode cX6_evenest 64 = .ok (.iaload, 1) := by decide +kernel
theorem dX6_evenest_65 : decode cX6_evenest 65 = .ok (.aload_n 0, 1) := by decide +kernel
theorem dX6_evenest_66 : decode cX6_evenest 66 = .ok (.getfield 7, 3) := by decide +kernel
theorem dX6_evenest_69 : decode cX6_evenest 69 = .ok (.iconst 3, 1) := by decide +kernel
theorem dX6_evenest_70 : decode cX6_evenest 70 = .ok (.iaload, 1) := by decide +kernel
theorem dX6_evenest_71 : decode cX6_evenest 71 = .ok (.invokevirtual 85, 3) := by decide +kernel
theorem dX6_evenest_74 : decode cX6_evenest 74 = .ok (.aload_n 0, 1) := by decide +kernel
theorem dX6_evenest_75 : decode cX6_evenest 75 = .ok (.invokevirtual 155, 3) := by decide +kernel
theorem dX6_evenest_78 : decode cX6_evenest 78 = .ok (.istore 5, 2) := by decide +kernel
theorem dX6_evenest_80 : decode cX6_evenest 80 = .ok (.iload_n 2, 1) := by decide +kernel
theorem dX6_evenest_81 : decode cX6_evenest 81 = .ok (.iconst (-1), 1) := by decide +kernel
theorem dX6_evenest_82 : decode cX6_evenest 82 = .ok (.if_icmp .eq 9, 3) := by decide +kernel
theorem dX6_evenest_85 : decode cX6_evenest 85 = .ok (.iload 5, 2) := by decide +kernel
theorem dX6_evenest_87 : decode cX6_evenest 87 = .ok (.iload_n 3, 1) := by decide +kernel
theorem dX6_evenest_88 : decode cX6_evenest 88 = .ok (.if_icmp .ge 8, 3) := by decide +kernel
theorem dX6_evenest_91 : decode cX6_evenest 91 = .ok (.iload 4, 2) := by decide +kernel
theorem dX6_evenest_93 : decode cX6_evenest 93 = .ok (.goto 4, 3) := by decide +kernel
theorem dX6_evenest_96 : decode cX6_evenest 96 = .ok (.iload_n 2, 1) := by decide +kernel
theorem dX6_evenest_97 : decode cX6_evenest 97 = .ok (.istore_n 2, 1) := by decide +kernel
theorem dX6_evenest_98 : decode cX6_evenest 98 = .ok (.iload_n 2, 1) := by decide +kernel
theorem dX6_evenest_99 : decode cX6_evenest 99 = .ok (.iload 4, 2) := by decide +kernel
theorem dX6_evenest_101 : decode cX6_evenest 101 = .ok (.if_icmp .ne 8, 3) := by decide +kernel
theorem dX6_evenest_104 : decode cX6_evenest 104 = .ok (.iload 5, 2) := by decide +kernel
theorem dX6_evenest_106 : decode cX6_evenest 106 = .ok (.goto 4, 3) := by decide +kernel
theorem dX6_evenest_109 : decode cX6_evenest 109 = .ok (.iload_n 3, 1) := by decide +kernel
theorem dX6_evenest_110 : decode cX6_evenest 110 = .ok (.istore_n 3, 1) := by decide +kernel
theorem dX6_evenest_111 : decode cX6_evenest 111 = .ok (.iinc 4 1, 3) := by decide +kernel
theorem dX6_evenest_114 : decode cX6_evenest 114 = .ok (.goto (-84), 3) := by decide +kernel
theorem dX6_evenest_117 : decode cX6_evenest 117 = .ok (.aload_n 0, 1) := by decide +kernel
theorem dX6_evenest_118 : decode cX6_evenest 118 = .ok (.iload_n 2, 1) := by decide +kernel
theorem dX6_evenest_119 : decode cX6_evenest 119 = .ok (.invokevirtual 39, 3) := by decide +kernel
theorem dX6_evenest_122 : decode cX6_evenest 122 = .ok (.ireturn, 1) := by decide +kernel
set_option maxRecDepth 20000 in
theorem ggX6_type_X6_in : GoodIn wsX6_type wsX6_in := goodIn_r _ [6] (by decide +kernel) (by decide +kernel)
set_option maxRecDepth 20000 in
theorem gX6_type_X6_in : GoodIn wsX6_type (va_wsS RX6 28 yX6_in wsX6_in) := goodIn_app (goodIn_of _ (by decide +kernel)) ggX6_type_X6_in
set_option maxRecDepth 20000 in
theorem ggX6_type_X6_fails : GoodIn wsX6_type wsX6_fails := goodIn_r _ [10, 11, 16, 17, 18, 19, 20, 21, 22, 23, 24, 25, 26, 27, 28, 29, 30, 31] (by decide +kernel) (by decide +kernel)
