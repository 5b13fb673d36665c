set_option maxRecDepth 20000 in
theorem gX6_word_X6_makes : GoodIn wsX6_word (wsV RX6 130 RX6 yX6_makes wsX6_makes) := goodIn_app (goodIn_of _ (by decide +kernel)) ggX6_word_X6_makes
set_option maxRecDepth 20000 in
theorem ggX6_word_X6_wordOf : GoodIn wsX6_word wsX6_wordOf := goodIn_r _ [63, 32, 64, 65, 66, 4, 67, 38, 39, 40, 41, 6, 49, 50, 51, 52, 46, 47, 48, 53, 54, 55, 68, 69, 70, 71, 76, 77, 78, 79, 80, 81, 82, 83, 84, 85, 86, 87, 88, 89, 90, 91] (by decide +kernel) (by decide +kernel)
set_option maxRecDepth 20000 in
theorem gX6_word_X6_wordOf : GoodIn wsX6_word (wsV RX6 133 RX6 yX6_wordOf wsX6_wordOf) := goodIn_app (goodIn_of _ (by decide +kernel)) ggX6_word_X6_wordOf
set_option maxRecDepth 20000 in
theorem ggX6_word_X6_tells : GoodIn wsX6_word wsX6_tells := goodIn_r _ [75, 11, 76, 77, 78, 79, 80, 81, 82, 83, 84, 85, 86, 87, 88, 89, 90, 91] (by decide +kernel) (by decide +kernel)
set_option maxRecDepth 20000 in
theorem gX6_word_X6_tells : GoodIn wsX6_word (wsV RX6 39 RX6 yX6_tells wsX6_tells) := goodIn_app (goodIn_of _ (by decide +kernel)) ggX6_word_X6_tells
theorem dX6_word_0 : decode cX6_word 0 = .ok (.aload_n 0, 1) := by decide +kernel
theorem dX6_word_1 : decode cX6_word 1 = .ok (.iload_n 1, 1) := by decide +kernel
theorem dX6_word_2 : decode cX6_word 2 = .ok (.invokevirtual 118, 3) := by decide +kernel
theorem dX6_word_5 : decode cX6_word 5 = .ok (.ifCond .ne 9, 3) := by decide +kernel
theorem dX6_word_8 : decode cX6_word 8 = .ok (.aload_n 0, 1) := by decide +kernel
theorem dX6_word_9 : decode cX6_word 9 = .ok (.iconst 1, 1) := by decide +kernel
theorem dX6_word_10 : decode cX6_word 10 = .ok (.invokevirtual 101, 3) := by decide +kernel
theorem dX6_word_13 : decode cX6_word 13 = .ok (.ireturn, 1) := by decide +kernel
theorem dX6_word_14 : decode cX6_word 14 = .ok (.iload_n 2, 1) := by decide +kernel
theorem dX6_word_15 : decode cX6_word 15 = .ok (.iconst 0, 1) := by decide +kernel
theorem dX6_word_16 : decode cX6_word 16 = .ok (.bipush 8, 2) := by decide +kernel
theorem dX6_word_18 : decode cX6_word 18 = .ok (.invokestatic 28, 3) := by decide +kernel
theorem dX6_word_21 : decode cX6_word 21 = .ok (.ifCond .ne 9, 3) := by decide +kernel
theorem dX6_word_24 : decode cX6_word 24 = .ok (.aload_n 0, 1) := by decide +kernel
theorem dX6_word_25 : decode cX6_word 25 = .ok (.iconst 2, 1) := by decide +kernel
theorem dX6_word_26 : decode cX6_word 26 = .ok (.invokevirtual 101, 3) := by decide +kernel
theorem dX6_word_29 : decode cX6_word 29 = .ok (.ireturn, 1) := by decide +kernel
theorem dX6_word_30 : decode cX6_word 30 = .ok (.aload_n 0, 1) := by decide +kernel
theorem dX6_word_31 : decode cX6_word 31 = .ok (.invokevirtual 130, 3) := by decide +kernel
theorem dX6_word_34 : decode cX6_word 34 = .ok (.aload_n 0, 1) := by decide +kernel
theorem dX6_word_35 : decode cX6_word 35 = .ok (.aload_n 0, 1) := by decide +kernel
theorem dX6_word_36 : decode cX6_word 36 = .ok (.iload_n 1, 1) := by decide +kernel
theorem dX6_word_37 : decode cX6_word 37 = .ok (.iload_n 2, 1) := by decide +kernel
theorem dX6_word_38 : decode cX6_word 38 = .ok (.invokevirtual 133, 3) := by decide +kernel
theorem dX6_word_41 : decode cX6_word 41 = .ok (.invokevirtual 39, 3) := by decide +kernel
theorem dX6_word_44 : decode cX6_word 44 = .ok (.ireturn, 1) := by decide +kernel
set_option maxRecDepth 20000 in
theorem ggX6_lineTold_X6_endsOneThere : GoodIn wsX6_lineTold wsX6_endsOneThere := goodIn_r _ [6, 1, 7, 8, 9, 5, 10, 11, 12, 13, 14, 15, 24, 25, 26, 27, 28, 29, 30, 31, 32, 33, 34, 35, 36, 37, 38, 39] (by decide +kernel) (by decide +kernel)
set_option maxRecDepth 20000 in
theorem gX6_lineTold_X6_endsOneThere : GoodIn wsX6_lineTold (wsV RX6 92 RX6 yX6_endsOneThere wsX6_endsOneThere) := goodIn_app (goodIn_of _ (by decide +kernel)) ggX6_lineTold_X6_endsOneThere
set_option maxRecDepth 20000 in
theorem ggX6_lineTold_X6_empty : GoodIn wsX6_lineTold wsX6_empty := goodIn_r _ [19, 1, 20, 21, 22, 5, 23, 24, 25, 26, 27, 28, 29, 30, 31, 32, 33, 34, 35, 36, 37, 38, 39] (by decide +kernel) (by decide +kernel)
set_option maxRecDepth 20000 in
theorem gX6_lineTold_X6_empty : GoodIn wsX6_lineTold (wsV RX6 95 RX6 yX6_empty wsX6_empty) := goodIn_app (goodIn_of _ (by decide +kernel)) ggX6_lineTold_X6_empty
theorem dX6_lineTold_0 : decode cX6_lineTold 0 = .ok (.iload_n 2, 1) := by decide +kernel
theorem dX6_lineTold_1 : decode cX6_lineTold 1 = .ok (.bipush 10, 2) := by decide +kernel
theorem dX6_lineTold_3 : decode cX6_lineTold 3 = .ok (.if_icmp .ge 17, 3) := by decide +kernel
theorem dX6_lineTold_6 : decode cX6_lineTold 6 = .ok (.aload_n 0, 1) := by decide +kernel
theorem dX6_lineTold_7 : decode cX6_lineTold 7 = .ok (.getfield 22, 3) := by decide +kernel
theorem dX6_lineTold_10 : decode cX6_lineTold 10 = .ok (.bipush 10, 2) := by decide +kernel
theorem dX6_lineTold_12 : decode cX6_lineTold 12 = .ok (.iload_n 1, 1) := by decide +kernel
theorem dX6_lineTold_13 : decode cX6_lineTold 13 = .ok (.imul, 1) := by decide +kernel
theorem dX6_lineTold_14 : decode cX6_lineTold 14 = .ok (.iload_n 2, 1) := by decide +kernel
theorem dX6_lineTold_15 : decode cX6_lineTold 15 = .ok (.iadd, 1) := by decide +kernel
theorem dX6_lineTold_16 : decode cX6_lineTold 16 = .ok (.iaload, 1) := by decide +kernel
theorem dX6_lineTold_17 : decode cX6_lineTold 17 = .ok (.goto 30, 3) := by decide +kernel
theorem dX6_lineTold_20 : decode cX6_lineTold 20 = .ok (.iload_n 2, 1) := by decide +kernel
theorem dX6_lineTold_21 : decode cX6_lineTold 21 = .ok (.bipush 10, 2) := by decide +kernel
theorem dX6_lineTold_23 : decode cX6_lineTold 23 = .ok (.if_icmp .ne 19, 3) := by decide +kernel
theorem dX6_lineTold_26 : decode cX6_lineTold 26 = .ok (.aload_n 0, 1) := by decide +kernel
theorem dX6_lineTold_27 : decode cX6_lineTold 27 = .ok (.iload_n 1, 1) := by decide +kernel
theorem dX6_lineTold_28 : decode cX6_lineTold 28 = .ok (.invokevirtual 92, 3) := by decide +kernel
theorem dX6_lineTold_31 : decode cX6_lineTold 31 = .ok (.ifCond .eq 7, 3) := by decide +kernel
theorem dX6_lineTold_34 : decode cX6_lineTold 34 = .ok (.iconst 1, 1) := by decide +kernel
theorem dX6_lineTold_35 : decode cX6_lineTold 35 = .ok (.goto 12, 3) := by decide +kernel
theorem dX6_lineTold_38 : decode cX6_lineTold 38 = .ok (.iconst 0, 1) := by decide +kernel
theorem dX6_lineTold_39 : decode cX6_lineTold 39 = .ok (.goto 8, 3) := by decide +kernel
theorem dX6_lineTold_42 : decode cX6_lineTold 42 = .ok (.aload_n 0, 1) := by decide +kernel
theorem dX6_lineTold_43 : decode cX6_lineTold 43 = .ok (.iload_n 1, 1) := by decide +kernel
theorem dX6_lineTold_44 : decode cX6_lineTold 44 = .ok (.invokevirtual 95, 3) := by decide +kernel
theorem dX6_lineTold_47 : decode cX6_lineTold 47 = .ok (.ireturn, 1) := by decide +kernel
set_option maxRecDepth 20000 in
theorem ggX6_line_X6_makes : GoodIn wsX6_line wsX6_makes := goodIn_r _ [6, 7, 8, 9, 10, 5, 11, 12, 13, 14, 1, 15, 16, 17, 18, 19, 20, 21, 22, 23, 24, 25, 26, 27, 28, 29, 30, 31, 32, 33, 34, 35, 36, 37, 38, 39, 40, 41, 42, 43, 44, 45, 46, 47, 76, 77, 78, 79, 80, 81, 82, 83, 84, 85, 86, 87, 88, 89, 90, 91] (by decide +kernel) (by decide +kernel)
set_option maxRecDepth 20000 in
theorem gX6_line_X6_makes : GoodIn wsX6_line (wsV RX6 130 RX6 yX6_makes wsX6_makes) := goodIn_app (goodIn_of _ (by decide +kernel)) ggX6_line_X6_makes
set_option maxRecDepth 20000 in
theorem ggX6_line_X6_fails : GoodIn wsX6_line wsX6_fails := goodIn_r _ [51, 52, 76, 77, 78, 79, 80, 81, 82, 83, 84, 85, 86, 87, 88, 89, 90, 91] (by decide +kernel) (by decide +kernel)
set_option maxRecDepth 20000 in
theorem gX6_line_X6_fails : GoodIn wsX6_line (wsV RX6 101 RX6 yX6_fails wsX6_fails) := goodIn_app (goodIn_of _ (by decide +kernel)) ggX6_line_X6_fails
set_option maxRecDepth 20000 in
theorem ggX6_line_X6_in : GoodIn wsX6_line wsX6_in := goodIn_r _ [55] (by decide +kernel) (by decide +kernel)
set_option maxRecDepth 20000 in
theorem gX6_line_X6_in : GoodIn wsX6_line (va_wsS RX6 28 yX6_in wsX6_in) := goodIn_app (goodIn_of _ (by decide +kernel)) ggX6_line_X6_in
set_option maxRecDepth 20000 in
theorem ggX6_line_X6_lineTold : GoodIn wsX6_line wsX6_lineTold := goodIn_r _ [59, 20, 60, 61, 62, 5, 63, 44, 45, 46, 47, 7, 26, 27, 28, 29, 64, 65, 66, 67, 68, 69, 70, 71, 76, 77, 78, 79, 80, 81, 82, 83, 84, 85, 86, 87, 88, 89, 90, 91] (by decide +kernel) (by decide +kernel)
set_option maxRecDepth 20000 in
theorem gX6_line_X6_lineTold : GoodIn wsX6_line (wsV RX6 136 RX6 yX6_lineTold wsX6_lineTold) := goodIn_app (goodIn_of _ (by decide +kernel)) ggX6_line_X6_lineTold
set_option maxRecDepth 20000 in
theorem ggX6_line_X6_tells : GoodIn wsX6_line wsX6_tells := goodIn_r _ [75, 52, 76, 77, 78, 79, 80, 81, 82, 83, 84, 85, 86, 87, 88, 89, 90, 91] (by decide +kernel) (by decide +kernel)
set_option maxRecDepth 20000 in
theorem gX6_line_X6_tells : GoodIn wsX6_line (wsV RX6 39 RX6 yX6_tells wsX6_tells) := goodIn_app (goodIn_of _ (by decide +kernel)) ggX6_line_X6_tells
theorem dX6_line_0 : decode cX6_line 0 = .ok (.aload_n 0, 1) := by decide +kernel
theorem dX6_line_1 : decode cX6_line 1 = .ok (.invokevirtual 130, 3) := by decide +kernel
theorem dX6_line_4 : decode cX6_line 4 = .ok (.iload_n 1, 1) := by decide +kernel
theorem dX6_line_5 : decode cX6_line 5 = .ok (.ifCond .lt 11, 3) := by decide +kernel
theorem dX6_line_8 : decode cX6_line 8 = .ok (.iload_n 1, 1) := by decide +kernel
theorem dX6_line_9 : decode cX6_line 9 = .ok (.aload_n 0, 1) := by decide +kernel
theorem dX6_line_10 : decode cX6_line 10 = .ok (.getfield 53, 3) := by decide +kernel
theorem dX6_line_13 : decode cX6_line 13 = .ok (.if_icmp .lt 9, 3) := by decide +kernel
theorem dX6_line_16 : decode cX6_line 16 = .ok (.aload_n 0, 1) := by decide +kernel
theorem dX6_line_17 : decode cX6_line 17 = .ok (.iconst 1, 1) := by decide +kernel
theorem dX6_line_18 : decode cX6_line 18 = .ok (.invokevirtual 101, 3) := by decide +kernel
theorem dX6_line_21 : decode cX6_line 21 = .ok (.ireturn, 1) := by decide +kernel
theorem dX6_line_22 : decode cX6_line 22 = .ok (.iload_n 2, 1) := by decide +kernel
theorem dX6_line_23 : decode cX6_line 23 = .ok (.iconst 0, 1) := by decide +kernel
theorem dX6_line_24 : decode cX6_line 24 = .ok (.bipush 11, 2) := by decide +kernel
theorem dX6_line_26 : decode cX6_line 26 = .ok (.invokestatic 28, 3) := by decide +kernel
theorem dX6_line_29 : decode cX6_line 29 = .ok (.ifCond .eq 16, 3) := by decide +kernel
theorem dX6_line_32 : decode cX6_line 32 = .ok (.aload_n 0, 1) := by decide +kernel
theorem dX6_line_33 : decode cX6_line 33 = .ok (.aload_n 0, 1) := by decide +kernel
theorem dX6_line_34 : decode cX6_line 34 = .ok (.iload_n 1, 1) := by decide +kernel
theorem dX6_line_35 : decode cX6_line 35 = .ok (.iload_n 2, 1) := by decide +kernel
theorem dX6_line_36 : decode cX6_line 36 = .ok (.invokevirtual 136, 3) := by decide +kernel
theorem dX6_line_39 : decode cX6_line 39 = .ok (.invokevirtual 39, 3) := by decide +kernel
theorem dX6_line_42 : decode cX6_line 42 = .ok (.goto 8, 3) := by decide +kernel
theorem dX6_line_45 : decode cX6_line 45 = .ok (.aload_n 0, 1) := by decide +kernel
theorem dX6_line_46 : decode cX6_line 46 = .ok (.iconst 2, 1) := by decide +kernel
theorem dX6_line_47 : decode cX6_line 47 = .ok (.invokevirtual 101, 3) := by decide +kernel
theorem dX6_line_50 : decode cX6_line 50 = .ok (.ireturn, 1) := by decide +kernel
set_option maxRecDepth 20000 in
theorem ggX6_pageTold_X6_lent : GoodIn wsX6_pageTold wsX6_lent := goodIn_r _ [7, 2, 8, 9, 10, 11, 12, 13, 14, 15, 16, 17, 18, 19, 20, 21, 22, 23] (by decide +kernel) (by decide +kernel)
set_option maxRecDepth 20000 in
theorem gX6_pageTold_X6_lent : GoodIn wsX6_pageTold (wsV RX6 89 RX6 yX6_lent wsX6_lent) := goodIn_app (goodIn_of _ (by decide +kernel)) ggX6_pageTold_X6_lent
theorem dX6_pageTold_0 : decode cX6_pageTold 0 = .ok (.aload_n 0, 1) := by decide +kernel
theorem dX6_pageTold_1 : decode cX6_pageTold 1 = .ok (.getfield 25, 3) := by decide +kernel
theorem dX6_pageTold_4 : decode cX6_pageTold 4 = .ok (.iconst 3, 1) := by decide +kernel
theorem dX6_pageTold_5 : decode cX6_pageTold 5 = .ok (.iload_n 1, 1) := by decide +kernel
theorem dX6_pageTold_6 : decode cX6_pageTold 6 = .ok (.imul, 1) := by decide +kernel
theorem dX6_pageTold_7 : decode cX6_pageTold 7 = .ok (.iaload, 1) := by decide +kernel
theorem dX6_pageTold_8 : decode cX6_pageTold 8 = .ok (.istore_n 3, 1) := by decide +kernel
theorem dX6_pageTold_9 : decode cX6_pageTold 9 = .ok (.iload_n 3, 1) := by decide +kernel
theorem dX6_pageTold_10 : decode cX6_pageTold 10 = .ok (.aload_n 0, 1) := by decide +kernel
theorem dX6_pageTold_11 : decode cX6_pageTold 11 = .ok (.getfield 25, 3) := by decide +kernel
theorem dX6_pageTold_14 : decode cX6_pageTold 14 = .ok (.iconst 3, 1) := by decide +kernel
theorem dX6_pageTold_15 : decode cX6_pageTold 15 = .ok (.iload_n 1, 1) := by decide +kernel
theorem dX6_pageTold_16 : decode cX6_pageTold 16 = .ok (.imul, 1) := by decide +kernel
theorem dX6_pageTold_17 : decode cX6_pageTold 17 = .ok (.iconst 1, 1) := by decide +kernel
theorem dX6_pageTold_18 : decode cX6_pageTold 18 = .ok (.iadd, 1) := by decide +kernel
theorem dX6_pageTold_19 : decode cX6_pageTold 19 = .ok (.iaload, 1) := by decide +kernel
theorem dX6_pageTold_20 : decode cX6_pageTold 20 = .ok (.iadd, 1) := by decide +kernel
theorem dX6_pageTold_21 : decode cX6_pageTold 21 = .ok (.istore 4, 2) := by decide +kernel
theorem dX6_pageTold_23 : decode cX6_pageTold 23 = .ok (.iload_n 2, 1) := by decide +kernel
theorem dX6_pageTold_24 : decode cX6_pageTold 24 = .ok (.iconst 4, 1) := by decide +kernel
theorem dX6_pageTold_25 : decode cX6_pageTold 25 = .ok (.if_icmp .ne 16, 3) := by decide +kernel
theorem dX6_pageTold_28 : decode cX6_pageTold 28 = .ok (.aload_n 0, 1) := by decide +kernel
theorem dX6_pageTold_29 : decode cX6_pageTold 29 = .ok (.getfield 22, 3) := by decide +kernel
theorem dX6_pageTold_32 : decode cX6_pageTold 32 = .ok (.bipush 10, 2) := by decide +kernel
theorem dX6_pageTold_34 : decode cX6_pageTold 34 = .ok (.iload 4, 2) := by decide +kernel
theorem dX6_pageTold_36 : decode cX6_pageTold 36 = .ok (.imul, 1) := by decide +kernel
theorem dX6_pageTold_37 : decode cX6_pageTold 37 = .ok (.iconst 2, 1) := by decide +kernel
theorem dX6_pageTold_38 : decode cX6_pageTold 38 = .ok (.isub, 1) := by decide +kernel
theorem dX6_pageTold_39 : decode cX6_pageTold 39 = .ok (.iaload, 1) := by decide +kernel
theorem dX6_pageTold_40 : decode cX6_pageTold 40 = .ok (.ireturn, 1) := by decide +kernel
theorem dX6_pageTold_41 : decode cX6_pageTold 41 = .ok (.iload_n 2, 1) := by decide +kernel
theorem dX6_pageTold_42 : decode cX6_pageTold 42 = .ok (.iconst 2, 1) := by decide +kernel
theorem dX6_pageTold_43 : decode cX6_pageTold 43 = .ok (.if_icmp .lt 8, 3) := by decide +kernel
theorem dX6_pageTold_46 : decode cX6_pageTold 46 = .ok (.iload_n 2, 1) := by decide +kernel
theorem dX6_pageTold_47 : decode cX6_pageTold 47 = .ok (.iconst 5, 1) := by decide +kernel
theorem dX6_pageTold_48 : decode cX6_pageTold 48 = .ok (.if_icmp .ne 32, 3) := by decide +kernel
theorem dX6_pageTold_51 : decode cX6_pageTold 51 = .ok (.iload_n 2, 1) := by decide +kernel
theorem dX6_pageTold_52 : decode cX6_pageTold 52 = .ok (.iconst 5, 1) := by decide +kernel
theorem dX6_pageTold_53 : decode cX6_pageTold 53 = .ok (.if_icmp .ne 16, 3) := by decide +kernel
theorem dX6_pageTold_56 : decode cX6_pageTold 56 = .ok (.aload_n 0, 1) := by decide +kernel
theorem dX6_pageTold_57 : decode cX6_pageTold 57 = .ok (.getfield 25, 3) := by decide +kernel
theorem dX6_pageTold_60 : decode cX6_pageTold 60 = .ok (.iconst 3, 1) := by decide +kernel
theorem dX6_pageTold_61 : decode cX6_pageTold 61 = .ok (.iload_n 1, 1) := by decide +kernel
theorem dX6_pageTold_62 : decode cX6_pageTold 62 = .ok (.imul, 1) := by decide +kernel
theorem dX6_pageTold_63 : decode cX6_pageTold 63 = .ok (.iconst 2, 1) := by decide +kernel
theorem dX6_pageTold_64 : decode cX6_pageTold 64 = .ok (.iadd, 1) := by decide +kernel
theorem dX6_pageTold_65 : decode cX6_pageTold 65 = .ok (.iaload, 1) := by decide +kernel
theorem dX6_pageTold_66 : decode cX6_pageTold 66 = .ok (.goto 13, 3) := by decide +kernel
theorem dX6_pageTold_69 : decode cX6_pageTold 69 = .ok (.aload_n 0, 1) := by decide +kernel
theorem dX6_pageTold_70 : decode cX6_pageTold 70 = .ok (.getfield 25, 3) := by decide +kernel
theorem dX6_pageTold_73 : decode cX6_pageTold 73 = .ok (.iconst 3, 1) := by decide +kernel
theorem dX6_pageTold_74 : decode cX6_pageTold 74 = .ok (.iload_n 1, 1) := by decide +kernel
theorem dX6_pageTold_75 : decode cX6_pageTold 75 = .ok (.imul, 1) := by decide +kernel
theorem dX6_pageTold_76 : decode cX6_pageTold 76 = .ok (.iload_n 2, 1) := by decide +kernel
theorem dX6_pageTold_77 : decode cX6_pageTold 77 = .ok (.iadd, 1) := by decide +kernel
theorem dX6_pageTold_78 : decode cX6_pageTold 78 = .ok (.iaload, 1) := by decide +kernel
theorem dX6_pageTold_79 : decode cX6_pageTold 79 = .ok (.ireturn, 1) := by decide +kernel
theorem dX6_pageTold_80 : decode cX6_pageTold 80 = .ok (.iconst 0, 1) := by decide +kernel
theorem dX6_pageTold_81 : decode cX6_pageTold 81 = .ok (.istore 5, 2) := by decide +kernel
theorem dX6_pageTold_83 : decode cX6_pageTold 83 = .ok (.iload_n 3, 1) := by decide +kernel
theorem dX6_pageTold_84 : decode cX6_pageTold 84 = .ok (.istore 6, 2) := by decide +kernel
theorem dX6_pageTold_86 : decode cX6_pageTold 86 = .ok (.iload 6, 2) := by decide +kernel
theorem dX6_pageTold_88 : decode cX6_pageTold 88 = .ok (.iload 4, 2) := by decide +kernel
theorem dX6_pageTold_90 : decode cX6_pageTold 90 = .ok (.if_icmp .ge 41, 3) := by decide +kernel
theorem dX6_pageTold_93 : decode cX6_pageTold 93 = .ok (.iload 5, 2) := by decide +kernel
theorem dX6_pageTold_95 : decode cX6_pageTold 95 = .ok (.iload_n 2, 1) := by decide +kernel
theorem dX6_pageTold_96 : decode cX6_pageTold 96 = .ok (.iconst 2, 1) := by decide +kernel
theorem dX6_pageTold_97 : decode cX6_pageTold 97 = .ok (.if_icmp .ne 12, 3) := by decide +kernel
theorem dX6_pageTold_100 : decode cX6_pageTold 100 = .ok (.aload_n 0, 1) := by decide +kernel
theorem dX6_pageTold_101 : decode cX6_pageTold 101 = .ok (.iload 6, 2) := by decide +kernel
theorem dX6_pageTold_103 : decode cX6_pageTold 103 = .ok (.invokevirtual 89, 3) := by decide +kernel
theorem dX6_pageTold_106 : decode cX6_pageTold 106 = .ok (.goto 16, 3) := by decide +kernel
theorem dX6_pageTold_109 : decode cX6_pageTold 109 = .ok (.aload_n 0, 1) := by decide +kernel
theorem dX6_pageTold_110 : decode cX6_pageTold 110 = .ok (.getfield 22, 3) := by decide +kernel
theorem dX6_pageTold_113 : decode cX6_pageTold 113 = .ok (.bipush 10, 2) := by decide +kernel
theorem dX6_pageTold_115 : decode cX6_pageTold 115 = .ok (.iload 6, 2) := by decide +kernel
theorem dX6_pageTold_117 : decode cX6_pageTold 117 = .ok (.imul, 1) := by decide +kernel
theorem dX6_pageTold_118 : decode cX6_pageTold 118 = .ok (.bipush 7, 2) := by decide +kernel
