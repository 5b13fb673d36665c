theorem dX5_wordValue_100 : decode cX5_wordValue 100 = .ok (.ifCond .eq 7, 3) := by decide +kernel
theorem dX5_wordValue_103 : decode cX5_wordValue 103 = .ok (.iconst 1, 1) := by decide +kernel
theorem dX5_wordValue_104 : decode cX5_wordValue 104 = .ok (.goto 4, 3) := by decide +kernel
theorem dX5_wordValue_107 : decode cX5_wordValue 107 = .ok (.iconst 0, 1) := by decide +kernel
theorem dX5_wordValue_108 : decode cX5_wordValue 108 = .ok (.ireturn, 1) := by decide +kernel
theorem dX5_wordValue_109 : decode cX5_wordValue 109 = .ok (.iload_n 3, 1) := by decide +kernel
theorem dX5_wordValue_110 : decode cX5_wordValue 110 = .ok (.ireturn, 1) := by decide +kernel
theorem dX5_wordValue_111 : decode cX5_wordValue 111 = .ok (.iload_n 1, 1) := by decide +kernel
theorem dX5_wordValue_112 : decode cX5_wordValue 112 = .ok (.aload_n 0, 1) := by decide +kernel
theorem dX5_wordValue_113 : decode cX5_wordValue 113 = .ok (.getfield 19, 3) := by decide +kernel
theorem dX5_wordValue_116 : decode cX5_wordValue 116 = .ok (.iload_n 3, 1) := by decide +kernel
theorem dX5_wordValue_117 : decode cX5_wordValue 117 = .ok (.iconst 1, 1) := by decide +kernel
theorem dX5_wordValue_118 : decode cX5_wordValue 118 = .ok (.invokevirtual 124, 3) := by decide +kernel
theorem dX5_wordValue_121 : decode cX5_wordValue 121 = .ok (.isub, 1) := by decide +kernel
theorem dX5_wordValue_122 : decode cX5_wordValue 122 = .ok (.ireturn, 1) := by decide +kernel
theorem dX5_wordValue_123 : decode cX5_wordValue 123 = .ok (.aload_n 0, 1) := by decide +kernel
theorem dX5_wordValue_124 : decode cX5_wordValue 124 = .ok (.getfield 19, 3) := by decide +kernel
theorem dX5_wordValue_127 : decode cX5_wordValue 127 = .ok (.iload_n 3, 1) := by decide +kernel
theorem dX5_wordValue_128 : decode cX5_wordValue 128 = .ok (.iconst 0, 1) := by decide +kernel
theorem dX5_wordValue_129 : decode cX5_wordValue 129 = .ok (.invokevirtual 124, 3) := by decide +kernel
theorem dX5_wordValue_132 : decode cX5_wordValue 132 = .ok (.ireturn, 1) := by decide +kernel
theorem dX5_wordValue_133 : decode cX5_wordValue 133 = .ok (.aload_n 0, 1) := by decide +kernel
theorem dX5_wordValue_134 : decode cX5_wordValue 134 = .ok (.iload_n 3, 1) := by decide +kernel
theorem dX5_wordValue_135 : decode cX5_wordValue 135 = .ok (.iload_n 1, 1) := by decide +kernel
theorem dX5_wordValue_136 : decode cX5_wordValue 136 = .ok (.invokevirtual 236, 3) := by decide +kernel
theorem dX5_wordValue_139 : decode cX5_wordValue 139 = .ok (.ireturn, 1) := by decide +kernel
set_option maxRecDepth 20000 in
theorem ggX5_leftEdge_X1_lineValue : GoodIn wsX5_leftEdge wsX1_lineValue := goodIn_r _ [7, 8, 32, 33, 34, 35, 36, 37, 38] (by decide +kernel) (by decide +kernel)
set_option maxRecDepth 20000 in
theorem gX5_leftEdge_X1_lineValue : GoodIn wsX5_leftEdge (wsV RX5 124 RX1 yX1_lineValue wsX1_lineValue) := goodIn_app (goodIn_of _ (by decide +kernel)) ggX5_leftEdge_X1_lineValue
set_option maxRecDepth 20000 in
theorem ggX5_leftEdge_X3_widthOf : GoodIn wsX5_leftEdge wsX3_widthOf := goodIn_r _ [13, 14, 15, 16, 17, 18, 19, 12, 20, 21, 22, 23, 24, 25, 39, 40, 41, 42, 43, 44, 45, 46, 47] (by decide +kernel) (by decide +kernel)
set_option maxRecDepth 20000 in
theorem gX5_leftEdge_X3_widthOf : GoodIn wsX5_leftEdge (wsV RX5 94 RX3 yX3_widthOf wsX3_widthOf) := goodIn_app (goodIn_of _ (by decide +kernel)) ggX5_leftEdge_X3_widthOf
theorem dX5_leftEdge_0 : decode cX5_leftEdge 0 = .ok (.aload_n 0, 1) := by decide +kernel
theorem dX5_leftEdge_1 : decode cX5_leftEdge 1 = .ok (.getfield 19, 3) := by decide +kernel
theorem dX5_leftEdge_4 : decode cX5_leftEdge 4 = .ok (.iload_n 1, 1) := by decide +kernel
theorem dX5_leftEdge_5 : decode cX5_leftEdge 5 = .ok (.iconst 5, 1) := by decide +kernel
theorem dX5_leftEdge_6 : decode cX5_leftEdge 6 = .ok (.invokevirtual 124, 3) := by decide +kernel
theorem dX5_leftEdge_9 : decode cX5_leftEdge 9 = .ok (.ineg, 1) := by decide +kernel
theorem dX5_leftEdge_10 : decode cX5_leftEdge 10 = .ok (.istore_n 3, 1) := by decide +kernel
theorem dX5_leftEdge_11 : decode cX5_leftEdge 11 = .ok (.aload_n 0, 1) := by decide +kernel
theorem dX5_leftEdge_12 : decode cX5_leftEdge 12 = .ok (.getfield 19, 3) := by decide +kernel
theorem dX5_leftEdge_15 : decode cX5_leftEdge 15 = .ok (.iload_n 1, 1) := by decide +kernel
theorem dX5_leftEdge_16 : decode cX5_leftEdge 16 = .ok (.iconst 1, 1) := by decide +kernel
theorem dX5_leftEdge_17 : decode cX5_leftEdge 17 = .ok (.invokevirtual 124, 3) := by decide +kernel
theorem dX5_leftEdge_20 : decode cX5_leftEdge 20 = .ok (.istore 4, 2) := by decide +kernel
theorem dX5_leftEdge_22 : decode cX5_leftEdge 22 = .ok (.iload 4, 2) := by decide +kernel
theorem dX5_leftEdge_24 : decode cX5_leftEdge 24 = .ok (.iload_n 2, 1) := by decide +kernel
theorem dX5_leftEdge_25 : decode cX5_leftEdge 25 = .ok (.if_icmp .ge 23, 3) := by decide +kernel
theorem dX5_leftEdge_28 : decode cX5_leftEdge 28 = .ok (.iload_n 3, 1) := by decide +kernel
theorem dX5_leftEdge_29 : decode cX5_leftEdge 29 = .ok (.aload_n 0, 1) := by decide +kernel
theorem dX5_leftEdge_30 : decode cX5_leftEdge 30 = .ok (.getfield 10, 3) := by decide +kernel
theorem dX5_leftEdge_33 : decode cX5_leftEdge 33 = .ok (.iload 4, 2) := by decide +kernel
theorem dX5_leftEdge_35 : decode cX5_leftEdge 35 = .ok (.invokevirtual 94, 3) := by decide +kernel
theorem dX5_leftEdge_38 : decode cX5_leftEdge 38 = .ok (.iconst 2, 1) := by decide +kernel
theorem dX5_leftEdge_39 : decode cX5_leftEdge 39 = .ok (.iadd, 1) := by decide +kernel
theorem dX5_leftEdge_40 : decode cX5_leftEdge 40 = .ok (.iadd, 1) := by decide +kernel
theorem dX5_leftEdge_41 : decode cX5_leftEdge 41 = .ok (.istore_n 3, 1) := by decide +kernel
theorem dX5_leftEdge_42 : decode cX5_leftEdge 42 = .ok (.iinc 4 1, 3) := by decide +kernel
theorem dX5_leftEdge_45 : decode cX5_leftEdge 45 = .ok (.goto (-23), 3) := by decide +kernel
theorem dX5_leftEdge_48 : decode cX5_leftEdge 48 = .ok (.iload_n 3, 1) := by decide +kernel
theorem dX5_leftEdge_49 : decode cX5_leftEdge 49 = .ok (.ireturn, 1) := by decide +kernel
set_option maxRecDepth 20000 in
theorem ggX5_wholeValue_X3_paragraphs : GoodIn wsX5_wholeValue wsX3_paragraphs := goodIn_r _ [12, 13, 14, 15, 16, 11, 17, 18, 19, 20, 21, 22, 53, 54, 55, 56, 57, 58, 59, 60, 61] (by decide +kernel) (by decide +kernel)
set_option maxRecDepth 20000 in
theorem gX5_wholeValue_X3_paragraphs : GoodIn wsX5_wholeValue (wsV RX5 239 RX3 yX3_paragraphs wsX3_paragraphs) := goodIn_app (goodIn_of _ (by decide +kernel)) ggX5_wholeValue_X3_paragraphs
set_option maxRecDepth 20000 in
theorem ggX5_wholeValue_X1_lendingLines : GoodIn wsX5_wholeValue wsX1_lendingLines := goodIn_r _ [27, 28, 29, 30, 31, 26, 32, 33, 34, 35, 36, 37, 62, 63, 64, 65, 66, 67, 68] (by decide +kernel) (by decide +kernel)
set_option maxRecDepth 20000 in
theorem gX5_wholeValue_X1_lendingLines : GoodIn wsX5_wholeValue (wsV RX5 242 RX1 yX1_lendingLines wsX1_lendingLines) := goodIn_app (goodIn_of _ (by decide +kernel)) ggX5_wholeValue_X1_lendingLines
set_option maxRecDepth 20000 in
theorem ggX5_wholeValue_X1_sumOf : GoodIn wsX5_wholeValue wsX1_sumOf := goodIn_r _ [41, 28, 33, 34, 35, 26, 36, 37, 62, 63, 64, 65, 66, 67, 68] (by decide +kernel) (by decide +kernel)
set_option maxRecDepth 20000 in
theorem gX5_wholeValue_X1_sumOf : GoodIn wsX5_wholeValue (wsV RX5 140 RX1 yX1_sumOf wsX1_sumOf) := goodIn_app (goodIn_of _ (by decide +kernel)) ggX5_wholeValue_X1_sumOf
set_option maxRecDepth 20000 in
theorem ggX5_wholeValue_X3_setting : GoodIn wsX5_wholeValue wsX3_setting := goodIn_r _ [45, 46, 53, 54, 55, 56, 57, 58, 59, 60, 61] (by decide +kernel) (by decide +kernel)
set_option maxRecDepth 20000 in
theorem gX5_wholeValue_X3_setting : GoodIn wsX5_wholeValue (wsV RX5 105 RX3 yX3_setting wsX3_setting) := goodIn_app (goodIn_of _ (by decide +kernel)) ggX5_wholeValue_X3_setting
theorem dX5_wholeValue_0 : decode cX5_wholeValue 0 = .ok (.iload_n 1, 1) := by decide +kernel
theorem dX5_wholeValue_1 : decode cX5_wholeValue 1 = .ok (.tableswitch 148 0 13 #[71, 79, 87, 95, 148, 148, 148, 148, 148, 148, 103, 111, 121, 140], 71) := by decide +kernel
theorem dX5_wholeValue_72 : decode cX5_wholeValue 72 = .ok (.aload_n 0, 1) := by decide +kernel
theorem dX5_wholeValue_73 : decode cX5_wholeValue 73 = .ok (.getfield 10, 3) := by decide +kernel
theorem dX5_wholeValue_76 : decode cX5_wholeValue 76 = .ok (.getfield 43, 3) := by decide +kernel
theorem dX5_wholeValue_79 : decode cX5_wholeValue 79 = .ok (.ireturn, 1) := by decide +kernel
theorem dX5_wholeValue_80 : decode cX5_wholeValue 80 = .ok (.aload_n 0, 1) := by decide +kernel
theorem dX5_wholeValue_81 : decode cX5_wholeValue 81 = .ok (.getfield 19, 3) := by decide +kernel
theorem dX5_wholeValue_84 : decode cX5_wholeValue 84 = .ok (.getfield 121, 3) := by decide +kernel
theorem dX5_wholeValue_87 : decode cX5_wholeValue 87 = .ok (.ireturn, 1) := by decide +kernel
theorem dX5_wholeValue_88 : decode cX5_wholeValue 88 = .ok (.aload_n 0, 1) := by decide +kernel
theorem dX5_wholeValue_89 : decode cX5_wholeValue 89 = .ok (.getfield 19, 3) := by decide +kernel
theorem dX5_wholeValue_92 : decode cX5_wholeValue 92 = .ok (.getfield 127, 3) := by decide +kernel
theorem dX5_wholeValue_95 : decode cX5_wholeValue 95 = .ok (.ireturn, 1) := by decide +kernel
theorem dX5_wholeValue_96 : decode cX5_wholeValue 96 = .ok (.aload_n 0, 1) := by decide +kernel
theorem dX5_wholeValue_97 : decode cX5_wholeValue 97 = .ok (.getfield 10, 3) := by decide +kernel
theorem dX5_wholeValue_100 : decode cX5_wholeValue 100 = .ok (.invokevirtual 239, 3) := by decide +kernel
theorem dX5_wholeValue_103 : decode cX5_wholeValue 103 = .ok (.ireturn, 1) := by decide +kernel
theorem dX5_wholeValue_104 : decode cX5_wholeValue 104 = .ok (.aload_n 0, 1) := by decide +kernel
theorem dX5_wholeValue_105 : decode cX5_wholeValue 105 = .ok (.getfield 19, 3) := by decide +kernel
theorem dX5_wholeValue_108 : decode cX5_wholeValue 108 = .ok (.invokevirtual 242, 3) := by decide +kernel
theorem dX5_wholeValue_111 : decode cX5_wholeValue 111 = .ok (.ireturn, 1) := by decide +kernel
theorem dX5_wholeValue_112 : decode cX5_wholeValue 112 = .ok (.aload_n 0, 1) := by decide +kernel
theorem dX5_wholeValue_113 : decode cX5_wholeValue 113 = .ok (.getfield 19, 3) := by decide +kernel
theorem dX5_wholeValue_116 : decode cX5_wholeValue 116 = .ok (.bipush 9, 2) := by decide +kernel
theorem dX5_wholeValue_118 : decode cX5_wholeValue 118 = .ok (.invokevirtual 140, 3) := by decide +kernel
theorem dX5_wholeValue_121 : decode cX5_wholeValue 121 = .ok (.ireturn, 1) := by decide +kernel
theorem dX5_wholeValue_122 : decode cX5_wholeValue 122 = .ok (.aload_n 0, 1) := by decide +kernel
theorem dX5_wholeValue_123 : decode cX5_wholeValue 123 = .ok (.getfield 19, 3) := by decide +kernel
theorem dX5_wholeValue_126 : decode cX5_wholeValue 126 = .ok (.iconst 5, 1) := by decide +kernel
theorem dX5_wholeValue_127 : decode cX5_wholeValue 127 = .ok (.invokevirtual 140, 3) := by decide +kernel
theorem dX5_wholeValue_130 : decode cX5_wholeValue 130 = .ok (.aload_n 0, 1) := by decide +kernel
theorem dX5_wholeValue_131 : decode cX5_wholeValue 131 = .ok (.getfield 19, 3) := by decide +kernel
theorem dX5_wholeValue_134 : decode cX5_wholeValue 134 = .ok (.bipush 6, 2) := by decide +kernel
theorem dX5_wholeValue_136 : decode cX5_wholeValue 136 = .ok (.invokevirtual 140, 3) := by decide +kernel
theorem dX5_wholeValue_139 : decode cX5_wholeValue 139 = .ok (.iadd, 1) := by decide +kernel
theorem dX5_wholeValue_140 : decode cX5_wholeValue 140 = .ok (.ireturn, 1) := by decide +kernel
theorem dX5_wholeValue_141 : decode cX5_wholeValue 141 = .ok (.aload_n 0, 1) := by decide +kernel
theorem dX5_wholeValue_142 : decode cX5_wholeValue 142 = .ok (.getfield 29, 3) := by decide +kernel
theorem dX5_wholeValue_145 : decode cX5_wholeValue 145 = .ok (.getfield 158, 3) := by decide +kernel
theorem dX5_wholeValue_148 : decode cX5_wholeValue 148 = .ok (.ireturn, 1) := by decide +kernel
theorem dX5_wholeValue_149 : decode cX5_wholeValue 149 = .ok (.aload_n 0, 1) := by decide +kernel
theorem dX5_wholeValue_150 : decode cX5_wholeValue 150 = .ok (.getfield 10, 3) := by decide +kernel
theorem dX5_wholeValue_153 : decode cX5_wholeValue 153 = .ok (.iload_n 1, 1) := by decide +kernel
theorem dX5_wholeValue_154 : decode cX5_wholeValue 154 = .ok (.iconst 4, 1) := by decide +kernel
theorem dX5_wholeValue_155 : decode cX5_wholeValue 155 = .ok (.isub, 1) := by decide +kernel
theorem dX5_wholeValue_156 : decode cX5_wholeValue 156 = .ok (.invokevirtual 105, 3) := by decide +kernel
theorem dX5_wholeValue_159 : decode cX5_wholeValue 159 = .ok (.ireturn, 1) := by decide +kernel
theorem dJ9_max_7cf53_0 : decode cJ9_max_7cf53 0 = .ok (.iload_n 0, 1) := by decide +kernel
theorem dJ9_max_7cf53_1 : decode cJ9_max_7cf53 1 = .ok (.iload_n 1, 1) := by decide +kernel
theorem dJ9_max_7cf53_2 : decode cJ9_max_7cf53 2 = .ok (.if_icmp .lt 7, 3) := by decide +kernel
theorem dJ9_max_7cf53_5 : decode cJ9_max_7cf53 5 = .ok (.iload_n 0, 1) := by decide +kernel
theorem dJ9_max_7cf53_6 : decode cJ9_max_7cf53 6 = .ok (.goto 4, 3) := by decide +kernel
theorem dJ9_max_7cf53_9 : decode cJ9_max_7cf53 9 = .ok (.iload_n 1, 1) := by decide +kernel
theorem dJ9_max_7cf53_10 : decode cJ9_max_7cf53 10 = .ok (.ireturn, 1) := by decide +kernel
theorem dJ9_min_7cf53_0 : decode cJ9_min_7cf53 0 = .ok (.iload_n 0, 1) := by decide +kernel
theorem dJ9_min_7cf53_1 : decode cJ9_min_7cf53 1 = .ok (.iload_n 1, 1) := by decide +kernel
theorem dJ9_min_7cf53_2 : decode cJ9_min_7cf53 2 = .ok (.if_icmp .gt 7, 3) := by decide +kernel
theorem dJ9_min_7cf53_5 : decode cJ9_min_7cf53 5 = .ok (.iload_n 0, 1) := by decide +kernel
theorem dJ9_min_7cf53_6 : decode cJ9_min_7cf53 6 = .ok (.goto 4, 3) := by decide +kernel
theorem dJ9_min_7cf53_9 : decode cJ9_min_7cf53 9 = .ok (.iload_n 1, 1) := by decide +kernel
theorem dJ9_min_7cf53_10 : decode cJ9_min_7cf53 10 = .ok (.ireturn, 1) := by decide +kernel
theorem dL_cell_0 : decode cL_cell 0 = .ok (.iload_n 1, 1) := by decide +kernel
theorem dL_cell_1 : decode cL_cell 1 = .ok (.aload_n 0, 1) := by decide +kernel
theorem dL_cell_2 : decode cL_cell 2 = .ok (.arraylength, 1) := by decide +kernel
theorem dL_cell_3 : decode cL_cell 3 = .ok (.if_icmp .ge 9, 3) := by decide +kernel
theorem dL_cell_6 : decode cL_cell 6 = .ok (.aload_n 0, 1) := by decide +kernel
theorem dL_cell_7 : decode cL_cell 7 = .ok (.iload_n 1, 1) := by decide +kernel
theorem dL_cell_8 : decode cL_cell 8 = .ok (.iaload, 1) := by decide +kernel
theorem dL_cell_9 : decode cL_cell 9 = .ok (.goto 9, 3) := by decide +kernel
theorem dL_cell_12 : decode cL_cell 12 = .ok (.ldc 7, 2) := by decide +kernel
theorem dL_cell_14 : decode cL_cell 14 = .ok (.iload_n 1, 1) := by decide +kernel
theorem dL_cell_15 : decode cL_cell 15 = .ok (.iconst 3, 1) := by decide +kernel
theorem dL_cell_16 : decode cL_cell 16 = .ok (.iadd, 1) := by decide +kernel
theorem dL_cell_17 : decode cL_cell 17 = .ok (.imul, 1) := by decide +kernel
theorem dL_cell_18 : decode cL_cell 18 = .ok (.ireturn, 1) := by decide +kernel
theorem dL_low_0 : decode cL_low 0 = .ok (.iload_n 0, 1) := by decide +kernel
theorem dL_low_1 : decode cL_low 1 = .ok (.ldc 8, 2) := by decide +kernel
theorem dL_low_3 : decode cL_low 3 = .ok (.iand, 1) := by decide +kernel
theorem dL_low_4 : decode cL_low 4 = .ok (.iload_n 1, 1) := by decide +kernel
theorem dL_low_5 : decode cL_low 5 = .ok (.irem, 1) := by decide +kernel
theorem dL_low_6 : decode cL_low 6 = .ok (.ireturn, 1) := by decide +kernel
theorem dL_sign_0 : decode cL_sign 0 = .ok (.iload_n 0, 1) := by decide +kernel
theorem dL_sign_1 : decode cL_sign 1 = .ok (.ifCond .ge 7, 3) := by decide +kernel
theorem dL_sign_4 : decode cL_sign 4 = .ok (.iconst 0, 1) := by decide +kernel
theorem dL_sign_5 : decode cL_sign 5 = .ok (.goto 17, 3) := by decide +kernel
theorem dL_sign_8 : decode cL_sign 8 = .ok (.iload_n 0, 1) := by decide +kernel
theorem dL_sign_9 : decode cL_sign 9 = .ok (.ifCond .eq 8, 3) := by decide +kernel
theorem dL_sign_12 : decode cL_sign 12 = .ok (.iload_n 0, 1) := by decide +kernel
theorem dL_sign_13 : decode cL_sign 13 = .ok (.iconst 5, 1) := by decide +kernel
theorem dL_sign_14 : decode cL_sign 14 = .ok (.if_icmp .ne 7, 3) := by decide +kernel
theorem dL_sign_17 : decode cL_sign 17 = .ok (.iconst 3, 1) := by decide +kernel
theorem dL_sign_18 : decode cL_sign 18 = .ok (.goto 4, 3) := by decide +kernel
theorem dL_sign_21 : decode cL_sign 21 = .ok (.iconst 2, 1) := by decide +kernel
theorem dL_sign_22 : decode cL_sign 22 = .ok (.ireturn, 1) := by decide +kernel
set_option maxRecDepth 20000 in
theorem ggL_width_L_sign : GoodIn wsL_width wsL_sign := goodIn_r _ [4] (by decide +kernel) (by decide +kernel)
set_option maxRecDepth 20000 in
theorem gL_width_L_sign : GoodIn wsL_width (va_wsS RL 9 yL_sign wsL_sign) := goodIn_app (goodIn_of _ (by decide +kernel)) ggL_width_L_sign
theorem dL_width_0 : decode cL_width 0 = .ok (.aload_n 0, 1) := by decide +kernel
theorem dL_width_1 : decode cL_width 1 = .ok (.iconst 5, 1) := by decide +kernel
theorem dL_width_2 : decode cL_width 2 = .ok (.iload_n 1, 1) := by decide +kernel
theorem dL_width_3 : decode cL_width 3 = .ok (.imul, 1) := by decide +kernel
theorem dL_width_4 : decode cL_width 4 = .ok (.iconst 2, 1) := by decide +kernel
theorem dL_width_5 : decode cL_width 5 = .ok (.iadd, 1) := by decide +kernel
theorem dL_width_6 : decode cL_width 6 = .ok (.iaload, 1) := by decide +kernel
theorem dL_width_7 : decode cL_width 7 = .ok (.invokestatic 9, 3) := by decide +kernel
theorem dL_width_10 : decode cL_width 10 = .ok (.aload_n 0, 1) := by decide +kernel
theorem dL_width_11 : decode cL_width 11 = .ok (.iconst 5, 1) := by decide +kernel
theorem dL_width_12 : decode cL_width 12 = .ok (.iload_n 1, 1) := by decide +kernel
theorem dL_width_13 : decode cL_width 13 = .ok (.imul, 1) := by decide +kernel
theorem dL_width_14 : decode cL_width 14 = .ok (.iconst 3, 1) := by decide +kernel
theorem dL_width_15 : decode cL_width 15 = .ok (.iadd, 1) := by decide +kernel
theorem dL_width_16 : decode cL_width 16 = .ok (.iaload, 1) := by decide +kernel
theorem dL_width_17 : decode cL_width 17 = .ok (.invokestatic 9, 3) := by decide +kernel
theorem dL_width_20 : decode cL_width 20 = .ok (.iadd, 1) := by decide +kernel
theorem dL_width_21 : decode cL_width 21 = .ok (.istore_n 2, 1) := by decide +kernel
theorem dL_width_22 : decode cL_width 22 = .ok (.iconst 0, 1) := by decide +kernel
theorem dL_width_23 : decode cL_width 23 = .ok (.istore_n 3, 1) := by decide +kernel
theorem dL_width_24 : decode cL_width 24 = .ok (.iload_n 3, 1) := by decide +kernel
theorem dL_width_25 : decode cL_width 25 = .ok (.aload_n 0, 1) := by decide +kernel
theorem dL_width_26 : decode cL_width 26 = .ok (.iconst 5, 1) := by decide +kernel
theorem dL_width_27 : decode cL_width 27 = .ok (.iload_n 1, 1) := by decide +kernel
theorem dL_width_28 : decode cL_width 28 = .ok (.imul, 1) := by decide +kernel
theorem dL_width_29 : decode cL_width 29 = .ok (.iconst 1, 1) := by decide +kernel
theorem dL_width_30 : decode cL_width 30 = .ok (.iadd, 1) := by decide +kernel
theorem dL_width_31 : decode cL_width 31 = .ok (.iaload, 1) := by decide +kernel
theorem dL_width_32 : decode cL_width 32 = .ok (.if_icmp .ge 82, 3) := by decide +kernel
theorem dL_width_35 : decode cL_width 35 = .ok (.aload_n 0, 1) := by decide +kernel
theorem dL_width_36 : decode cL_width 36 = .ok (.iconst 5, 1) := by decide +kernel
theorem dL_width_37 : decode cL_width 37 = .ok (.iload_n 1, 1) := by decide +kernel
theorem dL_width_38 : decode cL_width 38 = .ok (.imul, 1) := by decide +kernel
theorem dL_width_39 : decode cL_width 39 = .ok (.iaload, 1) := by decide +kernel
theorem dL_width_40 : decode cL_width 40 = .ok (.iload_n 3, 1) := by decide +kernel
theorem dL_width_41 : decode cL_width 41 = .ok (.iadd, 1) := by decide +kernel
theorem dL_width_42 : decode cL_width 42 = .ok (.bipush 26, 2) := by decide +kernel
theorem dL_width_44 : decode cL_width 44 = .ok (.irem, 1) := by decide +kernel
theorem dL_width_45 : decode cL_width 45 = .ok (.istore 4, 2) := by decide +kernel
theorem dL_width_47 : decode cL_width 47 = .ok (.iload_n 2, 1) := by decide +kernel
theorem dL_width_48 : decode cL_width 48 = .ok (.iload 4, 2) := by decide +kernel
theorem dL_width_50 : decode cL_width 50 = .ok (.iconst 5, 1) := by decide +kernel
theorem dL_width_51 : decode cL_width 51 = .ok (.if_icmp .eq 31, 3) := by decide +kernel
theorem dL_width_54 : decode cL_width 54 = .ok (.iload 4, 2) := by decide +kernel
theorem dL_width_56 : decode cL_width 56 = .ok (.bipush 8, 2) := by decide +kernel
theorem dL_width_58 : decode cL_width 58 = .ok (.if_icmp .eq 24, 3) := by decide +kernel
theorem dL_width_61 : decode cL_width 61 = .ok (.iload 4, 2) := by decide +kernel
theorem dL_width_63 : decode cL_width 63 = .ok (.bipush 9, 2) := by decide +kernel
theorem dL_width_65 : decode cL_width 65 = .ok (.if_icmp .eq 17, 3) := by decide +kernel
theorem dL_width_68 : decode cL_width 68 = .ok (.iload 4, 2) := by decide +kernel
theorem dL_width_70 : decode cL_width 70 = .ok (.bipush 11, 2) := by decide +kernel
theorem dL_width_72 : decode cL_width 72 = .ok (.if_icmp .eq 10, 3) := by decide +kernel
theorem dL_width_75 : decode cL_width 75 = .ok (.iload 4, 2) := by decide +kernel
theorem dL_width_77 : decode cL_width 77 = .ok (.bipush 19, 2) := by decide +kernel
theorem dL_width_79 : decode cL_width 79 = .ok (.if_icmp .ne 7, 3) := by decide +kernel
theorem dL_width_82 : decode cL_width 82 = .ok (.iconst 2, 1) := by decide +kernel
theorem dL_width_83 : decode cL_width 83 = .ok (.goto 23, 3) := by decide +kernel
theorem dL_width_86 : decode cL_width 86 = .ok (.iload 4, 2) := by decide +kernel
theorem dL_width_88 : decode cL_width 88 = .ok (.bipush 12, 2) := by decide +kernel
theorem dL_width_90 : decode cL_width 90 = .ok (.if_icmp .eq 10, 3) := by decide +kernel
theorem dL_width_93 : decode cL_width 93 = .ok (.iload 4, 2) := by decide +kernel
theorem dL_width_95 : decode cL_width 95 = .ok (.bipush 22, 2) := by decide +kernel
theorem dL_width_97 : decode cL_width 97 = .ok (.if_icmp .ne 8, 3) := by decide +kernel
theorem dL_width_100 : decode cL_width 100 = .ok (.bipush 6, 2) := by decide +kernel
theorem dL_width_102 : decode cL_width 102 = .ok (.goto 4, 3) := by decide +kernel
theorem dL_width_105 : decode cL_width 105 = .ok (.iconst 4, 1) := by decide +kernel
theorem dL_width_106 : decode cL_width 106 = .ok (.iadd, 1) := by decide +kernel
theorem dL_width_107 : decode cL_width 107 = .ok (.istore_n 2, 1) := by decide +kernel
theorem dL_width_108 : decode cL_width 108 = .ok (.iinc 3 1, 3) := by decide +kernel
theorem dL_width_111 : decode cL_width 111 = .ok (.goto (-87), 3) := by decide +kernel
theorem dL_width_114 : decode cL_width 114 = .ok (.iload_n 2, 1) := by decide +kernel
theorem dL_width_115 : decode cL_width 115 = .ok (.ireturn, 1) := by decide +kernel
set_option maxRecDepth 20000 in
theorem ggL_natural_L_width : GoodIn wsL_natural wsL_width := goodIn_r _ [4, 5, 6, 3, 7] (by decide +kernel) (by decide +kernel)
set_option maxRecDepth 20000 in
theorem gL_natural_L_width : GoodIn wsL_natural (va_wsS RL 15 yL_width wsL_width) := goodIn_app (goodIn_of _ (by decide +kernel)) ggL_natural_L_width
theorem dL_natural_0 : decode cL_natural 0 = .ok (.iconst 2, 1) := by decide +kernel
theorem dL_natural_1 : decode cL_natural 1 = .ok (.iload_n 2, 1) := by decide +kernel
theorem dL_natural_2 : decode cL_natural 2 = .ok (.imul, 1) := by decide +kernel
theorem dL_natural_3 : decode cL_natural 3 = .ok (.iconst 2, 1) := by decide +kernel
theorem dL_natural_4 : decode cL_natural 4 = .ok (.isub, 1) := by decide +kernel
theorem dL_natural_5 : decode cL_natural 5 = .ok (.istore_n 3, 1) := by decide +kernel
theorem dL_natural_6 : decode cL_natural 6 = .ok (.iload_n 1, 1) := by decide +kernel
theorem dL_natural_7 : decode cL_natural 7 = .ok (.istore 4, 2) := by decide +kernel
theorem dL_natural_9 : decode cL_natural 9 = .ok (.iload 4, 2) := by decide +kernel
theorem dL_natural_11 : decode cL_natural 11 = .ok (.iload_n 1, 1) := by decide +kernel
theorem dL_natural_12 : decode cL_natural 12 = .ok (.iload_n 2, 1) := by decide +kernel
theorem dL_natural_13 : decode cL_natural 13 = .ok (.iadd, 1) := by decide +kernel
theorem dL_natural_14 : decode cL_natural 14 = .ok (.if_icmp .ge 18, 3) := by decide +kernel
theorem dL_natural_17 : decode cL_natural 17 = .ok (.iload_n 3, 1) := by decide +kernel
theorem dL_natural_18 : decode cL_natural 18 = .ok (.aload_n 0, 1) := by decide +kernel
theorem dL_natural_19 : decode cL_natural 19 = .ok (.iload 4, 2) := by decide +kernel
theorem dL_natural_21 : decode cL_natural 21 = .ok (.invokestatic 15, 3) := by decide +kernel
theorem dL_natural_24 : decode cL_natural 24 = .ok (.iadd, 1) := by decide +kernel
theorem dL_natural_25 : decode cL_natural 25 = .ok (.istore_n 3, 1) := by decide +kernel
theorem dL_natural_26 : decode cL_natural 26 = .ok (.iinc 4 1, 3) := by decide +kernel
theorem dL_natural_29 : decode cL_natural 29 = .ok (.goto (-20), 3) := by decide +kernel
theorem dL_natural_32 : decode cL_natural 32 = .ok (.iload_n 3, 1) := by decide +kernel
theorem dL_natural_33 : decode cL_natural 33 = .ok (.ireturn, 1) := by decide +kernel
set_option maxRecDepth 20000 in
theorem ggL_hang_L_sign : GoodIn wsL_hang wsL_sign := goodIn_r _ [4] (by decide +kernel) (by decide +kernel)
set_option maxRecDepth 20000 in
theorem gL_hang_L_sign : GoodIn wsL_hang (va_wsS RL 9 yL_sign wsL_sign) := goodIn_app (goodIn_of _ (by decide +kernel)) ggL_hang_L_sign
theorem dL_hang_0 : decode cL_hang 0 = .ok (.iload_n 1, 1) := by decide +kernel
theorem dL_hang_1 : decode cL_hang 1 = .ok (.ifCond .ge 7, 3) := by decide +kernel
theorem dL_hang_4 : decode cL_hang 4 = .ok (.iconst 0, 1) := by decide +kernel
theorem dL_hang_5 : decode cL_hang 5 = .ok (.goto 17, 3) := by decide +kernel
theorem dL_hang_8 : decode cL_hang 8 = .ok (.iload_n 1, 1) := by decide +kernel
theorem dL_hang_9 : decode cL_hang 9 = .ok (.invokestatic 9, 3) := by decide +kernel
theorem dL_hang_12 : decode cL_hang 12 = .ok (.aload_n 0, 1) := by decide +kernel
theorem dL_hang_13 : decode cL_hang 13 = .ok (.bipush 6, 2) := by decide +kernel
theorem dL_hang_15 : decode cL_hang 15 = .ok (.iload_n 1, 1) := by decide +kernel
theorem dL_hang_16 : decode cL_hang 16 = .ok (.iadd, 1) := by decide +kernel
theorem dL_hang_17 : decode cL_hang 17 = .ok (.iaload, 1) := by decide +kernel
theorem dL_hang_18 : decode cL_hang 18 = .ok (.imul, 1) := by decide +kernel
theorem dL_hang_19 : decode cL_hang 19 = .ok (.bipush 100, 2) := by decide +kernel
theorem dL_hang_21 : decode cL_hang 21 = .ok (.idiv, 1) := by decide +kernel
theorem dL_hang_22 : decode cL_hang 22 = .ok (.istore_n 3, 1) := by decide +kernel
theorem dL_hang_23 : decode cL_hang 23 = .ok (.iload_n 3, 1) := by decide +kernel
theorem dL_hang_24 : decode cL_hang 24 = .ok (.iload_n 2, 1) := by decide +kernel
theorem dL_hang_25 : decode cL_hang 25 = .ok (.if_icmp .le 7, 3) := by decide +kernel
theorem dL_hang_28 : decode cL_hang 28 = .ok (.iload_n 2, 1) := by decide +kernel
theorem dL_hang_29 : decode cL_hang 29 = .ok (.goto 4, 3) := by decide +kernel
theorem dL_hang_32 : decode cL_hang 32 = .ok (.iload_n 3, 1) := by decide +kernel
theorem dL_hang_33 : decode cL_hang 33 = .ok (.ireturn, 1) := by decide +kernel
theorem dL_closes_0 : decode cL_closes 0 = .ok (.aload_n 1, 1) := by decide +kernel
theorem dL_closes_1 : decode cL_closes 1 = .ok (.iconst 5, 1) := by decide +kernel
theorem dL_closes_2 : decode cL_closes 2 = .ok (.iload_n 2, 1) := by decide +kernel
theorem dL_closes_3 : decode cL_closes 3 = .ok (.imul, 1) := by decide +kernel
theorem dL_closes_4 : decode cL_closes 4 = .ok (.iconst 4, 1) := by decide +kernel
theorem dL_closes_5 : decode cL_closes 5 = .ok (.iadd, 1) := by decide +kernel
theorem dL_closes_6 : decode cL_closes 6 = .ok (.iaload, 1) := by decide +kernel
theorem dL_closes_7 : decode cL_closes 7 = .ok (.iconst 1, 1) := by decide +kernel
theorem dL_closes_8 : decode cL_closes 8 = .ok (.if_icmp .eq 13, 3) := by decide +kernel
theorem dL_closes_11 : decode cL_closes 11 = .ok (.iload_n 2, 1) := by decide +kernel
theorem dL_closes_12 : decode cL_closes 12 = .ok (.iconst 1, 1) := by decide +kernel
theorem dL_closes_13 : decode cL_closes 13 = .ok (.iadd, 1) := by decide +kernel
theorem dL_closes_14 : decode cL_closes 14 = .ok (.aload_n 0, 1) := by decide +kernel
theorem dL_closes_15 : decode cL_closes 15 = .ok (.bipush 14, 2) := by decide +kernel
theorem dL_closes_17 : decode cL_closes 17 = .ok (.iaload, 1) := by decide +kernel
theorem dL_closes_18 : decode cL_closes 18 = .ok (.if_icmp .ne 7, 3) := by decide +kernel
theorem dL_closes_21 : decode cL_closes 21 = .ok (.iconst 1, 1) := by decide +kernel
theorem dL_closes_22 : decode cL_closes 22 = .ok (.goto 4, 3) := by decide +kernel
theorem dL_closes_25 : decode cL_closes 25 = .ok (.iconst 0, 1) := by decide +kernel
theorem dL_closes_26 : decode cL_closes 26 = .ok (.ireturn, 1) := by decide +kernel
set_option maxRecDepth 20000 in
theorem ggL_row_L_closes : GoodIn wsL_row wsL_closes := goodIn_r _ [4] (by decide +kernel) (by decide +kernel)
set_option maxRecDepth 20000 in
theorem gL_row_L_closes : GoodIn wsL_row (va_wsS RL 19 yL_closes wsL_closes) := goodIn_app (goodIn_of _ (by decide +kernel)) ggL_row_L_closes
set_option maxRecDepth 20000 in
theorem ggL_row_L_natural : GoodIn wsL_row wsL_natural := goodIn_r _ [7, 8, 9, 3, 10, 11, 12, 13] (by decide +kernel) (by decide +kernel)
set_option maxRecDepth 20000 in
theorem gL_row_L_natural : GoodIn wsL_row (va_wsS RL 23 yL_natural wsL_natural) := goodIn_app (goodIn_of _ (by decide +kernel)) ggL_row_L_natural
set_option maxRecDepth 20000 in
theorem ggL_row_L_hang : GoodIn wsL_row wsL_hang := goodIn_r _ [16, 11, 12, 3, 13] (by decide +kernel) (by decide +kernel)
set_option maxRecDepth 20000 in
theorem gL_row_L_hang : GoodIn wsL_row (va_wsS RL 27 yL_hang wsL_hang) := goodIn_app (goodIn_of _ (by decide +kernel)) ggL_row_L_hang
theorem dL_row_0 : decode cL_row 0 = .ok (.iload 5, 2) := by decide +kernel
theorem dL_row_2 : decode cL_row 2 = .ok (.aload_n 0, 1) := by decide +kernel
theorem dL_row_3 : decode cL_row 3 = .ok (.iconst 4, 1) := by decide +kernel
theorem dL_row_4 : decode cL_row 4 = .ok (.iaload, 1) := by decide +kernel
theorem dL_row_5 : decode cL_row 5 = .ok (.if_icmp .le 9, 3) := by decide +kernel
theorem dL_row_8 : decode cL_row 8 = .ok (.aload_n 0, 1) := by decide +kernel
theorem dL_row_9 : decode cL_row 9 = .ok (.iconst 4, 1) := by decide +kernel
theorem dL_row_10 : decode cL_row 10 = .ok (.iaload, 1) := by decide +kernel
theorem dL_row_11 : decode cL_row 11 = .ok (.goto 5, 3) := by decide +kernel
theorem dL_row_14 : decode cL_row 14 = .ok (.iload 5, 2) := by decide +kernel
theorem dL_row_16 : decode cL_row 16 = .ok (.istore 9, 2) := by decide +kernel
theorem dL_row_18 : decode cL_row 18 = .ok (.iconst 1, 1) := by decide +kernel
theorem dL_row_19 : decode cL_row 19 = .ok (.istore 10, 2) := by decide +kernel
theorem dL_row_21 : decode cL_row 21 = .ok (.aload_n 0, 1) := by decide +kernel
theorem dL_row_22 : decode cL_row 22 = .ok (.aload_n 1, 1) := by decide +kernel
theorem dL_row_23 : decode cL_row 23 = .ok (.iload_n 2, 1) := by decide +kernel
theorem dL_row_24 : decode cL_row 24 = .ok (.iload 10, 2) := by decide +kernel
theorem dL_row_26 : decode cL_row 26 = .ok (.iadd, 1) := by decide +kernel
theorem dL_row_27 : decode cL_row 27 = .ok (.iconst 1, 1) := by decide +kernel
theorem dL_row_28 : decode cL_row 28 = .ok (.isub, 1) := by decide +kernel
theorem dL_row_29 : decode cL_row 29 = .ok (.invokestatic 19, 3) := by decide +kernel
theorem dL_row_32 : decode cL_row 32 = .ok (.ifCond .ne 9, 3) := by decide +kernel
theorem dL_row_35 : decode cL_row 35 = .ok (.iinc 10 1, 3) := by decide +kernel
theorem dL_row_38 : decode cL_row 38 = .ok (.goto (-17), 3) := by decide +kernel
theorem dL_row_41 : decode cL_row 41 = .ok (.iconst 0, 1) := by decide +kernel
theorem dL_row_42 : decode cL_row 42 = .ok (.istore 11, 2) := by decide +kernel
theorem dL_row_44 : decode cL_row 44 = .ok (.iconst 0, 1) := by decide +kernel
theorem dL_row_45 : decode cL_row 45 = .ok (.istore 12, 2) := by decide +kernel
theorem dL_row_47 : decode cL_row 47 = .ok (.iconst 0, 1) := by decide +kernel
theorem dL_row_48 : decode cL_row 48 = .ok (.istore 13, 2) := by decide +kernel
theorem dL_row_50 : decode cL_row 50 = .ok (.iinc 10 1, 3) := by decide +kernel
theorem dL_row_53 : decode cL_row 53 = .ok (.iload 10, 2) := by decide +kernel
theorem dL_row_55 : decode cL_row 55 = .ok (.iconst 1, 1) := by decide +kernel
theorem dL_row_56 : decode cL_row 56 = .ok (.if_icmp .le 135, 3) := by decide +kernel
theorem dL_row_59 : decode cL_row 59 = .ok (.iload 11, 2) := by decide +kernel
theorem dL_row_61 : decode cL_row 61 = .ok (.ifCond .ne 130, 3) := by decide +kernel
theorem dL_row_64 : decode cL_row 64 = .ok (.iinc 10 (-1), 3) := by decide +kernel
theorem dL_row_67 : decode cL_row 67 = .ok (.aload_n 1, 1) := by decide +kernel
theorem dL_row_68 : decode cL_row 68 = .ok (.iload_n 2, 1) := by decide +kernel
theorem dL_row_69 : decode cL_row 69 = .ok (.iload 10, 2) := by decide +kernel
theorem dL_row_71 : decode cL_row 71 = .ok (.invokestatic 23, 3) := by decide +kernel
theorem dL_row_74 : decode cL_row 74 = .ok (.iload_n 3, 1) := by decide +kernel
theorem dL_row_75 : decode cL_row 75 = .ok (.isub, 1) := by decide +kernel
theorem dL_row_76 : decode cL_row 76 = .ok (.iload 9, 2) := by decide +kernel
theorem dL_row_78 : decode cL_row 78 = .ok (.iadd, 1) := by decide +kernel
theorem dL_row_79 : decode cL_row 79 = .ok (.istore 12, 2) := by decide +kernel
theorem dL_row_81 : decode cL_row 81 = .ok (.iload 12, 2) := by decide +kernel
theorem dL_row_83 : decode cL_row 83 = .ok (.ifCond .ge 7, 3) := by decide +kernel
theorem dL_row_86 : decode cL_row 86 = .ok (.iconst 0, 1) := by decide +kernel
theorem dL_row_87 : decode cL_row 87 = .ok (.goto 5, 3) := by decide +kernel
theorem dL_row_90 : decode cL_row 90 = .ok (.iload 12, 2) := by decide +kernel
theorem dL_row_92 : decode cL_row 92 = .ok (.istore 12, 2) := by decide +kernel
theorem dL_row_94 : decode cL_row 94 = .ok (.iload 4, 2) := by decide +kernel
theorem dL_row_96 : decode cL_row 96 = .ok (.ifCond .eq 20, 3) := by decide +kernel
theorem dL_row_99 : decode cL_row 99 = .ok (.aload_n 0, 1) := by decide +kernel
theorem dL_row_100 : decode cL_row 100 = .ok (.aload_n 1, 1) := by decide +kernel
theorem dL_row_101 : decode cL_row 101 = .ok (.iconst 5, 1) := by decide +kernel
theorem dL_row_102 : decode cL_row 102 = .ok (.iload_n 2, 1) := by decide +kernel
theorem dL_row_103 : decode cL_row 103 = .ok (.imul, 1) := by decide +kernel
theorem dL_row_104 : decode cL_row 104 = .ok (.iconst 2, 1) := by decide +kernel
theorem dL_row_105 : decode cL_row 105 = .ok (.iadd, 1) := by decide +kernel
theorem dL_row_106 : decode cL_row 106 = .ok (.iaload, 1) := by decide +kernel
theorem dL_row_107 : decode cL_row 107 = .ok (.aload_n 0, 1) := by decide +kernel
theorem dL_row_108 : decode cL_row 108 = .ok (.iconst 2, 1) := by decide +kernel
theorem dL_row_109 : decode cL_row 109 = .ok (.iaload, 1) := by decide +kernel
theorem dL_row_110 : decode cL_row 110 = .ok (.invokestatic 27, 3) := by decide +kernel
theorem dL_row_113 : decode cL_row 113 = .ok (.goto 4, 3) := by decide +kernel
theorem dL_row_116 : decode cL_row 116 = .ok (.iconst 0, 1) := by decide +kernel
theorem dL_row_117 : decode cL_row 117 = .ok (.istore 14, 2) := by decide +kernel
theorem dL_row_119 : decode cL_row 119 = .ok (.iload 4, 2) := by decide +kernel
theorem dL_row_121 : decode cL_row 121 = .ok (.ifCond .eq 25, 3) := by decide +kernel
theorem dL_row_124 : decode cL_row 124 = .ok (.aload_n 0, 1) := by decide +kernel
theorem dL_row_125 : decode cL_row 125 = .ok (.aload_n 1, 1) := by decide +kernel
theorem dL_row_126 : decode cL_row 126 = .ok (.iconst 5, 1) := by decide +kernel
theorem dL_row_127 : decode cL_row 127 = .ok (.iload_n 2, 1) := by decide +kernel
theorem dL_row_128 : decode cL_row 128 = .ok (.iload 10, 2) := by decide +kernel
theorem dL_row_130 : decode cL_row 130 = .ok (.iadd, 1) := by decide +kernel
theorem dL_row_131 : decode cL_row 131 = .ok (.iconst 1, 1) := by decide +kernel
theorem dL_row_132 : decode cL_row 132 = .ok (.isub, 1) := by decide +kernel
theorem dL_row_133 : decode cL_row 133 = .ok (.imul, 1) := by decide +kernel
theorem dL_row_134 : decode cL_row 134 = .ok (.iconst 3, 1) := by decide +kernel
theorem dL_row_135 : decode cL_row 135 = .ok (.iadd, 1) := by decide +kernel
theorem dL_row_136 : decode cL_row 136 = .ok (.iaload, 1) := by decide +kernel
theorem dL_row_137 : decode cL_row 137 = .ok (.aload_n 0, 1) := by decide +kernel
theorem dL_row_138 : decode cL_row 138 = .ok (.iconst 3, 1) := by decide +kernel
theorem dL_row_139 : decode cL_row 139 = .ok (.iaload, 1) := by decide +kernel
theorem dL_row_140 : decode cL_row 140 = .ok (.invokestatic 27, 3) := by decide +kernel
theorem dL_row_143 : decode cL_row 143 = .ok (.goto 4, 3) := by decide +kernel
theorem dL_row_146 : decode cL_row 146 = .ok (.iconst 0, 1) := by decide +kernel
theorem dL_row_147 : decode cL_row 147 = .ok (.istore 13, 2) := by decide +kernel
theorem dL_row_149 : decode cL_row 149 = .ok (.iload 12, 2) := by decide +kernel
theorem dL_row_151 : decode cL_row 151 = .ok (.ifCond .eq 30, 3) := by decide +kernel
theorem dL_row_154 : decode cL_row 154 = .ok (.iload 14, 2) := by decide +kernel
theorem dL_row_156 : decode cL_row 156 = .ok (.iload 13, 2) := by decide +kernel
theorem dL_row_158 : decode cL_row 158 = .ok (.iadd, 1) := by decide +kernel
theorem dL_row_159 : decode cL_row 159 = .ok (.iload 12, 2) := by decide +kernel
theorem dL_row_161 : decode cL_row 161 = .ok (.if_icmp .lt 24, 3) := by decide +kernel
theorem dL_row_164 : decode cL_row 164 = .ok (.iload 5, 2) := by decide +kernel
theorem dL_row_166 : decode cL_row 166 = .ok (.iload 9, 2) := by decide +kernel
theorem dL_row_168 : decode cL_row 168 = .ok (.isub, 1) := by decide +kernel
theorem dL_row_169 : decode cL_row 169 = .ok (.iload 12, 2) := by decide +kernel
theorem dL_row_171 : decode cL_row 171 = .ok (.iadd, 1) := by decide +kernel
theorem dL_row_172 : decode cL_row 172 = .ok (.aload_n 0, 1) := by decide +kernel
theorem dL_row_173 : decode cL_row 173 = .ok (.iconst 4, 1) := by decide +kernel
theorem dL_row_174 : decode cL_row 174 = .ok (.iaload, 1) := by decide +kernel
theorem dL_row_175 : decode cL_row 175 = .ok (.iload 6, 2) := by decide +kernel
theorem dL_row_177 : decode cL_row 177 = .ok (.imul, 1) := by decide +kernel
theorem dL_row_178 : decode cL_row 178 = .ok (.if_icmp .gt 7, 3) := by decide +kernel
theorem dL_row_181 : decode cL_row 181 = .ok (.iconst 1, 1) := by decide +kernel
theorem dL_row_182 : decode cL_row 182 = .ok (.goto 4, 3) := by decide +kernel
theorem dL_row_185 : decode cL_row 185 = .ok (.iconst 0, 1) := by decide +kernel
theorem dL_row_186 : decode cL_row 186 = .ok (.istore 11, 2) := by decide +kernel
theorem dL_row_188 : decode cL_row 188 = .ok (.goto (-135), 3) := by decide +kernel
theorem dL_row_191 : decode cL_row 191 = .ok (.aload 7, 2) := by decide +kernel
theorem dL_row_193 : decode cL_row 193 = .ok (.iload 8, 2) := by decide +kernel
