theorem dX3_putSigns_1 : decode cX3_putSigns 1 = .ok (.iload_n 1, 1) := by decide +kernel
theorem dX3_putSigns_2 : decode cX3_putSigns 2 = .ok (.invokevirtual 66, 3) := by decide +kernel
theorem dX3_putSigns_5 : decode cX3_putSigns 5 = .ok (.ifCond .eq 17, 3) := by decide +kernel
theorem dX3_putSigns_8 : decode cX3_putSigns 8 = .ok (.aload_n 0, 1) := by decide +kernel
theorem dX3_putSigns_9 : decode cX3_putSigns 9 = .ok (.getfield 21, 3) := by decide +kernel
theorem dX3_putSigns_12 : decode cX3_putSigns 12 = .ok (.iload_n 1, 1) := by decide +kernel
theorem dX3_putSigns_13 : decode cX3_putSigns 13 = .ok (.iload_n 2, 1) := by decide +kernel
theorem dX3_putSigns_14 : decode cX3_putSigns 14 = .ok (.iastore, 1) := by decide +kernel
theorem dX3_putSigns_15 : decode cX3_putSigns 15 = .ok (.aload_n 0, 1) := by decide +kernel
theorem dX3_putSigns_16 : decode cX3_putSigns 16 = .ok (.getfield 24, 3) := by decide +kernel
theorem dX3_putSigns_19 : decode cX3_putSigns 19 = .ok (.iload_n 1, 1) := by decide +kernel
theorem dX3_putSigns_20 : decode cX3_putSigns 20 = .ok (.iload_n 3, 1) := by decide +kernel
theorem dX3_putSigns_21 : decode cX3_putSigns 21 = .ok (.iastore, 1) := by decide +kernel
theorem dX3_putSigns_22 : decode cX3_putSigns 22 = .ok (.return_, 1) := by decide +kernel
set_option maxRecDepth 20000 in
theorem ggX3_putEnd_X3_has : GoodIn wsX3_putEnd wsX3_has := goodIn_r _ [6, 7, 8, 9, 10, 11, 12, 13, 14, 15, 16] (by decide +kernel) (by decide +kernel)
set_option maxRecDepth 20000 in
theorem gX3_putEnd_X3_has : GoodIn wsX3_putEnd (wsV RX3 66 RX3 yX3_has wsX3_has) := goodIn_app (goodIn_of _ (by decide +kernel)) ggX3_putEnd_X3_has
theorem dX3_putEnd_0 : decode cX3_putEnd 0 = .ok (.aload_n 0, 1) := by decide +kernel
theorem dX3_putEnd_1 : decode cX3_putEnd 1 = .ok (.iload_n 1, 1) := by decide +kernel
theorem dX3_putEnd_2 : decode cX3_putEnd 2 = .ok (.invokevirtual 66, 3) := by decide +kernel
theorem dX3_putEnd_5 : decode cX3_putEnd 5 = .ok (.ifCond .eq 10, 3) := by decide +kernel
theorem dX3_putEnd_8 : decode cX3_putEnd 8 = .ok (.aload_n 0, 1) := by decide +kernel
theorem dX3_putEnd_9 : decode cX3_putEnd 9 = .ok (.getfield 27, 3) := by decide +kernel
theorem dX3_putEnd_12 : decode cX3_putEnd 12 = .ok (.iload_n 1, 1) := by decide +kernel
theorem dX3_putEnd_13 : decode cX3_putEnd 13 = .ok (.iload_n 2, 1) := by decide +kernel
theorem dX3_putEnd_14 : decode cX3_putEnd 14 = .ok (.bastore, 1) := by decide +kernel
theorem dX3_putEnd_15 : decode cX3_putEnd 15 = .ok (.return_, 1) := by decide +kernel
theorem dX3_setting_0 : decode cX3_setting 0 = .ok (.iload_n 1, 1) := by decide +kernel
theorem dX3_setting_1 : decode cX3_setting 1 = .ok (.ifCond .lt 18, 3) := by decide +kernel
theorem dX3_setting_4 : decode cX3_setting 4 = .ok (.iload_n 1, 1) := by decide +kernel
theorem dX3_setting_5 : decode cX3_setting 5 = .ok (.bipush 6, 2) := by decide +kernel
theorem dX3_setting_7 : decode cX3_setting 7 = .ok (.if_icmp .ge 12, 3) := by decide +kernel
theorem dX3_setting_10 : decode cX3_setting 10 = .ok (.aload_n 0, 1) := by decide +kernel
theorem dX3_setting_11 : decode cX3_setting 11 = .ok (.getfield 39, 3) := by decide +kernel
theorem dX3_setting_14 : decode cX3_setting 14 = .ok (.iload_n 1, 1) := by decide +kernel
theorem dX3_setting_15 : decode cX3_setting 15 = .ok (.iaload, 1) := by decide +kernel
theorem dX3_setting_16 : decode cX3_setting 16 = .ok (.goto 4, 3) := by decide +kernel
theorem dX3_setting_19 : decode cX3_setting 19 = .ok (.iconst 0, 1) := by decide +kernel
theorem dX3_setting_20 : decode cX3_setting 20 = .ok (.ireturn, 1) := by decide +kernel
theorem dX3_shareOf_0 : decode cX3_shareOf 0 = .ok (.iload_n 1, 1) := by decide +kernel
theorem dX3_shareOf_1 : decode cX3_shareOf 1 = .ok (.ifCond .lt 18, 3) := by decide +kernel
theorem dX3_shareOf_4 : decode cX3_shareOf 4 = .ok (.iload_n 1, 1) := by decide +kernel
theorem dX3_shareOf_5 : decode cX3_shareOf 5 = .ok (.bipush 8, 2) := by decide +kernel
theorem dX3_shareOf_7 : decode cX3_shareOf 7 = .ok (.if_icmp .ge 12, 3) := by decide +kernel
theorem dX3_shareOf_10 : decode cX3_shareOf 10 = .ok (.aload_n 0, 1) := by decide +kernel
theorem dX3_shareOf_11 : decode cX3_shareOf 11 = .ok (.getfield 45, 3) := by decide +kernel
theorem dX3_shareOf_14 : decode cX3_shareOf 14 = .ok (.iload_n 1, 1) := by decide +kernel
theorem dX3_shareOf_15 : decode cX3_shareOf 15 = .ok (.iaload, 1) := by decide +kernel
theorem dX3_shareOf_16 : decode cX3_shareOf 16 = .ok (.goto 4, 3) := by decide +kernel
theorem dX3_shareOf_19 : decode cX3_shareOf 19 = .ok (.iconst 0, 1) := by decide +kernel
theorem dX3_shareOf_20 : decode cX3_shareOf 20 = .ok (.ireturn, 1) := by decide +kernel
set_option maxRecDepth 20000 in
theorem ggX3_overhang_X5_signWidth : GoodIn wsX3_overhang wsX5_signWidth := goodIn_r _ [3, 4] (by decide +kernel) (by decide +kernel)
set_option maxRecDepth 20000 in
theorem gX3_overhang_X5_signWidth_n79 : GoodIn wsX3_overhang (wsX5_signWidth) := ggX3_overhang_X5_signWidth
set_option maxRecDepth 20000 in
theorem ggX3_overhang_X3_shareOf : GoodIn wsX3_overhang wsX3_shareOf := goodIn_r _ [9, 10, 11, 12, 13, 14, 15, 16, 17, 18, 19] (by decide +kernel) (by decide +kernel)
set_option maxRecDepth 20000 in
theorem gX3_overhang_X3_shareOf : GoodIn wsX3_overhang (wsV RX3 83 RX3 yX3_shareOf wsX3_shareOf) := goodIn_app (goodIn_of _ (by decide +kernel)) ggX3_overhang_X3_shareOf
theorem dX3_overhang_0 : decode cX3_overhang 0 = .ok (.iload_n 1, 1) := by decide +kernel
theorem dX3_overhang_1 : decode cX3_overhang 1 = .ok (.invokestatic 79, 3) := by decide +kernel
theorem dX3_overhang_4 : decode cX3_overhang 4 = .ok (.aload_n 0, 1) := by decide +kernel
theorem dX3_overhang_5 : decode cX3_overhang 5 = .ok (.iload_n 1, 1) := by decide +kernel
theorem dX3_overhang_6 : decode cX3_overhang 6 = .ok (.invokevirtual 83, 3) := by decide +kernel
theorem dX3_overhang_9 : decode cX3_overhang 9 = .ok (.imul, 1) := by decide +kernel
theorem dX3_overhang_10 : decode cX3_overhang 10 = .ok (.bipush 100, 2) := by decide +kernel
theorem dX3_overhang_12 : decode cX3_overhang 12 = .ok (.idiv, 1) := by decide +kernel
theorem dX3_overhang_13 : decode cX3_overhang 13 = .ok (.ireturn, 1) := by decide +kernel
set_option maxRecDepth 20000 in
theorem ggX3_lengthOf_X3_has : GoodIn wsX3_lengthOf wsX3_has := goodIn_r _ [6, 7, 8, 9, 10, 11, 12, 13, 14, 15, 16] (by decide +kernel) (by decide +kernel)
set_option maxRecDepth 20000 in
theorem gX3_lengthOf_X3_has : GoodIn wsX3_lengthOf (wsV RX3 66 RX3 yX3_has wsX3_has) := goodIn_app (goodIn_of _ (by decide +kernel)) ggX3_lengthOf_X3_has
theorem dX3_lengthOf_0 : decode cX3_lengthOf 0 = .ok (.aload_n 0, 1) := by decide +kernel
theorem dX3_lengthOf_1 : decode cX3_lengthOf 1 = .ok (.iload_n 1, 1) := by decide +kernel
theorem dX3_lengthOf_2 : decode cX3_lengthOf 2 = .ok (.invokevirtual 66, 3) := by decide +kernel
theorem dX3_lengthOf_5 : decode cX3_lengthOf 5 = .ok (.ifCond .eq 12, 3) := by decide +kernel
theorem dX3_lengthOf_8 : decode cX3_lengthOf 8 = .ok (.aload_n 0, 1) := by decide +kernel
theorem dX3_lengthOf_9 : decode cX3_lengthOf 9 = .ok (.getfield 15, 3) := by decide +kernel
theorem dX3_lengthOf_12 : decode cX3_lengthOf 12 = .ok (.iload_n 1, 1) := by decide +kernel
theorem dX3_lengthOf_13 : decode cX3_lengthOf 13 = .ok (.iaload, 1) := by decide +kernel
theorem dX3_lengthOf_14 : decode cX3_lengthOf 14 = .ok (.goto 4, 3) := by decide +kernel
theorem dX3_lengthOf_17 : decode cX3_lengthOf 17 = .ok (.iconst 0, 1) := by decide +kernel
theorem dX3_lengthOf_18 : decode cX3_lengthOf 18 = .ok (.ireturn, 1) := by decide +kernel
set_option maxRecDepth 20000 in
theorem ggX3_widthOf_X3_has : GoodIn wsX3_widthOf wsX3_has := goodIn_r _ [8, 9, 14, 15, 16, 17, 18, 19, 20, 21, 22] (by decide +kernel) (by decide +kernel)
set_option maxRecDepth 20000 in
theorem gX3_widthOf_X3_has : GoodIn wsX3_widthOf (wsV RX3 66 RX3 yX3_has wsX3_has) := goodIn_app (goodIn_of _ (by decide +kernel)) ggX3_widthOf_X3_has
set_option maxRecDepth 20000 in
theorem ggX3_widthOf_X5_signWidth : GoodIn wsX3_widthOf wsX5_signWidth := goodIn_r _ [12, 13] (by decide +kernel) (by decide +kernel)
set_option maxRecDepth 20000 in
theorem gX3_widthOf_X5_signWidth_n79 : GoodIn wsX3_widthOf (wsX5_signWidth) := ggX3_widthOf_X5_signWidth
theorem dX3_widthOf_0 : decode cX3_widthOf 0 = .ok (.aload_n 0, 1) := by decide +kernel
theorem dX3_widthOf_1 : decode cX3_widthOf 1 = .ok (.iload_n 1, 1) := by decide +kernel
theorem dX3_widthOf_2 : decode cX3_widthOf 2 = .ok (.invokevirtual 66, 3) := by decide +kernel
theorem dX3_widthOf_5 : decode cX3_widthOf 5 = .ok (.ifCond .eq 32, 3) := by decide +kernel
theorem dX3_widthOf_8 : decode cX3_widthOf 8 = .ok (.aload_n 0, 1) := by decide +kernel
theorem dX3_widthOf_9 : decode cX3_widthOf 9 = .ok (.getfield 18, 3) := by decide +kernel
theorem dX3_widthOf_12 : decode cX3_widthOf 12 = .ok (.iload_n 1, 1) := by decide +kernel
theorem dX3_widthOf_13 : decode cX3_widthOf 13 = .ok (.iaload, 1) := by decide +kernel
theorem dX3_widthOf_14 : decode cX3_widthOf 14 = .ok (.aload_n 0, 1) := by decide +kernel
theorem dX3_widthOf_15 : decode cX3_widthOf 15 = .ok (.getfield 21, 3) := by decide +kernel
theorem dX3_widthOf_18 : decode cX3_widthOf 18 = .ok (.iload_n 1, 1) := by decide +kernel
theorem dX3_widthOf_19 : decode cX3_widthOf 19 = .ok (.iaload, 1) := by decide +kernel
theorem dX3_widthOf_20 : decode cX3_widthOf 20 = .ok (.invokestatic 79, 3) := by decide +kernel
theorem dX3_widthOf_23 : decode cX3_widthOf 23 = .ok (.iadd, 1) := by decide +kernel
theorem dX3_widthOf_24 : decode cX3_widthOf 24 = .ok (.aload_n 0, 1) := by decide +kernel
theorem dX3_widthOf_25 : decode cX3_widthOf 25 = .ok (.getfield 24, 3) := by decide +kernel
theorem dX3_widthOf_28 : decode cX3_widthOf 28 = .ok (.iload_n 1, 1) := by decide +kernel
theorem dX3_widthOf_29 : decode cX3_widthOf 29 = .ok (.iaload, 1) := by decide +kernel
theorem dX3_widthOf_30 : decode cX3_widthOf 30 = .ok (.invokestatic 79, 3) := by decide +kernel
theorem dX3_widthOf_33 : decode cX3_widthOf 33 = .ok (.iadd, 1) := by decide +kernel
theorem dX3_widthOf_34 : decode cX3_widthOf 34 = .ok (.goto 4, 3) := by decide +kernel
theorem dX3_widthOf_37 : decode cX3_widthOf 37 = .ok (.iconst 0, 1) := by decide +kernel
theorem dX3_widthOf_38 : decode cX3_widthOf 38 = .ok (.ireturn, 1) := by decide +kernel
set_option maxRecDepth 20000 in
theorem ggX3_aheadOf_X3_has : GoodIn wsX3_aheadOf wsX3_has := goodIn_r _ [6, 7, 8, 9, 10, 11, 12, 13, 14, 15, 16] (by decide +kernel) (by decide +kernel)
set_option maxRecDepth 20000 in
theorem gX3_aheadOf_X3_has : GoodIn wsX3_aheadOf (wsV RX3 66 RX3 yX3_has wsX3_has) := goodIn_app (goodIn_of _ (by decide +kernel)) ggX3_aheadOf_X3_has
theorem dX3_aheadOf_0 : decode cX3_aheadOf 0 = .ok (.aload_n 0, 1) := by decide +kernel
theorem dX3_aheadOf_1 : decode cX3_aheadOf 1 = .ok (.iload_n 1, 1) := by decide +kernel
theorem dX3_aheadOf_2 : decode cX3_aheadOf 2 = .ok (.invokevirtual 66, 3) := by decide +kernel
theorem dX3_aheadOf_5 : decode cX3_aheadOf 5 = .ok (.ifCond .eq 12, 3) := by decide +kernel
theorem dX3_aheadOf_8 : decode cX3_aheadOf 8 = .ok (.aload_n 0, 1) := by decide +kernel
theorem dX3_aheadOf_9 : decode cX3_aheadOf 9 = .ok (.getfield 21, 3) := by decide +kernel
theorem dX3_aheadOf_12 : decode cX3_aheadOf 12 = .ok (.iload_n 1, 1) := by decide +kernel
theorem dX3_aheadOf_13 : decode cX3_aheadOf 13 = .ok (.iaload, 1) := by decide +kernel
theorem dX3_aheadOf_14 : decode cX3_aheadOf 14 = .ok (.goto 4, 3) := by decide +kernel
theorem dX3_aheadOf_17 : decode cX3_aheadOf 17 = .ok (.iconst (-1), 1) := by decide +kernel
theorem dX3_aheadOf_18 : decode cX3_aheadOf 18 = .ok (.ireturn, 1) := by decide +kernel
set_option maxRecDepth 20000 in
theorem ggX3_behindOf_X3_has : GoodIn wsX3_behindOf wsX3_has := goodIn_r _ [6, 7, 8, 9, 10, 11, 12, 13, 14, 15, 16] (by decide +kernel) (by decide +kernel)
set_option maxRecDepth 20000 in
theorem gX3_behindOf_X3_has : GoodIn wsX3_behindOf (wsV RX3 66 RX3 yX3_has wsX3_has) := goodIn_app (goodIn_of _ (by decide +kernel)) ggX3_behindOf_X3_has
theorem dX3_behindOf_0 : decode cX3_behindOf 0 = .ok (.aload_n 0, 1) := by decide +kernel
theorem dX3_behindOf_1 : decode cX3_behindOf 1 = .ok (.iload_n 1, 1) := by decide +kernel
theorem dX3_behindOf_2 : decode cX3_behindOf 2 = .ok (.invokevirtual 66, 3) := by decide +kernel
theorem dX3_behindOf_5 : decode cX3_behindOf 5 = .ok (.ifCond .eq 12, 3) := by decide +kernel
theorem dX3_behindOf_8 : decode cX3_behindOf 8 = .ok (.aload_n 0, 1) := by decide +kernel
theorem dX3_behindOf_9 : decode cX3_behindOf 9 = .ok (.getfield 24, 3) := by decide +kernel
theorem dX3_behindOf_12 : decode cX3_behindOf 12 = .ok (.iload_n 1, 1) := by decide +kernel
theorem dX3_behindOf_13 : decode cX3_behindOf 13 = .ok (.iaload, 1) := by decide +kernel
theorem dX3_behindOf_14 : decode cX3_behindOf 14 = .ok (.goto 4, 3) := by decide +kernel
theorem dX3_behindOf_17 : decode cX3_behindOf 17 = .ok (.iconst (-1), 1) := by decide +kernel
theorem dX3_behindOf_18 : decode cX3_behindOf 18 = .ok (.ireturn, 1) := by decide +kernel
set_option maxRecDepth 20000 in
theorem ggX3_wasSetToEnd_X3_has : GoodIn wsX3_wasSetToEnd wsX3_has := goodIn_r _ [6, 7, 8, 9, 10, 11, 12, 13, 14, 15, 16] (by decide +kernel) (by decide +kernel)
set_option maxRecDepth 20000 in
theorem gX3_wasSetToEnd_X3_has : GoodIn wsX3_wasSetToEnd (wsV RX3 66 RX3 yX3_has wsX3_has) := goodIn_app (goodIn_of _ (by decide +kernel)) ggX3_wasSetToEnd_X3_has
theorem dX3_wasSetToEnd_0 : decode cX3_wasSetToEnd 0 = .ok (.aload_n 0, 1) := by decide +kernel
theorem dX3_wasSetToEnd_1 : decode cX3_wasSetToEnd 1 = .ok (.iload_n 1, 1) := by decide +kernel
theorem dX3_wasSetToEnd_2 : decode cX3_wasSetToEnd 2 = .ok (.invokevirtual 66, 3) := by decide +kernel
theorem dX3_wasSetToEnd_5 : decode cX3_wasSetToEnd 5 = .ok (.ifCond .eq 16, 3) := by decide +kernel
theorem dX3_wasSetToEnd_8 : decode cX3_wasSetToEnd 8 = .ok (.aload_n 0, 1) := by decide +kernel
theorem dX3_wasSetToEnd_9 : decode cX3_wasSetToEnd 9 = .ok (.getfield 27, 3) := by decide +kernel
theorem dX3_wasSetToEnd_12 : decode cX3_wasSetToEnd 12 = .ok (.iload_n 1, 1) := by decide +kernel
theorem dX3_wasSetToEnd_13 : decode cX3_wasSetToEnd 13 = .ok (.baload, 1) := by decide +kernel
theorem dX3_wasSetToEnd_14 : decode cX3_wasSetToEnd 14 = .ok (.ifCond .eq 7, 3) := by decide +kernel
theorem dX3_wasSetToEnd_17 : decode cX3_wasSetToEnd 17 = .ok (.iconst 1, 1) := by decide +kernel
theorem dX3_wasSetToEnd_18 : decode cX3_wasSetToEnd 18 = .ok (.goto 4, 3) := by decide +kernel
theorem dX3_wasSetToEnd_21 : decode cX3_wasSetToEnd 21 = .ok (.iconst 0, 1) := by decide +kernel
theorem dX3_wasSetToEnd_22 : decode cX3_wasSetToEnd 22 = .ok (.ireturn, 1) := by decide +kernel
set_option maxRecDepth 20000 in
theorem ggX3_endsParagraph_X3_has : GoodIn wsX3_endsParagraph wsX3_has := goodIn_r _ [7, 2, 8, 9, 10, 11, 12, 13, 14, 15, 16] (by decide +kernel) (by decide +kernel)
set_option maxRecDepth 20000 in
theorem gX3_endsParagraph_X3_has : GoodIn wsX3_endsParagraph (wsV RX3 66 RX3 yX3_has wsX3_has) := goodIn_app (goodIn_of _ (by decide +kernel)) ggX3_endsParagraph_X3_has
theorem dX3_endsParagraph_0 : decode cX3_endsParagraph 0 = .ok (.aload_n 0, 1) := by decide +kernel
theorem dX3_endsParagraph_1 : decode cX3_endsParagraph 1 = .ok (.iload_n 1, 1) := by decide +kernel
theorem dX3_endsParagraph_2 : decode cX3_endsParagraph 2 = .ok (.invokevirtual 66, 3) := by decide +kernel
theorem dX3_endsParagraph_5 : decode cX3_endsParagraph 5 = .ok (.ifCond .eq 26, 3) := by decide +kernel
theorem dX3_endsParagraph_8 : decode cX3_endsParagraph 8 = .ok (.aload_n 0, 1) := by decide +kernel
theorem dX3_endsParagraph_9 : decode cX3_endsParagraph 9 = .ok (.getfield 27, 3) := by decide +kernel
theorem dX3_endsParagraph_12 : decode cX3_endsParagraph 12 = .ok (.iload_n 1, 1) := by decide +kernel
theorem dX3_endsParagraph_13 : decode cX3_endsParagraph 13 = .ok (.baload, 1) := by decide +kernel
theorem dX3_endsParagraph_14 : decode cX3_endsParagraph 14 = .ok (.ifCond .ne 13, 3) := by decide +kernel
theorem dX3_endsParagraph_17 : decode cX3_endsParagraph 17 = .ok (.iload_n 1, 1) := by decide +kernel
theorem dX3_endsParagraph_18 : decode cX3_endsParagraph 18 = .ok (.aload_n 0, 1) := by decide +kernel
theorem dX3_endsParagraph_19 : decode cX3_endsParagraph 19 = .ok (.getfield 48, 3) := by decide +kernel
theorem dX3_endsParagraph_22 : decode cX3_endsParagraph 22 = .ok (.iconst 1, 1) := by decide +kernel
theorem dX3_endsParagraph_23 : decode cX3_endsParagraph 23 = .ok (.isub, 1) := by decide +kernel
theorem dX3_endsParagraph_24 : decode cX3_endsParagraph 24 = .ok (.if_icmp .ne 7, 3) := by decide +kernel
theorem dX3_endsParagraph_27 : decode cX3_endsParagraph 27 = .ok (.iconst 1, 1) := by decide +kernel
theorem dX3_endsParagraph_28 : decode cX3_endsParagraph 28 = .ok (.goto 4, 3) := by decide +kernel
theorem dX3_endsParagraph_31 : decode cX3_endsParagraph 31 = .ok (.iconst 0, 1) := by decide +kernel
theorem dX3_endsParagraph_32 : decode cX3_endsParagraph 32 = .ok (.ireturn, 1) := by decide +kernel
set_option maxRecDepth 20000 in
theorem ggX3_paragraphs_X3_endsParagraph : GoodIn wsX3_paragraphs wsX3_endsParagraph := goodIn_r _ [6, 7, 1, 8, 9, 10, 5, 11, 12, 13, 14, 15, 16, 17, 18, 19, 20] (by decide +kernel) (by decide +kernel)
set_option maxRecDepth 20000 in
theorem gX3_paragraphs_X3_endsParagraph : GoodIn wsX3_paragraphs (wsV RX3 86 RX3 yX3_endsParagraph wsX3_endsParagraph) := goodIn_app (goodIn_of _ (by decide +kernel)) ggX3_paragraphs_X3_endsParagraph
theorem dX3_paragraphs_0 : decode cX3_paragraphs 0 = .ok (.iconst 0, 1) := by decide +kernel
theorem dX3_paragraphs_1 : decode cX3_paragraphs 1 = .ok (.istore_n 1, 1) := by decide +kernel
theorem dX3_paragraphs_2 : decode cX3_paragraphs 2 = .ok (.iconst 0, 1) := by decide +kernel
theorem dX3_paragraphs_3 : decode cX3_paragraphs 3 = .ok (.istore_n 2, 1) := by decide +kernel
theorem dX3_paragraphs_4 : decode cX3_paragraphs 4 = .ok (.iload_n 2, 1) := by decide +kernel
theorem dX3_paragraphs_5 : decode cX3_paragraphs 5 = .ok (.aload_n 0, 1) := by decide +kernel
theorem dX3_paragraphs_6 : decode cX3_paragraphs 6 = .ok (.getfield 48, 3) := by decide +kernel
theorem dX3_paragraphs_9 : decode cX3_paragraphs 9 = .ok (.if_icmp .ge 20, 3) := by decide +kernel
theorem dX3_paragraphs_12 : decode cX3_paragraphs 12 = .ok (.aload_n 0, 1) := by decide +kernel
theorem dX3_paragraphs_13 : decode cX3_paragraphs 13 = .ok (.iload_n 2, 1) := by decide +kernel
theorem dX3_paragraphs_14 : decode cX3_paragraphs 14 = .ok (.invokevirtual 86, 3) := by decide +kernel
theorem dX3_paragraphs_17 : decode cX3_paragraphs 17 = .ok (.ifCond .eq 6, 3) := by decide +kernel
theorem dX3_paragraphs_20 : decode cX3_paragraphs 20 = .ok (.iinc 1 1, 3) := by decide +kernel
theorem dX3_paragraphs_23 : decode cX3_paragraphs 23 = .ok (.iinc 2 1, 3) := by decide +kernel
theorem dX3_paragraphs_26 : decode cX3_paragraphs 26 = .ok (.goto (-22), 3) := by decide +kernel
theorem dX3_paragraphs_29 : decode cX3_paragraphs 29 = .ok (.iload_n 1, 1) := by decide +kernel
theorem dX3_paragraphs_30 : decode cX3_paragraphs 30 = .ok (.ireturn, 1) := by decide +kernel
theorem dX4_init_0 : decode cX4_init 0 = .ok (.aload_n 0, 1) := by decide +kernel
theorem dX4_init_1 : decode cX4_init 1 = .ok (.invokespecial 3, 3) := by decide +kernel
theorem dX4_init_4 : decode cX4_init 4 = .ok (.aload_n 0, 1) := by decide +kernel
theorem dX4_init_5 : decode cX4_init 5 = .ok (.sipush 200, 3) := by decide +kernel
theorem dX4_init_8 : decode cX4_init 8 = .ok (.newarray .int, 2) := by decide +kernel
theorem dX4_init_10 : decode cX4_init 10 = .ok (.putfield 9, 3) := by decide +kernel
theorem dX4_init_13 : decode cX4_init 13 = .ok (.return_, 1) := by decide +kernel
set_option maxRecDepth 20000 in
theorem ggX5_init_X3_init : GoodIn wsX5_init wsX3_init := goodIn_r _ [23, 24, 2, 3, 25, 26, 27, 28, 29, 30, 31, 32, 33, 34, 35, 36, 37, 38, 39, 40, 64, 65, 66, 67, 68, 69, 70, 71, 72] (by decide +kernel) (by decide +kernel)
set_option maxRecDepth 20000 in
theorem gX5_init_X3_init_n9 : GoodIn wsX5_init (wsX3_init) := ggX5_init_X3_init
set_option maxRecDepth 20000 in
theorem ggX5_init_X1_init : GoodIn wsX5_init wsX1_init := goodIn_r _ [42, 43, 2, 3, 25, 44, 45, 46, 47, 48, 49, 50, 51, 52, 53, 54, 79, 80, 81, 82, 83, 84, 85, 91, 92, 93, 94, 95, 96, 97, 98] (by decide +kernel) (by decide +kernel)
set_option maxRecDepth 20000 in
theorem gX5_init_X1_init_n18 : GoodIn wsX5_init (wsX1_init) := ggX5_init_X1_init
set_option maxRecDepth 20000 in
theorem ggX5_init_X4_init : GoodIn wsX5_init wsX4_init := goodIn_r _ [56, 57, 2, 3, 25, 58, 86, 87, 88] (by decide +kernel) (by decide +kernel)
set_option maxRecDepth 20000 in
theorem gX5_init_X4_init_n28 : GoodIn wsX5_init (wsX4_init) := ggX5_init_X4_init
set_option maxRecDepth 20000 in
theorem ggX5_init_X0_init : GoodIn wsX5_init wsX0_init := goodIn_r _ [60, 61, 2, 3, 62, 5, 6, 63, 22, 23, 24, 25, 26, 27, 28, 29, 30, 31, 32, 33, 34, 35, 36, 37, 38, 39, 40, 64, 65, 66, 67, 68, 69, 70, 71, 72, 89, 90] (by decide +kernel) (by decide +kernel)
set_option maxRecDepth 20000 in
theorem gX5_init_X0_init_n38 : GoodIn wsX5_init (wsX0_init) := ggX5_init_X0_init
theorem dX5_init_0 : decode cX5_init 0 = .ok (.aload_n 0, 1) := by decide +kernel
theorem dX5_init_1 : decode cX5_init 1 = .ok (.invokespecial 1, 3) := by decide +kernel
theorem dX5_init_4 : decode cX5_init 4 = .ok (.aload_n 0, 1) := by decide +kernel
theorem dX5_init_5 : decode cX5_init 5 = .ok (.new 7, 3) := by decide +kernel
theorem dX5_init_8 : decode cX5_init 8 = .ok (.dup, 1) := by decide +kernel
theorem dX5_init_9 : decode cX5_init 9 = .ok (.invokespecial 9, 3) := by decide +kernel
theorem dX5_init_12 : decode cX5_init 12 = .ok (.putfield 10, 3) := by decide +kernel
theorem dX5_init_15 : decode cX5_init 15 = .ok (.aload_n 0, 1) := by decide +kernel
theorem dX5_init_16 : decode cX5_init 16 = .ok (.new 16, 3) := by decide +kernel
theorem dX5_init_19 : decode cX5_init 19 = .ok (.dup, 1) := by decide +kernel
theorem dX5_init_20 : decode cX5_init 20 = .ok (.invokespecial 18, 3) := by decide +kernel
theorem dX5_init_23 : decode cX5_init 23 = .ok (.putfield 19, 3) := by decide +kernel
theorem dX5_init_26 : decode cX5_init 26 = .ok (.aload_n 0, 1) := by decide +kernel
theorem dX5_init_27 : decode cX5_init 27 = .ok (.new 16, 3) := by decide +kernel
theorem dX5_init_30 : decode cX5_init 30 = .ok (.dup, 1) := by decide +kernel
theorem dX5_init_31 : decode cX5_init 31 = .ok (.invokespecial 18, 3) := by decide +kernel
theorem dX5_init_34 : decode cX5_init 34 = .ok (.putfield 23, 3) := by decide +kernel
theorem dX5_init_37 : decode cX5_init 37 = .ok (.aload_n 0, 1) := by decide +kernel
theorem dX5_init_38 : decode cX5_init 38 = .ok (.new 26, 3) := by decide +kernel
theorem dX5_init_41 : decode cX5_init 41 = .ok (.dup, 1) := by decide +kernel
theorem dX5_init_42 : decode cX5_init 42 = .ok (.invokespecial 28, 3) := by decide +kernel
theorem dX5_init_45 : decode cX5_init 45 = .ok (.putfield 29, 3) := by decide +kernel
theorem dX5_init_48 : decode cX5_init 48 = .ok (.aload_n 0, 1) := by decide +kernel
theorem dX5_init_49 : decode cX5_init 49 = .ok (.new 7, 3) := by decide +kernel
theorem dX5_init_52 : decode cX5_init 52 = .ok (.dup, 1) := by decide +kernel
theorem dX5_init_53 : decode cX5_init 53 = .ok (.invokespecial 9, 3) := by decide +kernel
theorem dX5_init_56 : decode cX5_init 56 = .ok (.putfield 33, 3) := by decide +kernel
theorem dX5_init_59 : decode cX5_init 59 = .ok (.aload_n 0, 1) := by decide +kernel
theorem dX5_init_60 : decode cX5_init 60 = .ok (.new 36, 3) := by decide +kernel
theorem dX5_init_63 : decode cX5_init 63 = .ok (.dup, 1) := by decide +kernel
theorem dX5_init_64 : decode cX5_init 64 = .ok (.invokespecial 38, 3) := by decide +kernel
theorem dX5_init_67 : decode cX5_init 67 = .ok (.putfield 39, 3) := by decide +kernel
theorem dX5_init_70 : decode cX5_init 70 = .ok (.return_, 1) := by decide +kernel
set_option maxRecDepth 20000 in
theorem ggX5_insert_X5_checkIndex : GoodIn wsX5_insert wsX5_checkIndex := goodIn_ca (goodIn_r _ [9, 10, 11] (by decide +kernel) (by decide +kernel)) (goodIn_sub (fun _ h => List.mem_cons_of_mem _ (List.mem_append_left _ (List.mem_append_right _ h))) (by decide +kernel))
set_option maxRecDepth 20000 in
theorem gX5_insert_X5_checkIndex : GoodIn wsX5_insert (va_wsS RX5 47 yX5_checkIndex wsX5_checkIndex) := goodIn_app (goodIn_of _ (by decide +kernel)) ggX5_insert_X5_checkIndex
set_option maxRecDepth 20000 in
theorem ggX5_insert_X5_checkRange : GoodIn wsX5_insert wsX5_checkRange := goodIn_ca (goodIn_r _ [14, 15, 16] (by decide +kernel) (by decide +kernel)) (goodIn_sub (fun _ h => List.mem_cons_of_mem _ (List.mem_append_right _ h)) (by decide +kernel))
set_option maxRecDepth 20000 in
theorem gX5_insert_X5_checkRange : GoodIn wsX5_insert (va_wsS RX5 51 yX5_checkRange wsX5_checkRange) := goodIn_app (goodIn_of _ (by decide +kernel)) ggX5_insert_X5_checkRange
set_option maxRecDepth 20000 in
theorem ggX5_insert_X5_checkSigns : GoodIn wsX5_insert wsX5_checkSigns := goodIn_ca (goodIn_r _ [19, 15, 16, 20, 21, 8, 22, 23, 24, 25] (by decide +kernel) (by decide +kernel)) (goodIn_sub (fun _ h => List.mem_cons_of_mem _ (List.mem_append_right _ h)) (by decide +kernel))
set_option maxRecDepth 20000 in
theorem gX5_insert_X5_checkSigns : GoodIn wsX5_insert (va_wsS RX5 55 yX5_checkSigns wsX5_checkSigns) := goodIn_app (goodIn_of _ (by decide +kernel)) ggX5_insert_X5_checkSigns
set_option maxRecDepth 20000 in
theorem ggX5_insert_X0_save : GoodIn wsX5_insert wsX0_save := goodIn_r _ [30, 31, 32, 33, 34, 29, 35, 36, 37, 38, 39, 40, 41, 42, 43, 44, 45, 46, 47, 48, 49, 50, 51, 52, 53, 54, 55, 56, 57, 58, 59, 60, 61, 62, 221, 222, 212, 213, 214, 215, 216, 217, 218, 219, 220] (by decide +kernel) (by decide +kernel)
set_option maxRecDepth 20000 in
theorem gX5_insert_X0_save : GoodIn wsX5_insert (wsV RX5 65 RX0 yX0_save wsX0_save) := goodIn_app (goodIn_of _ (by decide +kernel)) ggX5_insert_X0_save
set_option maxRecDepth 20000 in
theorem ggX5_insert_X3_open : GoodIn wsX5_insert wsX3_open := goodIn_r _ [66, 56, 58, 59, 60, 61, 62, 67, 68, 69, 44, 70, 71, 72, 73, 74, 57, 47, 48, 49, 50, 212, 213, 214, 215, 216, 217, 218, 219, 220] (by decide +kernel) (by decide +kernel)
set_option maxRecDepth 20000 in
theorem gX5_insert_X3_open : GoodIn wsX5_insert (wsV RX5 69 RX3 yX3_open wsX3_open) := goodIn_app (goodIn_of _ (by decide +kernel)) ggX5_insert_X3_open
set_option maxRecDepth 20000 in
theorem ggX5_insert_X3_addLetter : GoodIn wsX5_insert wsX3_addLetter := goodIn_r _ [78, 58, 57, 59, 79, 80, 81, 44, 82, 56, 212, 213, 214, 215, 216, 217, 218, 219, 220] (by decide +kernel) (by decide +kernel)
set_option maxRecDepth 20000 in
theorem gX5_insert_X3_addLetter : GoodIn wsX5_insert (wsV RX5 73 RX3 yX3_addLetter wsX3_addLetter) := goodIn_app (goodIn_of _ (by decide +kernel)) ggX5_insert_X3_addLetter
set_option maxRecDepth 20000 in
theorem ggX5_insert_X3_putSigns : GoodIn wsX5_insert wsX3_putSigns := goodIn_r _ [86, 60, 61, 79, 80, 81, 44, 82, 56, 212, 213, 214, 215, 216, 217, 218, 219, 220] (by decide +kernel) (by decide +kernel)
set_option maxRecDepth 20000 in
theorem gX5_insert_X3_putSigns : GoodIn wsX5_insert (wsV RX5 77 RX3 yX3_putSigns wsX3_putSigns) := goodIn_app (goodIn_of _ (by decide +kernel)) ggX5_insert_X3_putSigns
set_option maxRecDepth 20000 in
theorem ggX5_insert_X5_setLines : GoodIn wsX5_insert wsX5_setLines := goodIn_r _ [90, 91, 3, 92, 93, 94, 44, 95, 46, 96, 97, 98, 99, 100, 101, 102, 103, 48, 49, 50, 104, 105, 106, 107, 108, 109, 110, 111, 112, 113, 114, 115, 116, 117, 118, 119, 120, 73, 121, 122, 123, 124, 125, 72, 74, 126, 127, 128, 129, 130, 59, 60, 61, 79, 80, 81, 82, 56, 131, 8, 132, 133, 134, 135, 136, 137, 138, 139, 140, 141, 142, 143, 144, 145, 146, 147, 148, 149, 150, 151, 152, 153, 154, 51, 155, 156, 157, 158, 159, 160, 161, 162, 163, 164, 165, 166, 62, 167, 168, 169, 170, 171, 172, 173, 174, 175, 176, 177, 178, 179, 180, 181, 182, 183, 184, 185, 186, 187, 188, 189, 190, 191, 192, 193, 194, 195, 196, 197, 198, 199, 200, 201, 202, 203, 204, 205, 206, 207, 208, 209, 210, 211, 212, 213, 214, 215, 216, 217, 218, 219, 220, 223, 224, 225, 226, 227, 228, 229, 230, 231, 232, 233, 234, 235, 236, 237] (by decide +kernel) (by decide +kernel)
set_option maxRecDepth 20000 in
theorem gX5_insert_X5_setLines : GoodIn wsX5_insert (wsV RX5 80 RX5 yX5_setLines wsX5_setLines) := goodIn_app (goodIn_of _ (by decide +kernel)) ggX5_insert_X5_setLines
theorem dX5_insert_0 : decode cX5_insert 0 = .ok (.iload_n 1, 1) := by decide +kernel
theorem dX5_insert_1 : decode cX5_insert 1 = .ok (.aload_n 0, 1) := by decide +kernel
theorem dX5_insert_2 : decode cX5_insert 2 = .ok (.getfield 10, 3) := by decide +kernel
theorem dX5_insert_5 : decode cX5_insert 5 = .ok (.getfield 43, 3) := by decide +kernel
theorem dX5_insert_8 : decode cX5_insert 8 = .ok (.iconst 1, 1) := by decide +kernel
theorem dX5_insert_9 : decode cX5_insert 9 = .ok (.iadd, 1) := by decide +kernel
theorem dX5_insert_10 : decode cX5_insert 10 = .ok (.invokestatic 47, 3) := by decide +kernel
theorem dX5_insert_13 : decode cX5_insert 13 = .ok (.iload_n 2, 1) := by decide +kernel
theorem dX5_insert_14 : decode cX5_insert 14 = .ok (.iconst 0, 1) := by decide +kernel
theorem dX5_insert_15 : decode cX5_insert 15 = .ok (.bipush 25, 2) := by decide +kernel
theorem dX5_insert_17 : decode cX5_insert 17 = .ok (.invokestatic 51, 3) := by decide +kernel
theorem dX5_insert_20 : decode cX5_insert 20 = .ok (.iload_n 3, 1) := by decide +kernel
theorem dX5_insert_21 : decode cX5_insert 21 = .ok (.iconst 1, 1) := by decide +kernel
theorem dX5_insert_22 : decode cX5_insert 22 = .ok (.bipush 12, 2) := by decide +kernel
theorem dX5_insert_24 : decode cX5_insert 24 = .ok (.invokestatic 51, 3) := by decide +kernel
theorem dX5_insert_27 : decode cX5_insert 27 = .ok (.iload 4, 2) := by decide +kernel
theorem dX5_insert_29 : decode cX5_insert 29 = .ok (.iload 5, 2) := by decide +kernel
theorem dX5_insert_31 : decode cX5_insert 31 = .ok (.invokestatic 55, 3) := by decide +kernel
theorem dX5_insert_34 : decode cX5_insert 34 = .ok (.aload_n 0, 1) := by decide +kernel
theorem dX5_insert_35 : decode cX5_insert 35 = .ok (.getfield 10, 3) := by decide +kernel
theorem dX5_insert_38 : decode cX5_insert 38 = .ok (.getfield 43, 3) := by decide +kernel
theorem dX5_insert_41 : decode cX5_insert 41 = .ok (.bipush 60, 2) := by decide +kernel
theorem dX5_insert_43 : decode cX5_insert 43 = .ok (.if_icmp .lt 13, 3) := by decide +kernel
theorem dX5_insert_46 : decode cX5_insert 46 = .ok (.new 58, 3) := by decide +kernel
theorem dX5_insert_49 : decode cX5_insert 49 = .ok (.dup, 1) := by decide +kernel
theorem dX5_insert_50 : decode cX5_insert 50 = .ok (.ldc 60, 2) := by decide +kernel
theorem dX5_insert_52 : decode cX5_insert 52 = .ok (.invokespecial 62, 3) := by decide +kernel
theorem dX5_insert_55 : decode cX5_insert 55 = .ok (.athrow, 1) := by decide +kernel
theorem dX5_insert_56 : decode cX5_insert 56 = .ok (.aload_n 0, 1) := by decide +kernel
theorem dX5_insert_57 : decode cX5_insert 57 = .ok (.getfield 39, 3) := by decide +kernel
theorem dX5_insert_60 : decode cX5_insert 60 = .ok (.aload_n 0, 1) := by decide +kernel
theorem dX5_insert_61 : decode cX5_insert 61 = .ok (.getfield 10, 3) := by decide +kernel
theorem dX5_insert_64 : decode cX5_insert 64 = .ok (.invokevirtual 65, 3) := by decide +kernel
theorem dX5_insert_67 : decode cX5_insert 67 = .ok (.aload_n 0, 1) := by decide +kernel
theorem dX5_insert_68 : decode cX5_insert 68 = .ok (.getfield 10, 3) := by decide +kernel
theorem dX5_insert_71 : decode cX5_insert 71 = .ok (.iload_n 1, 1) := by decide +kernel
theorem dX5_insert_72 : decode cX5_insert 72 = .ok (.invokevirtual 69, 3) := by decide +kernel
theorem dX5_insert_75 : decode cX5_insert 75 = .ok (.iconst 0, 1) := by decide +kernel
theorem dX5_insert_76 : decode cX5_insert 76 = .ok (.istore 6, 2) := by decide +kernel
theorem dX5_insert_78 : decode cX5_insert 78 = .ok (.iload 6, 2) := by decide +kernel
theorem dX5_insert_80 : decode cX5_insert 80 = .ok (.iload_n 3, 1) := by decide +kernel
theorem dX5_insert_81 : decode cX5_insert 81 = .ok (.if_icmp .ge 25, 3) := by decide +kernel
theorem dX5_insert_84 : decode cX5_insert 84 = .ok (.aload_n 0, 1) := by decide +kernel
theorem dX5_insert_85 : decode cX5_insert 85 = .ok (.getfield 10, 3) := by decide +kernel
theorem dX5_insert_88 : decode cX5_insert 88 = .ok (.iload_n 1, 1) := by decide +kernel
theorem dX5_insert_89 : decode cX5_insert 89 = .ok (.iload_n 2, 1) := by decide +kernel
theorem dX5_insert_90 : decode cX5_insert 90 = .ok (.iload 6, 2) := by decide +kernel
theorem dX5_insert_92 : decode cX5_insert 92 = .ok (.iadd, 1) := by decide +kernel
theorem dX5_insert_93 : decode cX5_insert 93 = .ok (.bipush 26, 2) := by decide +kernel
theorem dX5_insert_95 : decode cX5_insert 95 = .ok (.irem, 1) := by decide +kernel
theorem dX5_insert_96 : decode cX5_insert 96 = .ok (.invokevirtual 73, 3) := by decide +kernel
theorem dX5_insert_99 : decode cX5_insert 99 = .ok (.pop, 1) := by decide +kernel
theorem dX5_insert_100 : decode cX5_insert 100 = .ok (.iinc 6 1, 3) := by decide +kernel
theorem dX5_insert_103 : decode cX5_insert 103 = .ok (.goto (-25), 3) := by decide +kernel
theorem dX5_insert_106 : decode cX5_insert 106 = .ok (.aload_n 0, 1) := by decide +kernel
theorem dX5_insert_107 : decode cX5_insert 107 = .ok (.getfield 10, 3) := by decide +kernel
theorem dX5_insert_110 : decode cX5_insert 110 = .ok (.iload_n 1, 1) := by decide +kernel
theorem dX5_insert_111 : decode cX5_insert 111 = .ok (.iload 4, 2) := by decide +kernel
theorem dX5_insert_113 : decode cX5_insert 113 = .ok (.iload 5, 2) := by decide +kernel
theorem dX5_insert_115 : decode cX5_insert 115 = .ok (.invokevirtual 77, 3) := by decide +kernel
theorem dX5_insert_118 : decode cX5_insert 118 = .ok (.aload_n 0, 1) := by decide +kernel
theorem dX5_insert_119 : decode cX5_insert 119 = .ok (.invokevirtual 80, 3) := by decide +kernel
theorem dX5_insert_122 : decode cX5_insert 122 = .ok (.aload_n 0, 1) := by decide +kernel
theorem dX5_insert_123 : decode cX5_insert 123 = .ok (.getfield 10, 3) := by decide +kernel
theorem dX5_insert_126 : decode cX5_insert 126 = .ok (.getfield 43, 3) := by decide +kernel
theorem dX5_insert_129 : decode cX5_insert 129 = .ok (.ireturn, 1) := by decide +kernel
set_option maxRecDepth 20000 in
theorem ggX5_removeWord_X5_checkIndex : GoodIn wsX5_removeWord wsX5_checkIndex := goodIn_ca (goodIn_r _ [7, 8, 9] (by decide +kernel) (by decide +kernel)) (goodIn_sub (fun _ h => List.mem_cons_of_mem _ (List.mem_append_right _ h)) (by decide +kernel))
set_option maxRecDepth 20000 in
theorem gX5_removeWord_X5_checkIndex : GoodIn wsX5_removeWord (va_wsS RX5 47 yX5_checkIndex wsX5_checkIndex) := goodIn_app (goodIn_of _ (by decide +kernel)) ggX5_removeWord_X5_checkIndex
set_option maxRecDepth 20000 in
theorem ggX5_removeWord_X0_save : GoodIn wsX5_removeWord wsX0_save := goodIn_r _ [14, 15, 16, 17, 18, 13, 19, 20, 21, 22, 23, 24, 25, 26, 27, 28, 29, 30, 31, 32, 33, 34, 35, 36, 37, 38, 39, 40, 41, 42, 43, 44, 45, 46, 197, 198, 188, 189, 190, 191, 192, 193, 194, 195, 196] (by decide +kernel) (by decide +kernel)
set_option maxRecDepth 20000 in
theorem gX5_removeWord_X0_save : GoodIn wsX5_removeWord (wsV RX5 65 RX0 yX0_save wsX0_save) := goodIn_app (goodIn_of _ (by decide +kernel)) ggX5_removeWord_X0_save
set_option maxRecDepth 20000 in
theorem ggX5_removeWord_X3_close : GoodIn wsX5_removeWord wsX3_close := goodIn_r _ [50, 40, 51, 52, 53, 28, 54, 55, 56, 57, 58, 59, 60, 61, 62, 41, 31, 32, 33, 34, 42, 43, 44, 45, 46, 188, 189, 190, 191, 192, 193, 194, 195, 196] (by decide +kernel) (by decide +kernel)
set_option maxRecDepth 20000 in
theorem gX5_removeWord_X3_close : GoodIn wsX5_removeWord (wsV RX5 83 RX3 yX3_close wsX3_close) := goodIn_app (goodIn_of _ (by decide +kernel)) ggX5_removeWord_X3_close
set_option maxRecDepth 20000 in
theorem ggX5_removeWord_X5_setLines : GoodIn wsX5_removeWord wsX5_setLines := goodIn_r _ [66, 67, 1, 68, 69, 70, 28, 71, 30, 72, 73, 74, 75, 76, 77, 78, 79, 32, 33, 34, 80, 81, 82, 83, 84, 85, 86, 87, 88, 89, 90, 91, 92, 93, 94, 95, 96, 61, 97, 98, 99, 100, 101, 60, 62, 102, 103, 104, 105, 106, 43, 44, 45, 51, 52, 53, 54, 40, 107, 6, 108, 109, 110, 111, 112, 113, 114, 115, 116, 117, 118, 119, 120, 121, 122, 123, 124, 125, 126, 127, 128, 129, 130, 35, 131, 132, 133, 134, 135, 136, 137, 138, 139, 140, 141, 142, 46, 143, 144, 145, 146, 147, 148, 149, 150, 151, 152, 153, 154, 155, 156, 157, 158, 159, 160, 161, 162, 163, 164, 165, 166, 167, 168, 169, 170, 171, 172, 173, 174, 175, 176, 177, 178, 179, 180, 181, 182, 183, 184, 185, 186, 187, 188, 189, 190, 191, 192, 193, 194, 195, 196, 199, 200, 201, 202, 203, 204, 205, 206, 207, 208, 209, 210, 211, 212, 213] (by decide +kernel) (by decide +kernel)
set_option maxRecDepth 20000 in
theorem gX5_removeWord_X5_setLines : GoodIn wsX5_removeWord (wsV RX5 80 RX5 yX5_setLines wsX5_setLines) := goodIn_app (goodIn_of _ (by decide +kernel)) ggX5_removeWord_X5_setLines
theorem dX5_removeWord_0 : decode cX5_removeWord 0 = .ok (.iload_n 1, 1) := by decide +kernel
theorem dX5_removeWord_1 : decode cX5_removeWord 1 = .ok (.aload_n 0, 1) := by decide +kernel
theorem dX5_removeWord_2 : decode cX5_removeWord 2 = .ok (.getfield 10, 3) := by decide +kernel
theorem dX5_removeWord_5 : decode cX5_removeWord 5 = .ok (.getfield 43, 3) := by decide +kernel
theorem dX5_removeWord_8 : decode cX5_removeWord 8 = .ok (.invokestatic 47, 3) := by decide +kernel
theorem dX5_removeWord_11 : decode cX5_removeWord 11 = .ok (.aload_n 0, 1) := by decide +kernel
theorem dX5_removeWord_12 : decode cX5_removeWord 12 = .ok (.getfield 39, 3) := by decide +kernel
theorem dX5_removeWord_15 : decode cX5_removeWord 15 = .ok (.aload_n 0, 1) := by decide +kernel
theorem dX5_removeWord_16 : decode cX5_removeWord 16 = .ok (.getfield 10, 3) := by decide +kernel
theorem dX5_removeWord_19 : decode cX5_removeWord 19 = .ok (.invokevirtual 65, 3) := by decide +kernel
theorem dX5_removeWord_22 : decode cX5_removeWord 22 = .ok (.aload_n 0, 1) := by decide +kernel
theorem dX5_removeWord_23 : decode cX5_removeWord 23 = .ok (.getfield 10, 3) := by decide +kernel
theorem dX5_removeWord_26 : decode cX5_removeWord 26 = .ok (.iload_n 1, 1) := by decide +kernel
theorem dX5_removeWord_27 : decode cX5_removeWord 27 = .ok (.invokevirtual 83, 3) := by decide +kernel
theorem dX5_removeWord_30 : decode cX5_removeWord 30 = .ok (.aload_n 0, 1) := by decide +kernel
theorem dX5_removeWord_31 : decode cX5_removeWord 31 = .ok (.invokevirtual 80, 3) := by decide +kernel
theorem dX5_removeWord_34 : decode cX5_removeWord 34 = .ok (.aload_n 0, 1) := by decide +kernel
theorem dX5_removeWord_35 : decode cX5_removeWord 35 = .ok (.getfield 10, 3) := by decide +kernel
theorem dX5_removeWord_38 : decode cX5_removeWord 38 = .ok (.getfield 43, 3) := by decide +kernel
theorem dX5_removeWord_41 : decode cX5_removeWord 41 = .ok (.ireturn, 1) := by decide +kernel
set_option maxRecDepth 20000 in
theorem ggX5_endParagraph_X5_checkIndex : GoodIn wsX5_endParagraph wsX5_checkIndex := goodIn_ca (goodIn_r _ [7, 8, 9] (by decide +kernel) (by decide +kernel)) (goodIn_sub (fun _ h => List.mem_cons_of_mem _ (List.mem_append_right _ h)) (by decide +kernel))
set_option maxRecDepth 20000 in
theorem gX5_endParagraph_X5_checkIndex : GoodIn wsX5_endParagraph (va_wsS RX5 47 yX5_checkIndex wsX5_checkIndex) := goodIn_app (goodIn_of _ (by decide +kernel)) ggX5_endParagraph_X5_checkIndex
set_option maxRecDepth 20000 in
theorem ggX5_endParagraph_X0_save : GoodIn wsX5_endParagraph wsX0_save := goodIn_r _ [14, 15, 16, 17, 18, 13, 19, 20, 21, 22, 23, 24, 25, 26, 27, 28, 29, 30, 31, 32, 33, 34, 35, 36, 37, 38, 39, 40, 41, 42, 43, 44, 45, 46, 196, 197, 187, 188, 189, 190, 191, 192, 193, 194, 195] (by decide +kernel) (by decide +kernel)
set_option maxRecDepth 20000 in
theorem gX5_endParagraph_X0_save : GoodIn wsX5_endParagraph (wsV RX5 65 RX0 yX0_save wsX0_save) := goodIn_app (goodIn_of _ (by decide +kernel)) ggX5_endParagraph_X0_save
set_option maxRecDepth 20000 in
theorem ggX5_endParagraph_X3_wasSetToEnd : GoodIn wsX5_endParagraph wsX3_wasSetToEnd := goodIn_r _ [50, 46, 51, 52, 53, 28, 54, 40, 187, 188, 189, 190, 191, 192, 193, 194, 195] (by decide +kernel) (by decide +kernel)
set_option maxRecDepth 20000 in
theorem gX5_endParagraph_X3_wasSetToEnd : GoodIn wsX5_endParagraph (wsV RX5 86 RX3 yX3_wasSetToEnd wsX3_wasSetToEnd) := goodIn_app (goodIn_of _ (by decide +kernel)) ggX5_endParagraph_X3_wasSetToEnd
set_option maxRecDepth 20000 in
theorem ggX5_endParagraph_X3_putEnd : GoodIn wsX5_endParagraph wsX3_putEnd := goodIn_r _ [58, 46, 51, 52, 53, 28, 54, 40, 187, 188, 189, 190, 191, 192, 193, 194, 195] (by decide +kernel) (by decide +kernel)
set_option maxRecDepth 20000 in
theorem gX5_endParagraph_X3_putEnd : GoodIn wsX5_endParagraph (wsV RX5 90 RX3 yX3_putEnd wsX3_putEnd) := goodIn_app (goodIn_of _ (by decide +kernel)) ggX5_endParagraph_X3_putEnd
set_option maxRecDepth 20000 in
theorem ggX5_endParagraph_X5_setLines : GoodIn wsX5_endParagraph wsX5_setLines := goodIn_r _ [62, 63, 1, 64, 65, 66, 28, 67, 30, 68, 69, 70, 71, 72, 73, 74, 75, 32, 33, 34, 76, 77, 78, 79, 80, 81, 82, 83, 84, 85, 86, 87, 88, 89, 90, 91, 92, 93, 94, 95, 96, 97, 98, 99, 100, 101, 102, 103, 104, 105, 43, 44, 45, 51, 52, 53, 54, 40, 106, 6, 107, 108, 109, 110, 111, 112, 113, 114, 115, 116, 117, 118, 119, 120, 121, 122, 123, 124, 125, 126, 127, 128, 129, 35, 130, 131, 132, 133, 134, 135, 136, 137, 138, 139, 140, 141, 46, 142, 143, 144, 145, 146, 147, 148, 149, 150, 151, 152, 153, 154, 155, 156, 157, 158, 159, 160, 161, 162, 163, 164, 165, 166, 167, 168, 169, 170, 171, 172, 173, 174, 175, 176, 177, 178, 179, 180, 181, 182, 183, 184, 185, 186, 187, 188, 189, 190, 191, 192, 193, 194, 195, 198, 199, 200, 201, 202, 203, 204, 205, 206, 207, 208, 209, 210, 211, 212] (by decide +kernel) (by decide +kernel)
set_option maxRecDepth 20000 in
theorem gX5_endParagraph_X5_setLines : GoodIn wsX5_endParagraph (wsV RX5 80 RX5 yX5_setLines wsX5_setLines) := goodIn_app (goodIn_of _ (by decide +kernel)) ggX5_endParagraph_X5_setLines
theorem dX5_endParagraph_0 : decode cX5_endParagraph 0 = .ok (.iload_n 1, 1) := by decide +kernel
theorem dX5_endParagraph_1 : decode cX5_endParagraph 1 = .ok (.aload_n 0, 1) := by decide +kernel
theorem dX5_endParagraph_2 : decode cX5_endParagraph 2 = .ok (.getfield 10, 3) := by decide +kernel
theorem dX5_endParagraph_5 : decode cX5_endParagraph 5 = .ok (.getfield 43, 3) := by decide +kernel
theorem dX5_endParagraph_8 : decode cX5_endParagraph 8 = .ok (.invokestatic 47, 3) := by decide +kernel
theorem dX5_endParagraph_11 : decode cX5_endParagraph 11 = .ok (.aload_n 0, 1) := by decide +kernel
theorem dX5_endParagraph_12 : decode cX5_endParagraph 12 = .ok (.getfield 39, 3) := by decide +kernel
theorem dX5_endParagraph_15 : decode cX5_endParagraph 15 = .ok (.aload_n 0, 1) := by decide +kernel
theorem dX5_endParagraph_16 : decode cX5_endParagraph 16 = .ok (.getfield 10, 3) := by decide +kernel
theorem dX5_endParagraph_19 : decode cX5_endParagraph 19 = .ok (.invokevirtual 65, 3) := by decide +kernel
theorem dX5_endParagraph_22 : decode cX5_endParagraph 22 = .ok (.aload_n 0, 1) := by decide +kernel
theorem dX5_endParagraph_23 : decode cX5_endParagraph 23 = .ok (.getfield 10, 3) := by decide +kernel
theorem dX5_endParagraph_26 : decode cX5_endParagraph 26 = .ok (.iload_n 1, 1) := by decide +kernel
theorem dX5_endParagraph_27 : decode cX5_endParagraph 27 = .ok (.invokevirtual 86, 3) := by decide +kernel
theorem dX5_endParagraph_30 : decode cX5_endParagraph 30 = .ok (.ifCond .eq 7, 3) := by decide +kernel
theorem dX5_endParagraph_33 : decode cX5_endParagraph 33 = .ok (.iconst 1, 1) := by decide +kernel
theorem dX5_endParagraph_34 : decode cX5_endParagraph 34 = .ok (.goto 4, 3) := by decide +kernel
theorem dX5_endParagraph_37 : decode cX5_endParagraph 37 = .ok (.iconst 0, 1) := by decide +kernel
theorem dX5_endParagraph_38 : decode cX5_endParagraph 38 = .ok (.istore_n 3, 1) := by decide +kernel
theorem dX5_endParagraph_39 : decode cX5_endParagraph 39 = .ok (.aload_n 0, 1) := by decide +kernel
theorem dX5_endParagraph_40 : decode cX5_endParagraph 40 = .ok (.getfield 10, 3) := by decide +kernel
theorem dX5_endParagraph_43 : decode cX5_endParagraph 43 = .ok (.iload_n 1, 1) := by decide +kernel
theorem dX5_endParagraph_44 : decode cX5_endParagraph 44 = .ok (.iload_n 2, 1) := by decide +kernel
theorem dX5_endParagraph_45 : decode cX5_endParagraph 45 = .ok (.invokevirtual 90, 3) := by decide +kernel
theorem dX5_endParagraph_48 : decode cX5_endParagraph 48 = .ok (.aload_n 0, 1) := by decide +kernel
theorem dX5_endParagraph_49 : decode cX5_endParagraph 49 = .ok (.invokevirtual 80, 3) := by decide +kernel
theorem dX5_endParagraph_52 : decode cX5_endParagraph 52 = .ok (.iload_n 3, 1) := by decide +kernel
theorem dX5_endParagraph_53 : decode cX5_endParagraph 53 = .ok (.ireturn, 1) := by decide +kernel
set_option maxRecDepth 20000 in
theorem ggX5_setSigns_X5_checkIndex : GoodIn wsX5_setSigns wsX5_checkIndex := goodIn_ca (goodIn_r _ [7, 8, 9] (by decide +kernel) (by decide +kernel)) (goodIn_sub (fun _ h => List.mem_cons_of_mem _ (List.mem_append_left _ (List.mem_append_right _ h))) (by decide +kernel))
set_option maxRecDepth 20000 in
theorem gX5_setSigns_X5_checkIndex : GoodIn wsX5_setSigns (va_wsS RX5 47 yX5_checkIndex wsX5_checkIndex) := goodIn_app (goodIn_of _ (by decide +kernel)) ggX5_setSigns_X5_checkIndex
set_option maxRecDepth 20000 in
theorem ggX5_setSigns_X5_checkSigns : GoodIn wsX5_setSigns wsX5_checkSigns := goodIn_ca (goodIn_r _ [12, 13, 14, 15, 16, 6, 17, 18, 19, 20] (by decide +kernel) (by decide +kernel)) (goodIn_sub (fun _ h => List.mem_cons_of_mem _ (List.mem_append_right _ h)) (by decide +kernel))
