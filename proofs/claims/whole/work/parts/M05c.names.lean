theorem dX5_digest_59 : decode cX5_digest 59 = .ok (.iinc 3 1, 3) := by decide +kernel
theorem dX5_digest_62 : decode cX5_digest 62 = .ok (.goto (-22), 3) := by decide +kernel
theorem dX5_digest_65 : decode cX5_digest 65 = .ok (.aload_n 0, 1) := by decide +kernel
theorem dX5_digest_66 : decode cX5_digest 66 = .ok (.lload_n 1, 1) := by decide +kernel
theorem dX5_digest_67 : decode cX5_digest 67 = .ok (.invokevirtual 193, 3) := by decide +kernel
theorem dX5_digest_70 : decode cX5_digest 70 = .ok (.lstore_n 1, 1) := by decide +kernel
theorem dX5_digest_71 : decode cX5_digest 71 = .ok (.aload_n 0, 1) := by decide +kernel
theorem dX5_digest_72 : decode cX5_digest 72 = .ok (.lload_n 1, 1) := by decide +kernel
theorem dX5_digest_73 : decode cX5_digest 73 = .ok (.invokevirtual 197, 3) := by decide +kernel
theorem dX5_digest_76 : decode cX5_digest 76 = .ok (.lstore_n 1, 1) := by decide +kernel
theorem dX5_digest_77 : decode cX5_digest 77 = .ok (.aload_n 0, 1) := by decide +kernel
theorem dX5_digest_78 : decode cX5_digest 78 = .ok (.lload_n 1, 1) := by decide +kernel
theorem dX5_digest_79 : decode cX5_digest 79 = .ok (.invokevirtual 200, 3) := by decide +kernel
theorem dX5_digest_82 : decode cX5_digest 82 = .ok (.lreturn, 1) := by decide +kernel
theorem dX5_checkIndex_0 : decode cX5_checkIndex 0 = .ok (.iload_n 0, 1) := by decide +kernel
theorem dX5_checkIndex_1 : decode cX5_checkIndex 1 = .ok (.ifCond .lt 8, 3) := by decide +kernel
theorem dX5_checkIndex_4 : decode cX5_checkIndex 4 = .ok (.iload_n 0, 1) := by decide +kernel
theorem dX5_checkIndex_5 : decode cX5_checkIndex 5 = .ok (.iload_n 1, 1) := by decide +kernel
theorem dX5_checkIndex_6 : decode cX5_checkIndex 6 = .ok (.if_icmp .lt 13, 3) := by decide +kernel
theorem dX5_checkIndex_9 : decode cX5_checkIndex 9 = .ok (.new 203, 3) := by decide +kernel
theorem dX5_checkIndex_12 : decode cX5_checkIndex 12 = .ok (.dup, 1) := by decide +kernel
theorem dX5_checkIndex_13 : decode cX5_checkIndex 13 = .ok (.ldc 205, 2) := by decide +kernel
theorem dX5_checkIndex_15 : decode cX5_checkIndex 15 = .ok (.invokespecial 207, 3) := by decide +kernel
theorem dX5_checkIndex_18 : decode cX5_checkIndex 18 = .ok (.athrow, 1) := by decide +kernel
theorem dX5_checkIndex_19 : decode cX5_checkIndex 19 = .ok (.return_, 1) := by decide +kernel
theorem dX5_checkRange_0 : decode cX5_checkRange 0 = .ok (.iload_n 0, 1) := by decide +kernel
theorem dX5_checkRange_1 : decode cX5_checkRange 1 = .ok (.iload_n 1, 1) := by decide +kernel
theorem dX5_checkRange_2 : decode cX5_checkRange 2 = .ok (.if_icmp .lt 8, 3) := by decide +kernel
theorem dX5_checkRange_5 : decode cX5_checkRange 5 = .ok (.iload_n 0, 1) := by decide +kernel
theorem dX5_checkRange_6 : decode cX5_checkRange 6 = .ok (.iload_n 2, 1) := by decide +kernel
theorem dX5_checkRange_7 : decode cX5_checkRange 7 = .ok (.if_icmp .le 13, 3) := by decide +kernel
theorem dX5_checkRange_10 : decode cX5_checkRange 10 = .ok (.new 173, 3) := by decide +kernel
theorem dX5_checkRange_13 : decode cX5_checkRange 13 = .ok (.dup, 1) := by decide +kernel
theorem dX5_checkRange_14 : decode cX5_checkRange 14 = .ok (.ldc 208, 2) := by decide +kernel
theorem dX5_checkRange_16 : decode cX5_checkRange 16 = .ok (.invokespecial 177, 3) := by decide +kernel
theorem dX5_checkRange_19 : decode cX5_checkRange 19 = .ok (.athrow, 1) := by decide +kernel
theorem dX5_checkRange_20 : decode cX5_checkRange 20 = .ok (.return_, 1) := by decide +kernel
set_option maxRecDepth 20000 in
theorem ggX5_checkSigns_X5_mayStandAhead : GoodIn wsX5_checkSigns wsX5_mayStandAhead := goodIn_r _ [6] (by decide +kernel) (by decide +kernel)
set_option maxRecDepth 20000 in
theorem gX5_checkSigns_X5_mayStandAhead : GoodIn wsX5_checkSigns (va_wsS RX5 210 yX5_mayStandAhead wsX5_mayStandAhead) := goodIn_app (goodIn_of _ (by decide +kernel)) ggX5_checkSigns_X5_mayStandAhead
set_option maxRecDepth 20000 in
theorem ggX5_checkSigns_X5_mayStandBehind : GoodIn wsX5_checkSigns wsX5_mayStandBehind := goodIn_r _ [9] (by decide +kernel) (by decide +kernel)
set_option maxRecDepth 20000 in
theorem gX5_checkSigns_X5_mayStandBehind : GoodIn wsX5_checkSigns (va_wsS RX5 213 yX5_mayStandBehind wsX5_mayStandBehind) := goodIn_app (goodIn_of _ (by decide +kernel)) ggX5_checkSigns_X5_mayStandBehind
theorem dX5_checkSigns_0 : decode cX5_checkSigns 0 = .ok (.iload_n 0, 1) := by decide +kernel
theorem dX5_checkSigns_1 : decode cX5_checkSigns 1 = .ok (.iconst (-1), 1) := by decide +kernel
theorem dX5_checkSigns_2 : decode cX5_checkSigns 2 = .ok (.if_icmp .eq 10, 3) := by decide +kernel
theorem dX5_checkSigns_5 : decode cX5_checkSigns 5 = .ok (.iload_n 0, 1) := by decide +kernel
theorem dX5_checkSigns_6 : decode cX5_checkSigns 6 = .ok (.invokestatic 210, 3) := by decide +kernel
theorem dX5_checkSigns_9 : decode cX5_checkSigns 9 = .ok (.ifCond .eq 15, 3) := by decide +kernel
theorem dX5_checkSigns_12 : decode cX5_checkSigns 12 = .ok (.iload_n 1, 1) := by decide +kernel
theorem dX5_checkSigns_13 : decode cX5_checkSigns 13 = .ok (.iconst (-1), 1) := by decide +kernel
theorem dX5_checkSigns_14 : decode cX5_checkSigns 14 = .ok (.if_icmp .eq 20, 3) := by decide +kernel
theorem dX5_checkSigns_17 : decode cX5_checkSigns 17 = .ok (.iload_n 1, 1) := by decide +kernel
theorem dX5_checkSigns_18 : decode cX5_checkSigns 18 = .ok (.invokestatic 213, 3) := by decide +kernel
theorem dX5_checkSigns_21 : decode cX5_checkSigns 21 = .ok (.ifCond .ne 13, 3) := by decide +kernel
theorem dX5_checkSigns_24 : decode cX5_checkSigns 24 = .ok (.new 173, 3) := by decide +kernel
theorem dX5_checkSigns_27 : decode cX5_checkSigns 27 = .ok (.dup, 1) := by decide +kernel
theorem dX5_checkSigns_28 : decode cX5_checkSigns 28 = .ok (.ldc 216, 2) := by decide +kernel
theorem dX5_checkSigns_30 : decode cX5_checkSigns 30 = .ok (.invokespecial 177, 3) := by decide +kernel
theorem dX5_checkSigns_33 : decode cX5_checkSigns 33 = .ok (.athrow, 1) := by decide +kernel
theorem dX5_checkSigns_34 : decode cX5_checkSigns 34 = .ok (.return_, 1) := by decide +kernel
theorem dX5_mayStandAhead_0 : decode cX5_mayStandAhead 0 = .ok (.iload_n 0, 1) := by decide +kernel
theorem dX5_mayStandAhead_1 : decode cX5_mayStandAhead 1 = .ok (.ifCond .eq 8, 3) := by decide +kernel
theorem dX5_mayStandAhead_4 : decode cX5_mayStandAhead 4 = .ok (.iload_n 0, 1) := by decide +kernel
theorem dX5_mayStandAhead_5 : decode cX5_mayStandAhead 5 = .ok (.iconst 1, 1) := by decide +kernel
theorem dX5_mayStandAhead_6 : decode cX5_mayStandAhead 6 = .ok (.if_icmp .ne 7, 3) := by decide +kernel
theorem dX5_mayStandAhead_9 : decode cX5_mayStandAhead 9 = .ok (.iconst 1, 1) := by decide +kernel
theorem dX5_mayStandAhead_10 : decode cX5_mayStandAhead 10 = .ok (.goto 4, 3) := by decide +kernel
theorem dX5_mayStandAhead_13 : decode cX5_mayStandAhead 13 = .ok (.iconst 0, 1) := by decide +kernel
theorem dX5_mayStandAhead_14 : decode cX5_mayStandAhead 14 = .ok (.ireturn, 1) := by decide +kernel
theorem dX5_mayStandBehind_0 : decode cX5_mayStandBehind 0 = .ok (.iload_n 0, 1) := by decide +kernel
theorem dX5_mayStandBehind_1 : decode cX5_mayStandBehind 1 = .ok (.ifCond .eq 14, 3) := by decide +kernel
theorem dX5_mayStandBehind_4 : decode cX5_mayStandBehind 4 = .ok (.iload_n 0, 1) := by decide +kernel
theorem dX5_mayStandBehind_5 : decode cX5_mayStandBehind 5 = .ok (.iconst 2, 1) := by decide +kernel
theorem dX5_mayStandBehind_6 : decode cX5_mayStandBehind 6 = .ok (.if_icmp .lt 13, 3) := by decide +kernel
theorem dX5_mayStandBehind_9 : decode cX5_mayStandBehind 9 = .ok (.iload_n 0, 1) := by decide +kernel
theorem dX5_mayStandBehind_10 : decode cX5_mayStandBehind 10 = .ok (.bipush 8, 2) := by decide +kernel
theorem dX5_mayStandBehind_12 : decode cX5_mayStandBehind 12 = .ok (.if_icmp .ge 7, 3) := by decide +kernel
theorem dX5_mayStandBehind_15 : decode cX5_mayStandBehind 15 = .ok (.iconst 1, 1) := by decide +kernel
theorem dX5_mayStandBehind_16 : decode cX5_mayStandBehind 16 = .ok (.goto 4, 3) := by decide +kernel
theorem dX5_mayStandBehind_19 : decode cX5_mayStandBehind 19 = .ok (.iconst 0, 1) := by decide +kernel
theorem dX5_mayStandBehind_20 : decode cX5_mayStandBehind 20 = .ok (.ireturn, 1) := by decide +kernel
theorem dX5_signWidth_0 : decode cX5_signWidth 0 = .ok (.iload_n 0, 1) := by decide +kernel
theorem dX5_signWidth_1 : decode cX5_signWidth 1 = .ok (.ifCond .lt 17, 3) := by decide +kernel
theorem dX5_signWidth_4 : decode cX5_signWidth 4 = .ok (.iload_n 0, 1) := by decide +kernel
theorem dX5_signWidth_5 : decode cX5_signWidth 5 = .ok (.bipush 8, 2) := by decide +kernel
theorem dX5_signWidth_7 : decode cX5_signWidth 7 = .ok (.if_icmp .ge 11, 3) := by decide +kernel
theorem dX5_signWidth_10 : decode cX5_signWidth 10 = .ok (.getstatic 218, 3) := by decide +kernel
theorem dX5_signWidth_13 : decode cX5_signWidth 13 = .ok (.iload_n 0, 1) := by decide +kernel
theorem dX5_signWidth_14 : decode cX5_signWidth 14 = .ok (.iaload, 1) := by decide +kernel
theorem dX5_signWidth_15 : decode cX5_signWidth 15 = .ok (.goto 4, 3) := by decide +kernel
theorem dX5_signWidth_18 : decode cX5_signWidth 18 = .ok (.iconst 0, 1) := by decide +kernel
theorem dX5_signWidth_19 : decode cX5_signWidth 19 = .ok (.ireturn, 1) := by decide +kernel
theorem dX5_signByte_0 : decode cX5_signByte 0 = .ok (.iload_n 0, 1) := by decide +kernel
theorem dX5_signByte_1 : decode cX5_signByte 1 = .ok (.ifCond .lt 17, 3) := by decide +kernel
theorem dX5_signByte_4 : decode cX5_signByte 4 = .ok (.iload_n 0, 1) := by decide +kernel
theorem dX5_signByte_5 : decode cX5_signByte 5 = .ok (.bipush 8, 2) := by decide +kernel
theorem dX5_signByte_7 : decode cX5_signByte 7 = .ok (.if_icmp .ge 11, 3) := by decide +kernel
theorem dX5_signByte_10 : decode cX5_signByte 10 = .ok (.getstatic 221, 3) := by decide +kernel
theorem dX5_signByte_13 : decode cX5_signByte 13 = .ok (.iload_n 0, 1) := by decide +kernel
theorem dX5_signByte_14 : decode cX5_signByte 14 = .ok (.iaload, 1) := by decide +kernel
theorem dX5_signByte_15 : decode cX5_signByte 15 = .ok (.goto 4, 3) := by decide +kernel
theorem dX5_signByte_18 : decode cX5_signByte 18 = .ok (.iconst (-1), 1) := by decide +kernel
theorem dX5_signByte_19 : decode cX5_signByte 19 = .ok (.ireturn, 1) := by decide +kernel
set_option maxRecDepth 20000 in
theorem ggX5_setLines_X3_setting : GoodIn wsX5_setLines wsX3_setting := goodIn_r _ [7, 8, 142, 143, 144, 145, 146, 147, 148, 149, 150] (by decide +kernel) (by decide +kernel)
set_option maxRecDepth 20000 in
theorem gX5_setLines_X3_setting : GoodIn wsX5_setLines (wsV RX5 105 RX3 yX3_setting wsX3_setting) := goodIn_app (goodIn_of _ (by decide +kernel)) ggX5_setLines_X3_setting
set_option maxRecDepth 20000 in
theorem ggX5_setLines_X1_arrange : GoodIn wsX5_setLines wsX1_arrange := goodIn_r _ [13, 14, 15, 16, 17, 18, 19, 20, 21, 22, 23, 24, 25, 12, 26, 27, 28, 29, 30, 31, 32, 33, 34, 35, 36, 37, 38, 39, 40, 41, 42, 43, 44, 45, 46, 47, 48, 6, 49, 50, 51, 52, 53, 54, 55, 56, 57, 58, 59, 60, 61, 62, 63, 64, 65, 66, 67, 68, 69, 70, 71, 72, 73, 74, 75, 76, 77, 78, 79, 80, 81, 82, 83, 84, 85, 86, 87, 88, 89, 90, 91, 92, 93, 94, 95, 96, 97, 98, 99, 100, 101, 102, 103, 104, 105, 106, 107, 108, 109, 110, 111, 112, 113, 114, 115, 116, 117, 118, 119, 120, 121, 122, 123, 124, 125, 126, 127, 128, 129, 130, 131, 132, 133, 134, 135, 142, 143, 144, 145, 146, 147, 148, 149, 150, 151, 152, 153, 154, 155, 156, 157, 158, 159, 160, 161, 162, 163, 164, 165] (by decide +kernel) (by decide +kernel)
set_option maxRecDepth 20000 in
theorem gX5_setLines_X1_arrange : GoodIn wsX5_setLines (wsV RX5 146 RX1 yX1_arrange wsX1_arrange) := goodIn_app (goodIn_of _ (by decide +kernel)) ggX5_setLines_X1_arrange
theorem dX5_setLines_0 : decode cX5_setLines 0 = .ok (.aload_n 0, 1) := by decide +kernel
theorem dX5_setLines_1 : decode cX5_setLines 1 = .ok (.getfield 19, 3) := by decide +kernel
theorem dX5_setLines_4 : decode cX5_setLines 4 = .ok (.aload_n 0, 1) := by decide +kernel
theorem dX5_setLines_5 : decode cX5_setLines 5 = .ok (.getfield 10, 3) := by decide +kernel
theorem dX5_setLines_8 : decode cX5_setLines 8 = .ok (.aload_n 0, 1) := by decide +kernel
theorem dX5_setLines_9 : decode cX5_setLines 9 = .ok (.getfield 10, 3) := by decide +kernel
theorem dX5_setLines_12 : decode cX5_setLines 12 = .ok (.iconst 0, 1) := by decide +kernel
theorem dX5_setLines_13 : decode cX5_setLines 13 = .ok (.invokevirtual 105, 3) := by decide +kernel
theorem dX5_setLines_16 : decode cX5_setLines 16 = .ok (.aload_n 0, 1) := by decide +kernel
theorem dX5_setLines_17 : decode cX5_setLines 17 = .ok (.getfield 10, 3) := by decide +kernel
theorem dX5_setLines_20 : decode cX5_setLines 20 = .ok (.iconst 2, 1) := by decide +kernel
theorem dX5_setLines_21 : decode cX5_setLines 21 = .ok (.invokevirtual 105, 3) := by decide +kernel
theorem dX5_setLines_24 : decode cX5_setLines 24 = .ok (.aload_n 0, 1) := by decide +kernel
theorem dX5_setLines_25 : decode cX5_setLines 25 = .ok (.getfield 10, 3) := by decide +kernel
theorem dX5_setLines_28 : decode cX5_setLines 28 = .ok (.iconst 3, 1) := by decide +kernel
theorem dX5_setLines_29 : decode cX5_setLines 29 = .ok (.invokevirtual 105, 3) := by decide +kernel
theorem dX5_setLines_32 : decode cX5_setLines 32 = .ok (.invokevirtual 146, 3) := by decide +kernel
theorem dX5_setLines_35 : decode cX5_setLines 35 = .ok (.return_, 1) := by decide +kernel
set_option maxRecDepth 20000 in
theorem ggX5_tryMeasure_X3_setting : GoodIn wsX5_tryMeasure wsX3_setting := goodIn_r _ [7, 8, 142, 143, 144, 145, 146, 147, 148, 149, 150] (by decide +kernel) (by decide +kernel)
set_option maxRecDepth 20000 in
theorem gX5_tryMeasure_X3_setting : GoodIn wsX5_tryMeasure (wsV RX5 105 RX3 yX3_setting wsX3_setting) := goodIn_app (goodIn_of _ (by decide +kernel)) ggX5_tryMeasure_X3_setting
set_option maxRecDepth 20000 in
theorem ggX5_tryMeasure_X1_arrange : GoodIn wsX5_tryMeasure wsX1_arrange := goodIn_r _ [13, 14, 15, 16, 17, 18, 19, 20, 21, 22, 23, 24, 25, 12, 26, 27, 28, 29, 30, 31, 32, 33, 34, 35, 36, 37, 38, 39, 40, 41, 42, 43, 44, 45, 46, 47, 48, 6, 49, 50, 51, 52, 53, 54, 55, 56, 57, 58, 59, 60, 61, 62, 63, 64, 65, 66, 67, 68, 69, 70, 71, 72, 73, 74, 75, 76, 77, 78, 79, 80, 81, 82, 83, 84, 85, 86, 87, 88, 89, 90, 91, 92, 93, 94, 95, 96, 97, 98, 99, 100, 101, 102, 103, 104, 105, 106, 107, 108, 109, 110, 111, 112, 113, 114, 115, 116, 117, 118, 119, 120, 121, 122, 123, 124, 125, 126, 127, 128, 129, 130, 131, 132, 133, 134, 135, 142, 143, 144, 145, 146, 147, 148, 149, 150, 151, 152, 153, 154, 155, 156, 157, 158, 159, 160, 161, 162, 163, 164, 165] (by decide +kernel) (by decide +kernel)
set_option maxRecDepth 20000 in
theorem gX5_tryMeasure_X1_arrange : GoodIn wsX5_tryMeasure (wsV RX5 146 RX1 yX1_arrange wsX1_arrange) := goodIn_app (goodIn_of _ (by decide +kernel)) ggX5_tryMeasure_X1_arrange
theorem dX5_tryMeasure_0 : decode cX5_tryMeasure 0 = .ok (.aload_n 0, 1) := by decide +kernel
theorem dX5_tryMeasure_1 : decode cX5_tryMeasure 1 = .ok (.getfield 23, 3) := by decide +kernel
theorem dX5_tryMeasure_4 : decode cX5_tryMeasure 4 = .ok (.aload_n 0, 1) := by decide +kernel
theorem dX5_tryMeasure_5 : decode cX5_tryMeasure 5 = .ok (.getfield 10, 3) := by decide +kernel
theorem dX5_tryMeasure_8 : decode cX5_tryMeasure 8 = .ok (.iload_n 1, 1) := by decide +kernel
theorem dX5_tryMeasure_9 : decode cX5_tryMeasure 9 = .ok (.aload_n 0, 1) := by decide +kernel
theorem dX5_tryMeasure_10 : decode cX5_tryMeasure 10 = .ok (.getfield 10, 3) := by decide +kernel
theorem dX5_tryMeasure_13 : decode cX5_tryMeasure 13 = .ok (.iconst 2, 1) := by decide +kernel
theorem dX5_tryMeasure_14 : decode cX5_tryMeasure 14 = .ok (.invokevirtual 105, 3) := by decide +kernel
theorem dX5_tryMeasure_17 : decode cX5_tryMeasure 17 = .ok (.aload_n 0, 1) := by decide +kernel
theorem dX5_tryMeasure_18 : decode cX5_tryMeasure 18 = .ok (.getfield 10, 3) := by decide +kernel
theorem dX5_tryMeasure_21 : decode cX5_tryMeasure 21 = .ok (.iconst 3, 1) := by decide +kernel
theorem dX5_tryMeasure_22 : decode cX5_tryMeasure 22 = .ok (.invokevirtual 105, 3) := by decide +kernel
theorem dX5_tryMeasure_25 : decode cX5_tryMeasure 25 = .ok (.invokevirtual 146, 3) := by decide +kernel
theorem dX5_tryMeasure_28 : decode cX5_tryMeasure 28 = .ok (.return_, 1) := by decide +kernel
set_option maxRecDepth 20000 in
theorem ggX5_wordValue_X1_lineOfWord : GoodIn wsX5_wordValue wsX1_lineOfWord := goodIn_r _ [7, 8, 59, 60, 61, 62, 63, 64, 65] (by decide +kernel) (by decide +kernel)
set_option maxRecDepth 20000 in
theorem gX5_wordValue_X1_lineOfWord : GoodIn wsX5_wordValue (wsV RX5 224 RX1 yX1_lineOfWord wsX1_lineOfWord) := goodIn_app (goodIn_of _ (by decide +kernel)) ggX5_wordValue_X1_lineOfWord
set_option maxRecDepth 20000 in
theorem ggX5_wordValue_X3_lengthOf : GoodIn wsX5_wordValue wsX3_lengthOf := goodIn_r _ [13, 14, 15, 16, 17, 12, 18, 19, 66, 67, 68, 69, 70, 71, 72, 73, 74] (by decide +kernel) (by decide +kernel)
set_option maxRecDepth 20000 in
theorem gX5_wordValue_X3_lengthOf : GoodIn wsX5_wordValue (wsV RX5 227 RX3 yX3_lengthOf wsX3_lengthOf) := goodIn_app (goodIn_of _ (by decide +kernel)) ggX5_wordValue_X3_lengthOf
set_option maxRecDepth 20000 in
theorem ggX5_wordValue_X3_widthOf : GoodIn wsX5_wordValue wsX3_widthOf := goodIn_r _ [23, 24, 25, 26, 15, 16, 17, 12, 18, 19, 27, 28, 29, 30, 66, 67, 68, 69, 70, 71, 72, 73, 74] (by decide +kernel) (by decide +kernel)
set_option maxRecDepth 20000 in
theorem gX5_wordValue_X3_widthOf : GoodIn wsX5_wordValue (wsV RX5 94 RX3 yX3_widthOf wsX3_widthOf) := goodIn_app (goodIn_of _ (by decide +kernel)) ggX5_wordValue_X3_widthOf
set_option maxRecDepth 20000 in
theorem ggX5_wordValue_X3_aheadOf : GoodIn wsX5_wordValue wsX3_aheadOf := goodIn_r _ [34, 25, 15, 16, 17, 12, 18, 19, 66, 67, 68, 69, 70, 71, 72, 73, 74] (by decide +kernel) (by decide +kernel)
set_option maxRecDepth 20000 in
theorem gX5_wordValue_X3_aheadOf : GoodIn wsX5_wordValue (wsV RX5 230 RX3 yX3_aheadOf wsX3_aheadOf) := goodIn_app (goodIn_of _ (by decide +kernel)) ggX5_wordValue_X3_aheadOf
set_option maxRecDepth 20000 in
theorem ggX5_wordValue_X3_behindOf : GoodIn wsX5_wordValue wsX3_behindOf := goodIn_r _ [38, 26, 15, 16, 17, 12, 18, 19, 66, 67, 68, 69, 70, 71, 72, 73, 74] (by decide +kernel) (by decide +kernel)
set_option maxRecDepth 20000 in
theorem gX5_wordValue_X3_behindOf : GoodIn wsX5_wordValue (wsV RX5 233 RX3 yX3_behindOf wsX3_behindOf) := goodIn_app (goodIn_of _ (by decide +kernel)) ggX5_wordValue_X3_behindOf
set_option maxRecDepth 20000 in
theorem ggX5_wordValue_X3_wasSetToEnd : GoodIn wsX5_wordValue wsX3_wasSetToEnd := goodIn_r _ [42, 43, 15, 16, 17, 12, 18, 19, 66, 67, 68, 69, 70, 71, 72, 73, 74] (by decide +kernel) (by decide +kernel)
set_option maxRecDepth 20000 in
theorem gX5_wordValue_X3_wasSetToEnd : GoodIn wsX5_wordValue (wsV RX5 86 RX3 yX3_wasSetToEnd wsX3_wasSetToEnd) := goodIn_app (goodIn_of _ (by decide +kernel)) ggX5_wordValue_X3_wasSetToEnd
set_option maxRecDepth 20000 in
theorem ggX5_wordValue_X1_lineValue : GoodIn wsX5_wordValue wsX1_lineValue := goodIn_r _ [47, 48, 59, 60, 61, 62, 63, 64, 65] (by decide +kernel) (by decide +kernel)
set_option maxRecDepth 20000 in
theorem gX5_wordValue_X1_lineValue : GoodIn wsX5_wordValue (wsV RX5 124 RX1 yX1_lineValue wsX1_lineValue) := goodIn_app (goodIn_of _ (by decide +kernel)) ggX5_wordValue_X1_lineValue
set_option maxRecDepth 20000 in
theorem ggX5_wordValue_X5_leftEdge : GoodIn wsX5_wordValue wsX5_leftEdge := goodIn_r _ [52, 1, 2, 44, 45, 46, 6, 47, 48, 20, 21, 22, 12, 23, 24, 25, 26, 15, 16, 17, 18, 19, 27, 28, 29, 30, 53, 54, 55, 56, 57, 58, 59, 60, 61, 62, 63, 64, 65, 66, 67, 68, 69, 70, 71, 72, 73, 74] (by decide +kernel) (by decide +kernel)
set_option maxRecDepth 20000 in
theorem gX5_wordValue_X5_leftEdge : GoodIn wsX5_wordValue (wsV RX5 236 RX5 yX5_leftEdge wsX5_leftEdge) := goodIn_app (goodIn_of _ (by decide +kernel)) ggX5_wordValue_X5_leftEdge
theorem dX5_wordValue_0 : decode cX5_wordValue 0 = .ok (.aload_n 0, 1) := by decide +kernel
theorem dX5_wordValue_1 : decode cX5_wordValue 1 = .ok (.getfield 19, 3) := by decide +kernel
theorem dX5_wordValue_4 : decode cX5_wordValue 4 = .ok (.iload_n 1, 1) := by decide +kernel
theorem dX5_wordValue_5 : decode cX5_wordValue 5 = .ok (.invokevirtual 224, 3) := by decide +kernel
theorem dX5_wordValue_8 : decode cX5_wordValue 8 = .ok (.istore_n 3, 1) := by decide +kernel
theorem dX5_wordValue_9 : decode cX5_wordValue 9 = .ok (.iload_n 2, 1) := by decide +kernel
theorem dX5_wordValue_10 : decode cX5_wordValue 10 = .ok (.tableswitch 123 0 7 #[46, 55, 64, 73, 82, 99, 101, 113], 46) := by decide +kernel
theorem dX5_wordValue_56 : decode cX5_wordValue 56 = .ok (.aload_n 0, 1) := by decide +kernel
theorem dX5_wordValue_57 : decode cX5_wordValue 57 = .ok (.getfield 10, 3) := by decide +kernel
theorem dX5_wordValue_60 : decode cX5_wordValue 60 = .ok (.iload_n 1, 1) := by decide +kernel
theorem dX5_wordValue_61 : decode cX5_wordValue 61 = .ok (.invokevirtual 227, 3) := by decide +kernel
theorem dX5_wordValue_64 : decode cX5_wordValue 64 = .ok (.ireturn, 1) := by decide +kernel
theorem dX5_wordValue_65 : decode cX5_wordValue 65 = .ok (.aload_n 0, 1) := by decide +kernel
theorem dX5_wordValue_66 : decode cX5_wordValue 66 = .ok (.getfield 10, 3) := by decide +kernel
theorem dX5_wordValue_69 : decode cX5_wordValue 69 = .ok (.iload_n 1, 1) := by decide +kernel
theorem dX5_wordValue_70 : decode cX5_wordValue 70 = .ok (.invokevirtual 94, 3) := by decide +kernel
theorem dX5_wordValue_73 : decode cX5_wordValue 73 = .ok (.ireturn, 1) := by decide +kernel
theorem dX5_wordValue_74 : decode cX5_wordValue 74 = .ok (.aload_n 0, 1) := by decide +kernel
theorem dX5_wordValue_75 : decode cX5_wordValue 75 = .ok (.getfield 10, 3) := by decide +kernel
theorem dX5_wordValue_78 : decode cX5_wordValue 78 = .ok (.iload_n 1, 1) := by decide +kernel
theorem dX5_wordValue_79 : decode cX5_wordValue 79 = .ok (.invokevirtual 230, 3) := by decide +kernel
theorem dX5_wordValue_82 : decode cX5_wordValue 82 = .ok (.ireturn, 1) := by decide +kernel
theorem dX5_wordValue_83 : decode cX5_wordValue 83 = .ok (.aload_n 0, 1) := by decide +kernel
theorem dX5_wordValue_84 : decode cX5_wordValue 84 = .ok (.getfield 10, 3) := by decide +kernel
theorem dX5_wordValue_87 : decode cX5_wordValue 87 = .ok (.iload_n 1, 1) := by decide +kernel
theorem dX5_wordValue_88 : decode cX5_wordValue 88 = .ok (.invokevirtual 233, 3) := by decide +kernel
theorem dX5_wordValue_91 : decode cX5_wordValue 91 = .ok (.ireturn, 1) := by decide +kernel
theorem dX5_wordValue_92 : decode cX5_wordValue 92 = .ok (.aload_n 0, 1) := by decide +kernel
theorem dX5_wordValue_93 : decode cX5_wordValue 93 = .ok (.getfield 10, 3) := by decide +kernel
theorem dX5_wordValue_96 : decode cX5_wordValue 96 = .ok (.iload_n 1, 1) := by decide +kernel
theorem dX5_wordValue_97 : decode cX5_wordValue 97 = .ok (.invokevirtual 86, 3) := by decide +kernel
theorem dX5_wordValue_100 : decode cX5_wordValue 100 = .ok (.ifCond .eq 7, 3) := by decide +kernel
theorem dX5_wordValue_103 : decode cX5_wordValue 103 = .ok (.iconst 1, 1) := by decide +kernel
theorem dX5_wordValue_104 : decode cX5_wordValue 104 = .ok (.goto 4, 3) := by decide +kernel
theorem dX5_wordValue_107 : decode cX5_wordValue 107 = .ok (.iconst 0, 1) := by decide +kernel
theorem dX5_wordValue_108 : decode cX5_wordValue 108 = .ok (.ireturn, 1) := by decide +kernel
theorem dX5_wordValue_109 : decode cX5_wordValue 109 = .ok (.iload_n 3, 1) := by decide +kernel
theorem dX5_wordValue_110 : decode cX5_wordValue 110 = .ok (.ireturn, 1) := by decide +kernel
theorem dX5_wordValue_111 : decode cX5_wordValue 111 = .ok (.iload_n 1, 1) := by decide +kernel
theorem dX5_wordValue_112 : decode cX5_wordValue 112 = .ok (.aload_n 0, 1) := by decide +kernel
theorem dX5_wordValue_113 : decode cX5_wordValue 113 = .ok (.getfield 19, 3) := by decide +kernel
theorem dX5_wordValue_116 : decode cX5_wordValue 116 = .ok (.iload_n 3, 1) := by decide +kernel
theorem dX5_wordValue_117 : decode cX5_wordValue 117 = .ok (.iconst 1, 1) := by decide +kernel
theorem dX5_wordValue_118 : decode cX5_wordValue 118 = .ok (.invokevirtual 124, 3) := by decide +kernel
theorem dX5_wordValue_121 : decode cX5_wordValue 121 = .ok (.isub, 1) := by decide +kernel
theorem dX5_wordValue_122 : decode cX5_wordValue 122 = .ok (.ireturn, 1) := by decide +kernel
theorem dX5_wordValue_123 : decode cX5_wordValue 123 = .ok (.aload_n 0, 1) := by decide +kernel
theorem dX5_wordValue_124 : decode cX5_wordValue 124 = .ok (.getfield 19, 3) := by decide +kernel
theorem dX5_wordValue_127 : decode cX5_wordValue 127 = .ok (.iload_n 3, 1) := by decide +kernel
theorem dX5_wordValue_128 : decode cX5_wordValue 128 = .ok (.iconst 0, 1) := by decide +kernel
theorem dX5_wordValue_129 : decode cX5_wordValue 129 = .ok (.invokevirtual 124, 3) := by decide +kernel
theorem dX5_wordValue_132 : decode cX5_wordValue 132 = .ok (.ireturn, 1) := by decide +kernel
theorem dX5_wordValue_133 : decode cX5_wordValue 133 = .ok (.aload_n 0, 1) := by decide +kernel
theorem dX5_wordValue_134 : decode cX5_wordValue 134 = .ok (.iload_n 3, 1) := by decide +kernel
theorem dX5_wordValue_135 : decode cX5_wordValue 135 = .ok (.iload_n 1, 1) := by decide +kernel
theorem dX5_wordValue_136 : decode cX5_wordValue 136 = .ok (.invokevirtual 236, 3) := by decide +kernel
theorem dX5_wordValue_139 : decode cX5_wordValue 139 = .ok (.ireturn, 1) := by decide +kernel
set_option maxRecDepth 20000 in
theorem ggX5_leftEdge_X1_lineValue : GoodIn wsX5_leftEdge wsX1_lineValue := goodIn_r _ [7, 8, 32, 33, 34, 35, 36, 37, 38] (by decide +kernel) (by decide +kernel)
set_option maxRecDepth 20000 in
theorem gX5_leftEdge_X1_lineValue : GoodIn wsX5_leftEdge (wsV RX5 124 RX1 yX1_lineValue wsX1_lineValue) := goodIn_app (goodIn_of _ (by decide +kernel)) ggX5_leftEdge_X1_lineValue
set_option maxRecDepth 20000 in
theorem ggX5_leftEdge_X3_widthOf : GoodIn wsX5_leftEdge wsX3_widthOf := goodIn_r _ [13, 14, 15, 16, 17, 18, 19, 12, 20, 21, 22, 23, 24, 25, 39, 40, 41, 42, 43, 44, 45, 46, 47] (by decide +kernel) (by decide +kernel)
set_option maxRecDepth 20000 in
theorem gX5_leftEdge_X3_widthOf : GoodIn wsX5_leftEdge (wsV RX5 94 RX3 yX3_widthOf wsX3_widthOf) := goodIn_app (goodIn_of _ (by decide +kernel)) ggX5_leftEdge_X3_widthOf
theorem dX5_leftEdge_0 : decode cX5_leftEdge 0 = .ok (.aload_n 0, 1) := by decide +kernel
theorem dX5_leftEdge_1 : decode cX5_leftEdge 1 = .ok (.getfield 19, 3) := by decide +kernel
theorem dX5_leftEdge_4 : decode cX5_leftEdge 4 = .ok (.iload_n 1, 1) := by decide +kernel
theorem dX5_leftEdge_5 : decode cX5_leftEdge 5 = .ok (.iconst 5, 1) := by decide +kernel
theorem dX5_leftEdge_6 : decode cX5_leftEdge 6 = .ok (.invokevirtual 124, 3) := by decide +kernel
theorem dX5_leftEdge_9 : decode cX5_leftEdge 9 = .ok (.ineg, 1) := by decide +kernel
theorem dX5_leftEdge_10 : decode cX5_leftEdge 10 = .ok (.istore_n 3, 1) := by decide +kernel
theorem dX5_leftEdge_11 : decode cX5_leftEdge 11 = .ok (.aload_n 0, 1) := by decide +kernel
theorem dX5_leftEdge_12 : decode cX5_leftEdge 12 = .ok (.getfield 19, 3) := by decide +kernel
theorem dX5_leftEdge_15 : decode cX5_leftEdge 15 = .ok (.iload_n 1, 1) := by decide +kernel
theorem dX5_leftEdge_16 : decode cX5_leftEdge 16 = .ok (.iconst 1, 1) := by decide +kernel
theorem dX5_leftEdge_17 : decode cX5_leftEdge 17 = .ok (.invokevirtual 124, 3) := by decide +kernel
theorem dX5_leftEdge_20 : decode cX5_leftEdge 20 = .ok (.istore 4, 2) := by decide +kernel
theorem dX5_leftEdge_22 : decode cX5_leftEdge 22 = .ok (.iload 4, 2) := by decide +kernel
theorem dX5_leftEdge_24 : decode cX5_leftEdge 24 = .ok (.iload_n 2, 1) := by decide +kernel
theorem dX5_leftEdge_25 : decode cX5_leftEdge 25 = .ok (.if_icmp .ge 23, 3) := by decide +kernel
theorem dX5_leftEdge_28 : decode cX5_leftEdge 28 = .ok (.iload_n 3, 1) := by decide +kernel
theorem dX5_leftEdge_29 : decode cX5_leftEdge 29 = .ok (.aload_n 0, 1) := by decide +kernel
theorem dX5_leftEdge_30 : decode cX5_leftEdge 30 = .ok (.getfield 10, 3) := by decide +kernel
theorem dX5_leftEdge_33 : decode cX5_leftEdge 33 = .ok (.iload 4, 2) := by decide +kernel
theorem dX5_leftEdge_35 : decode cX5_leftEdge 35 = .ok (.invokevirtual 94, 3) := by decide +kernel
theorem dX5_leftEdge_38 : decode cX5_leftEdge 38 = .ok (.iconst 2, 1) := by decide +kernel
theorem dX5_leftEdge_39 : decode cX5_leftEdge 39 = .ok (.iadd, 1) := by decide +kernel
theorem dX5_leftEdge_40 : decode cX5_leftEdge 40 = .ok (.iadd, 1) := by decide +kernel
theorem dX5_leftEdge_41 : decode cX5_leftEdge 41 = .ok (.istore_n 3, 1) := by decide +kernel
theorem dX5_leftEdge_42 : decode cX5_leftEdge 42 = .ok (.iinc 4 1, 3) := by decide +kernel
theorem dX5_leftEdge_45 : decode cX5_leftEdge 45 = .ok (.goto (-23), 3) := by decide +kernel
theorem dX5_leftEdge_48 : decode cX5_leftEdge 48 = .ok (.iload_n 3, 1) := by decide +kernel
theorem dX5_leftEdge_49 : decode cX5_leftEdge 49 = .ok (.ireturn, 1) := by decide +kernel
set_option maxRecDepth 20000 in
theorem ggX5_wholeValue_X3_paragraphs : GoodIn wsX5_wholeValue wsX3_paragraphs := goodIn_r _ [12, 13, 14, 15, 16, 11, 17, 18, 19, 20, 21, 22, 53, 54, 55, 56, 57, 58, 59, 60, 61] (by decide +kernel) (by decide +kernel)
set_option maxRecDepth 20000 in
theorem gX5_wholeValue_X3_paragraphs : GoodIn wsX5_wholeValue (wsV RX5 239 RX3 yX3_paragraphs wsX3_paragraphs) := goodIn_app (goodIn_of _ (by decide +kernel)) ggX5_wholeValue_X3_paragraphs
set_option maxRecDepth 20000 in
theorem ggX5_wholeValue_X1_lendingLines : GoodIn wsX5_wholeValue wsX1_lendingLines := goodIn_r _ [27, 28, 29, 30, 31, 26, 32, 33, 34, 35, 36, 37, 62, 63, 64, 65, 66, 67, 68] (by decide +kernel) (by decide +kernel)
set_option maxRecDepth 20000 in
theorem gX5_wholeValue_X1_lendingLines : GoodIn wsX5_wholeValue (wsV RX5 242 RX1 yX1_lendingLines wsX1_lendingLines) := goodIn_app (goodIn_of _ (by decide +kernel)) ggX5_wholeValue_X1_lendingLines
set_option maxRecDepth 20000 in
theorem ggX5_wholeValue_X1_sumOf : GoodIn wsX5_wholeValue wsX1_sumOf := goodIn_r _ [41, 28, 33, 34, 35, 26, 36, 37, 62, 63, 64, 65, 66, 67, 68] (by decide +kernel) (by decide +kernel)
set_option maxRecDepth 20000 in
theorem gX5_wholeValue_X1_sumOf : GoodIn wsX5_wholeValue (wsV RX5 140 RX1 yX1_sumOf wsX1_sumOf) := goodIn_app (goodIn_of _ (by decide +kernel)) ggX5_wholeValue_X1_sumOf
set_option maxRecDepth 20000 in
theorem ggX5_wholeValue_X3_setting : GoodIn wsX5_wholeValue wsX3_setting := goodIn_r _ [45, 46, 53, 54, 55, 56, 57, 58, 59, 60, 61] (by decide +kernel) (by decide +kernel)
set_option maxRecDepth 20000 in
theorem gX5_wholeValue_X3_setting : GoodIn wsX5_wholeValue (wsV RX5 105 RX3 yX3_setting wsX3_setting) := goodIn_app (goodIn_of _ (by decide +kernel)) ggX5_wholeValue_X3_setting
theorem dX5_wholeValue_0 : decode cX5_wholeValue 0 = .ok (.iload_n 1, 1) := by decide +kernel
theorem dX5_wholeValue_1 : decode cX5_wholeValue 1 = .ok (.tableswitch 148 0 13 #[71, 79, 87, 95, 148, 148, 148, 148, 148, 148, 103, 111, 121, 140], 71) := by decide +kernel
theorem dX5_wholeValue_72 : decode cX5_wholeValue 72 = .ok (.aload_n 0, 1) := by decide +kernel
theorem dX5_wholeValue_73 : decode cX5_wholeValue 73 = .ok (.getfield 10, 3) := by decide +kernel
theorem dX5_wholeValue_76 : decode cX5_wholeValue 76 = .ok (.getfield 43, 3) := by decide +kernel
theorem dX5_wholeValue_79 : decode cX5_wholeValue 79 = .ok (.ireturn, 1) := by decide +kernel
theorem dX5_wholeValue_80 : decode cX5_wholeValue 80 = .ok (.aload_n 0, 1) := by decide +kernel
theorem dX5_wholeValue_81 : decode cX5_wholeValue 81 = .ok (.getfield 19, 3) := by decide +kernel
theorem dX5_wholeValue_84 : decode cX5_wholeValue 84 = .ok (.getfield 121, 3) := by decide +kernel
theorem dX5_wholeValue_87 : decode cX5_wholeValue 87 = .ok (.ireturn, 1) := by decide +kernel
theorem dX5_wholeValue_88 : decode cX5_wholeValue 88 = .ok (.aload_n 0, 1) := by decide +kernel
theorem dX5_wholeValue_89 : decode cX5_wholeValue 89 = .ok (.getfield 19, 3) := by decide +kernel
theorem dX5_wholeValue_92 : decode cX5_wholeValue 92 = .ok (.getfield 127, 3) := by decide +kernel
theorem dX5_wholeValue_95 : decode cX5_wholeValue 95 = .ok (.ireturn, 1) := by decide +kernel
theorem dX5_wholeValue_96 : decode cX5_wholeValue 96 = .ok (.aload_n 0, 1) := by decide +kernel
theorem dX5_wholeValue_97 : decode cX5_wholeValue 97 = .ok (.getfield 10, 3) := by decide +kernel
theorem dX5_wholeValue_100 : decode cX5_wholeValue 100 = .ok (.invokevirtual 239, 3) := by decide +kernel
theorem dX5_wholeValue_103 : decode cX5_wholeValue 103 = .ok (.ireturn, 1) := by decide +kernel
theorem dX5_wholeValue_104 : decode cX5_wholeValue 104 = .ok (.aload_n 0, 1) := by decide +kernel
theorem dX5_wholeValue_105 : decode cX5_wholeValue 105 = .ok (.getfield 19, 3) := by decide +kernel
theorem dX5_wholeValue_108 : decode cX5_wholeValue 108 = .ok (.invokevirtual 242, 3) := by decide +kernel
theorem dX5_wholeValue_111 : decode cX5_wholeValue 111 = .ok (.ireturn, 1) := by decide +kernel
theorem dX5_wholeValue_112 : decode cX5_wholeValue 112 = .ok (.aload_n 0, 1) := by decide +kernel
theorem dX5_wholeValue_113 : decode cX5_wholeValue 113 = .ok (.getfield 19, 3) := by decide +kernel
theorem dX5_wholeValue_116 : decode cX5_wholeValue 116 = .ok (.bipush 9, 2) := by decide +kernel
theorem dX5_wholeValue_118 : decode cX5_wholeValue 118 = .ok (.invokevirtual 140, 3) := by decide +kernel
theorem dX5_wholeValue_121 : decode cX5_wholeValue 121 = .ok (.ireturn, 1) := by decide +kernel
theorem dX5_wholeValue_122 : decode cX5_wholeValue 122 = .ok (.aload_n 0, 1) := by decide +kernel
theorem dX5_wholeValue_123 : decode cX5_wholeValue 123 = .ok (.getfield 19, 3) := by decide +kernel
theorem dX5_wholeValue_126 : decode cX5_wholeValue 126 = .ok (.iconst 5, 1) := by decide +kernel
theorem dX5_wholeValue_127 : decode cX5_wholeValue 127 = .ok (.invokevirtual 140, 3) := by decide +kernel
theorem dX5_wholeValue_130 : decode cX5_wholeValue 130 = .ok (.aload_n 0, 1) := by decide +kernel
theorem dX5_wholeValue_131 : decode cX5_wholeValue 131 = .ok (.getfield 19, 3) := by decide +kernel
theorem dX5_wholeValue_134 : decode cX5_wholeValue 134 = .ok (.bipush 6, 2) := by decide +kernel
theorem dX5_wholeValue_136 : decode cX5_wholeValue 136 = .ok (.invokevirtual 140, 3) := by decide +kernel
theorem dX5_wholeValue_139 : decode cX5_wholeValue 139 = .ok (.iadd, 1) := by decide +kernel
theorem dX5_wholeValue_140 : decode cX5_wholeValue 140 = .ok (.ireturn, 1) := by decide +kernel
theorem dX5_wholeValue_141 : decode cX5_wholeValue 141 = .ok (.aload_n 0, 1) := by decide +kernel
theorem dX5_wholeValue_142 : decode cX5_wholeValue 142 = .ok (.getfield 29, 3) := by decide +kernel
theorem dX5_wholeValue_145 : decode cX5_wholeValue 145 = .ok (.getfield 158, 3) := by decide +kernel
theorem dX5_wholeValue_148 : decode cX5_wholeValue 148 = .ok (.ireturn, 1) := by decide +kernel
theorem dX5_wholeValue_149 : decode cX5_wholeValue 149 = .ok (.aload_n 0, 1) := by decide +kernel
theorem dX5_wholeValue_150 : decode cX5_wholeValue 150 = .ok (.getfield 10, 3) := by decide +kernel
theorem dX5_wholeValue_153 : decode cX5_wholeValue 153 = .ok (.iload_n 1, 1) := by decide +kernel
theorem dX5_wholeValue_154 : decode cX5_wholeValue 154 = .ok (.iconst 4, 1) := by decide +kernel
theorem dX5_wholeValue_155 : decode cX5_wholeValue 155 = .ok (.isub, 1) := by decide +kernel
theorem dX5_wholeValue_156 : decode cX5_wholeValue 156 = .ok (.invokevirtual 105, 3) := by decide +kernel
theorem dX5_wholeValue_159 : decode cX5_wholeValue 159 = .ok (.ireturn, 1) := by decide +kernel
set_option maxRecDepth 20000 in
theorem ggX5_writtenByte_X1_lineValue : GoodIn wsX5_writtenByte wsX1_lineValue := goodIn_r _ [7, 8, 49, 50, 51, 52, 53, 54, 55] (by decide +kernel) (by decide +kernel)
set_option maxRecDepth 20000 in
theorem gX5_writtenByte_X1_lineValue : GoodIn wsX5_writtenByte (wsV RX5 124 RX1 yX1_lineValue wsX1_lineValue) := goodIn_app (goodIn_of _ (by decide +kernel)) ggX5_writtenByte_X1_lineValue
set_option maxRecDepth 20000 in
theorem ggX5_writtenByte_X3_writtenLength : GoodIn wsX5_writtenByte wsX3_writtenLength := goodIn_r _ [13, 14, 15, 16, 12, 17, 18, 19, 20, 21, 22, 23, 24, 25, 26, 27, 28, 29, 30, 31, 32, 33, 56, 57, 58, 59, 60, 61, 62, 63, 64] (by decide +kernel) (by decide +kernel)
set_option maxRecDepth 20000 in
theorem gX5_writtenByte_X3_writtenLength : GoodIn wsX5_writtenByte (wsV RX5 245 RX3 yX3_writtenLength wsX3_writtenLength) := goodIn_app (goodIn_of _ (by decide +kernel)) ggX5_writtenByte_X3_writtenLength
set_option maxRecDepth 20000 in
theorem ggX5_writtenByte_X3_writtenByteOf : GoodIn wsX5_writtenByte wsX3_writtenByteOf := goodIn_r _ [37, 33, 38, 28, 14, 15, 16, 12, 17, 18, 19, 20, 21, 22, 23, 39, 40, 41, 42, 56, 57, 58, 59, 60, 61, 62, 63, 64] (by decide +kernel) (by decide +kernel)
set_option maxRecDepth 20000 in
theorem gX5_writtenByte_X3_writtenByteOf : GoodIn wsX5_writtenByte (wsV RX5 248 RX3 yX3_writtenByteOf wsX3_writtenByteOf) := goodIn_app (goodIn_of _ (by decide +kernel)) ggX5_writtenByte_X3_writtenByteOf
theorem dX5_writtenByte_0 : decode cX5_writtenByte 0 = .ok (.aload_n 0, 1) := by decide +kernel
theorem dX5_writtenByte_1 : decode cX5_writtenByte 1 = .ok (.getfield 19, 3) := by decide +kernel
theorem dX5_writtenByte_4 : decode cX5_writtenByte 4 = .ok (.iload_n 1, 1) := by decide +kernel
theorem dX5_writtenByte_5 : decode cX5_writtenByte 5 = .ok (.iconst 1, 1) := by decide +kernel
theorem dX5_writtenByte_6 : decode cX5_writtenByte 6 = .ok (.invokevirtual 124, 3) := by decide +kernel
theorem dX5_writtenByte_9 : decode cX5_writtenByte 9 = .ok (.istore_n 3, 1) := by decide +kernel
theorem dX5_writtenByte_10 : decode cX5_writtenByte 10 = .ok (.aload_n 0, 1) := by decide +kernel
theorem dX5_writtenByte_11 : decode cX5_writtenByte 11 = .ok (.getfield 19, 3) := by decide +kernel
theorem dX5_writtenByte_14 : decode cX5_writtenByte 14 = .ok (.iload_n 1, 1) := by decide +kernel
theorem dX5_writtenByte_15 : decode cX5_writtenByte 15 = .ok (.iconst 2, 1) := by decide +kernel
theorem dX5_writtenByte_16 : decode cX5_writtenByte 16 = .ok (.invokevirtual 124, 3) := by decide +kernel
theorem dX5_writtenByte_19 : decode cX5_writtenByte 19 = .ok (.istore 4, 2) := by decide +kernel
theorem dX5_writtenByte_21 : decode cX5_writtenByte 21 = .ok (.iload_n 2, 1) := by decide +kernel
theorem dX5_writtenByte_22 : decode cX5_writtenByte 22 = .ok (.istore 5, 2) := by decide +kernel
theorem dX5_writtenByte_24 : decode cX5_writtenByte 24 = .ok (.iconst 0, 1) := by decide +kernel
theorem dX5_writtenByte_25 : decode cX5_writtenByte 25 = .ok (.istore 6, 2) := by decide +kernel
theorem dX5_writtenByte_27 : decode cX5_writtenByte 27 = .ok (.iload 6, 2) := by decide +kernel
theorem dX5_writtenByte_29 : decode cX5_writtenByte 29 = .ok (.iload 4, 2) := by decide +kernel
theorem dX5_writtenByte_31 : decode cX5_writtenByte 31 = .ok (.if_icmp .ge 75, 3) := by decide +kernel
theorem dX5_writtenByte_34 : decode cX5_writtenByte 34 = .ok (.aload_n 0, 1) := by decide +kernel
theorem dX5_writtenByte_35 : decode cX5_writtenByte 35 = .ok (.getfield 10, 3) := by decide +kernel
theorem dX5_writtenByte_38 : decode cX5_writtenByte 38 = .ok (.iload_n 3, 1) := by decide +kernel
theorem dX5_writtenByte_39 : decode cX5_writtenByte 39 = .ok (.iload 6, 2) := by decide +kernel
theorem dX5_writtenByte_41 : decode cX5_writtenByte 41 = .ok (.iadd, 1) := by decide +kernel
theorem dX5_writtenByte_42 : decode cX5_writtenByte 42 = .ok (.invokevirtual 245, 3) := by decide +kernel
theorem dX5_writtenByte_45 : decode cX5_writtenByte 45 = .ok (.istore 7, 2) := by decide +kernel
theorem dX5_writtenByte_47 : decode cX5_writtenByte 47 = .ok (.iload 5, 2) := by decide +kernel
theorem dX5_writtenByte_49 : decode cX5_writtenByte 49 = .ok (.iload 7, 2) := by decide +kernel
theorem dX5_writtenByte_51 : decode cX5_writtenByte 51 = .ok (.if_icmp .ge 17, 3) := by decide +kernel
theorem dX5_writtenByte_54 : decode cX5_writtenByte 54 = .ok (.aload_n 0, 1) := by decide +kernel
theorem dX5_writtenByte_55 : decode cX5_writtenByte 55 = .ok (.getfield 10, 3) := by decide +kernel
theorem dX5_writtenByte_58 : decode cX5_writtenByte 58 = .ok (.iload_n 3, 1) := by decide +kernel
theorem dX5_writtenByte_59 : decode cX5_writtenByte 59 = .ok (.iload 6, 2) := by decide +kernel
theorem dX5_writtenByte_61 : decode cX5_writtenByte 61 = .ok (.iadd, 1) := by decide +kernel
theorem dX5_writtenByte_62 : decode cX5_writtenByte 62 = .ok (.iload 5, 2) := by decide +kernel
theorem dX5_writtenByte_64 : decode cX5_writtenByte 64 = .ok (.invokevirtual 248, 3) := by decide +kernel
theorem dX5_writtenByte_67 : decode cX5_writtenByte 67 = .ok (.ireturn, 1) := by decide +kernel
theorem dX5_writtenByte_68 : decode cX5_writtenByte 68 = .ok (.iload 5, 2) := by decide +kernel
theorem dX5_writtenByte_70 : decode cX5_writtenByte 70 = .ok (.iload 7, 2) := by decide +kernel
theorem dX5_writtenByte_72 : decode cX5_writtenByte 72 = .ok (.if_icmp .ne 19, 3) := by decide +kernel
theorem dX5_writtenByte_75 : decode cX5_writtenByte 75 = .ok (.iload 6, 2) := by decide +kernel
theorem dX5_writtenByte_77 : decode cX5_writtenByte 77 = .ok (.iconst 1, 1) := by decide +kernel
theorem dX5_writtenByte_78 : decode cX5_writtenByte 78 = .ok (.iadd, 1) := by decide +kernel
theorem dX5_writtenByte_79 : decode cX5_writtenByte 79 = .ok (.iload 4, 2) := by decide +kernel
theorem dX5_writtenByte_81 : decode cX5_writtenByte 81 = .ok (.if_icmp .ge 8, 3) := by decide +kernel
theorem dX5_writtenByte_84 : decode cX5_writtenByte 84 = .ok (.bipush 32, 2) := by decide +kernel
theorem dX5_writtenByte_86 : decode cX5_writtenByte 86 = .ok (.goto 4, 3) := by decide +kernel
theorem dX5_writtenByte_89 : decode cX5_writtenByte 89 = .ok (.iconst (-1), 1) := by decide +kernel
theorem dX5_writtenByte_90 : decode cX5_writtenByte 90 = .ok (.ireturn, 1) := by decide +kernel
theorem dX5_writtenByte_91 : decode cX5_writtenByte 91 = .ok (.iload 5, 2) := by decide +kernel
theorem dX5_writtenByte_93 : decode cX5_writtenByte 93 = .ok (.iload 7, 2) := by decide +kernel
theorem dX5_writtenByte_95 : decode cX5_writtenByte 95 = .ok (.iconst 1, 1) := by decide +kernel
theorem dX5_writtenByte_96 : decode cX5_writtenByte 96 = .ok (.iadd, 1) := by decide +kernel
theorem dX5_writtenByte_97 : decode cX5_writtenByte 97 = .ok (.isub, 1) := by decide +kernel
theorem dX5_writtenByte_98 : decode cX5_writtenByte 98 = .ok (.istore 5, 2) := by decide +kernel
theorem dX5_writtenByte_100 : decode cX5_writtenByte 100 = .ok (.iinc 6 1, 3) := by decide +kernel
theorem dX5_writtenByte_103 : decode cX5_writtenByte 103 = .ok (.goto (-76), 3) := by decide +kernel
theorem dX5_writtenByte_106 : decode cX5_writtenByte 106 = .ok (.iconst (-1), 1) := by decide +kernel
theorem dX5_writtenByte_107 : decode cX5_writtenByte 107 = .ok (.ireturn, 1) := by decide +kernel
set_option maxRecDepth 20000 in
theorem ggX5_writtenLength_X1_lineValue : GoodIn wsX5_writtenLength wsX1_lineValue := goodIn_r _ [11, 12, 44, 45, 46, 47, 48, 49, 50] (by decide +kernel) (by decide +kernel)
set_option maxRecDepth 20000 in
theorem gX5_writtenLength_X1_lineValue : GoodIn wsX5_writtenLength (wsV RX5 124 RX1 yX1_lineValue wsX1_lineValue) := goodIn_app (goodIn_of _ (by decide +kernel)) ggX5_writtenLength_X1_lineValue
set_option maxRecDepth 20000 in
theorem ggX5_writtenLength_X3_writtenLength : GoodIn wsX5_writtenLength wsX3_writtenLength := goodIn_r _ [17, 18, 19, 20, 16, 21, 22, 23, 24, 25, 26, 27, 28, 29, 30, 31, 32, 33, 34, 35, 36, 37, 51, 52, 53, 54, 55, 56, 57, 58, 59] (by decide +kernel) (by decide +kernel)
set_option maxRecDepth 20000 in
theorem gX5_writtenLength_X3_writtenLength : GoodIn wsX5_writtenLength (wsV RX5 245 RX3 yX3_writtenLength wsX3_writtenLength) := goodIn_app (goodIn_of _ (by decide +kernel)) ggX5_writtenLength_X3_writtenLength
theorem dX5_writtenLength_0 : decode cX5_writtenLength 0 = .ok (.aload_n 0, 1) := by decide +kernel
theorem dX5_writtenLength_1 : decode cX5_writtenLength 1 = .ok (.getfield 19, 3) := by decide +kernel
theorem dX5_writtenLength_4 : decode cX5_writtenLength 4 = .ok (.iload_n 1, 1) := by decide +kernel
theorem dX5_writtenLength_5 : decode cX5_writtenLength 5 = .ok (.iconst 1, 1) := by decide +kernel
theorem dX5_writtenLength_6 : decode cX5_writtenLength 6 = .ok (.invokevirtual 124, 3) := by decide +kernel
theorem dX5_writtenLength_9 : decode cX5_writtenLength 9 = .ok (.istore_n 2, 1) := by decide +kernel
theorem dX5_writtenLength_10 : decode cX5_writtenLength 10 = .ok (.aload_n 0, 1) := by decide +kernel
theorem dX5_writtenLength_11 : decode cX5_writtenLength 11 = .ok (.getfield 19, 3) := by decide +kernel
theorem dX5_writtenLength_14 : decode cX5_writtenLength 14 = .ok (.iload_n 1, 1) := by decide +kernel
theorem dX5_writtenLength_15 : decode cX5_writtenLength 15 = .ok (.iconst 2, 1) := by decide +kernel
theorem dX5_writtenLength_16 : decode cX5_writtenLength 16 = .ok (.invokevirtual 124, 3) := by decide +kernel
theorem dX5_writtenLength_19 : decode cX5_writtenLength 19 = .ok (.istore_n 3, 1) := by decide +kernel
theorem dX5_writtenLength_20 : decode cX5_writtenLength 20 = .ok (.iconst 0, 1) := by decide +kernel
theorem dX5_writtenLength_21 : decode cX5_writtenLength 21 = .ok (.iload_n 3, 1) := by decide +kernel
theorem dX5_writtenLength_22 : decode cX5_writtenLength 22 = .ok (.iconst 1, 1) := by decide +kernel
theorem dX5_writtenLength_23 : decode cX5_writtenLength 23 = .ok (.isub, 1) := by decide +kernel
theorem dX5_writtenLength_24 : decode cX5_writtenLength 24 = .ok (.invokestatic 155, 3) := by decide +kernel
theorem dX5_writtenLength_27 : decode cX5_writtenLength 27 = .ok (.istore 4, 2) := by decide +kernel
theorem dX5_writtenLength_29 : decode cX5_writtenLength 29 = .ok (.iconst 0, 1) := by decide +kernel
theorem dX5_writtenLength_30 : decode cX5_writtenLength 30 = .ok (.istore 5, 2) := by decide +kernel
theorem dX5_writtenLength_32 : decode cX5_writtenLength 32 = .ok (.iload 5, 2) := by decide +kernel
theorem dX5_writtenLength_34 : decode cX5_writtenLength 34 = .ok (.iload_n 3, 1) := by decide +kernel
theorem dX5_writtenLength_35 : decode cX5_writtenLength 35 = .ok (.if_icmp .ge 25, 3) := by decide +kernel
theorem dX5_writtenLength_38 : decode cX5_writtenLength 38 = .ok (.iload 4, 2) := by decide +kernel
theorem dX5_writtenLength_40 : decode cX5_writtenLength 40 = .ok (.aload_n 0, 1) := by decide +kernel
theorem dX5_writtenLength_41 : decode cX5_writtenLength 41 = .ok (.getfield 10, 3) := by decide +kernel
theorem dX5_writtenLength_44 : decode cX5_writtenLength 44 = .ok (.iload_n 2, 1) := by decide +kernel
theorem dX5_writtenLength_45 : decode cX5_writtenLength 45 = .ok (.iload 5, 2) := by decide +kernel
theorem dX5_writtenLength_47 : decode cX5_writtenLength 47 = .ok (.iadd, 1) := by decide +kernel
theorem dX5_writtenLength_48 : decode cX5_writtenLength 48 = .ok (.invokevirtual 245, 3) := by decide +kernel
theorem dX5_writtenLength_51 : decode cX5_writtenLength 51 = .ok (.iadd, 1) := by decide +kernel
theorem dX5_writtenLength_52 : decode cX5_writtenLength 52 = .ok (.istore 4, 2) := by decide +kernel
theorem dX5_writtenLength_54 : decode cX5_writtenLength 54 = .ok (.iinc 5 1, 3) := by decide +kernel
theorem dX5_writtenLength_57 : decode cX5_writtenLength 57 = .ok (.goto (-25), 3) := by decide +kernel
theorem dX5_writtenLength_60 : decode cX5_writtenLength 60 = .ok (.iload 4, 2) := by decide +kernel
theorem dX5_writtenLength_62 : decode cX5_writtenLength 62 = .ok (.ireturn, 1) := by decide +kernel
theorem dX5_mix_0 : decode cX5_mix 0 = .ok (.ldc2_w 251, 3) := by decide +kernel
theorem dX5_mix_3 : decode cX5_mix 3 = .ok (.lload_n 0, 1) := by decide +kernel
theorem dX5_mix_4 : decode cX5_mix 4 = .ok (.lmul, 1) := by decide +kernel
theorem dX5_mix_5 : decode cX5_mix 5 = .ok (.iload_n 2, 1) := by decide +kernel
theorem dX5_mix_6 : decode cX5_mix 6 = .ok (.i2l, 1) := by decide +kernel
theorem dX5_mix_7 : decode cX5_mix 7 = .ok (.ladd, 1) := by decide +kernel
theorem dX5_mix_8 : decode cX5_mix 8 = .ok (.lreturn, 1) := by decide +kernel
set_option maxRecDepth 20000 in
theorem ggX5_mixWords_X5_wordValue : GoodIn wsX5_mixWords wsX5_wordValue := goodIn_r _ [7, 8, 1, 9, 10, 11, 12, 13, 14, 15, 16, 17, 18, 19, 20, 21, 22, 23, 24, 25, 26, 27, 28, 29, 30, 31, 32, 33, 6, 34, 35, 36, 37, 38, 39, 40, 41, 42, 43, 44, 45, 46, 47, 48, 49, 50, 51, 52, 53, 54, 55, 56, 57, 62, 63, 64, 65, 66, 67, 77, 78, 79, 80, 81, 82, 83, 68, 69, 70, 71, 72, 73, 74, 75, 76] (by decide +kernel) (by decide +kernel)
set_option maxRecDepth 20000 in
theorem gX5_mixWords_X5_wordValue : GoodIn wsX5_mixWords (wsV RX5 117 RX5 yX5_wordValue wsX5_wordValue) := goodIn_app (goodIn_of _ (by decide +kernel)) ggX5_mixWords_X5_wordValue
set_option maxRecDepth 20000 in
theorem ggX5_mixWords_X5_mix : GoodIn wsX5_mixWords wsX5_mix := goodIn_r _ [60, 61] (by decide +kernel) (by decide +kernel)
set_option maxRecDepth 20000 in
theorem gX5_mixWords_X5_mix : GoodIn wsX5_mixWords (va_wsS RX5 189 yX5_mix wsX5_mix) := goodIn_app (goodIn_of _ (by decide +kernel)) ggX5_mixWords_X5_mix
theorem dX5_mixWords_0 : decode cX5_mixWords 0 = .ok (.lload_n 1, 1) := by decide +kernel
theorem dX5_mixWords_1 : decode cX5_mixWords 1 = .ok (.lstore_n 3, 1) := by decide +kernel
theorem dX5_mixWords_2 : decode cX5_mixWords 2 = .ok (.iconst 0, 1) := by decide +kernel
theorem dX5_mixWords_3 : decode cX5_mixWords 3 = .ok (.istore 5, 2) := by decide +kernel
theorem dX5_mixWords_5 : decode cX5_mixWords 5 = .ok (.iload 5, 2) := by decide +kernel
theorem dX5_mixWords_7 : decode cX5_mixWords 7 = .ok (.aload_n 0, 1) := by decide +kernel
theorem dX5_mixWords_8 : decode cX5_mixWords 8 = .ok (.getfield 10, 3) := by decide +kernel
theorem dX5_mixWords_11 : decode cX5_mixWords 11 = .ok (.getfield 43, 3) := by decide +kernel
theorem dX5_mixWords_14 : decode cX5_mixWords 14 = .ok (.if_icmp .ge 38, 3) := by decide +kernel
theorem dX5_mixWords_17 : decode cX5_mixWords 17 = .ok (.iconst 0, 1) := by decide +kernel
theorem dX5_mixWords_18 : decode cX5_mixWords 18 = .ok (.istore 6, 2) := by decide +kernel
theorem dX5_mixWords_20 : decode cX5_mixWords 20 = .ok (.iload 6, 2) := by decide +kernel
theorem dX5_mixWords_22 : decode cX5_mixWords 22 = .ok (.bipush 9, 2) := by decide +kernel
theorem dX5_mixWords_24 : decode cX5_mixWords 24 = .ok (.if_icmp .ge 22, 3) := by decide +kernel
theorem dX5_mixWords_27 : decode cX5_mixWords 27 = .ok (.lload_n 3, 1) := by decide +kernel
theorem dX5_mixWords_28 : decode cX5_mixWords 28 = .ok (.aload_n 0, 1) := by decide +kernel
theorem dX5_mixWords_29 : decode cX5_mixWords 29 = .ok (.iload 5, 2) := by decide +kernel
theorem dX5_mixWords_31 : decode cX5_mixWords 31 = .ok (.iload 6, 2) := by decide +kernel
theorem dX5_mixWords_33 : decode cX5_mixWords 33 = .ok (.invokevirtual 117, 3) := by decide +kernel
theorem dX5_mixWords_36 : decode cX5_mixWords 36 = .ok (.invokestatic 189, 3) := by decide +kernel
theorem dX5_mixWords_39 : decode cX5_mixWords 39 = .ok (.lstore_n 3, 1) := by decide +kernel
theorem dX5_mixWords_40 : decode cX5_mixWords 40 = .ok (.iinc 6 1, 3) := by decide +kernel
theorem dX5_mixWords_43 : decode cX5_mixWords 43 = .ok (.goto (-23), 3) := by decide +kernel
theorem dX5_mixWords_46 : decode cX5_mixWords 46 = .ok (.iinc 5 1, 3) := by decide +kernel
theorem dX5_mixWords_49 : decode cX5_mixWords 49 = .ok (.goto (-44), 3) := by decide +kernel
theorem dX5_mixWords_52 : decode cX5_mixWords 52 = .ok (.lload_n 3, 1) := by decide +kernel
theorem dX5_mixWords_53 : decode cX5_mixWords 53 = .ok (.lreturn, 1) := by decide +kernel
set_option maxRecDepth 20000 in
theorem ggX5_mixLines_X1_lineValue : GoodIn wsX5_mixLines wsX1_lineValue := goodIn_r _ [7, 8, 66, 67, 68, 69, 70, 71, 72] (by decide +kernel) (by decide +kernel)
