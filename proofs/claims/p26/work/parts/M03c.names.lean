theorem dX2_choose_88 : decode cX2_choose 88 = .ok (.iconst 2, 1) := by decide +kernel
theorem dX2_choose_89 : decode cX2_choose 89 = .ok (.aload_n 1, 1) := by decide +kernel
theorem dX2_choose_90 : decode cX2_choose 90 = .ok (.iload 10, 2) := by decide +kernel
theorem dX2_choose_92 : decode cX2_choose 92 = .ok (.invokevirtual 41, 3) := by decide +kernel
theorem dX2_choose_95 : decode cX2_choose 95 = .ok (.iadd, 1) := by decide +kernel
theorem dX2_choose_96 : decode cX2_choose 96 = .ok (.iadd, 1) := by decide +kernel
theorem dX2_choose_97 : decode cX2_choose 97 = .ok (.istore 9, 2) := by decide +kernel
theorem dX2_choose_99 : decode cX2_choose 99 = .ok (.iconst 0, 1) := by decide +kernel
theorem dX2_choose_100 : decode cX2_choose 100 = .ok (.iload 9, 2) := by decide +kernel
theorem dX2_choose_102 : decode cX2_choose 102 = .ok (.aload_n 0, 1) := by decide +kernel
theorem dX2_choose_103 : decode cX2_choose 103 = .ok (.getfield 22, 3) := by decide +kernel
theorem dX2_choose_106 : decode cX2_choose 106 = .ok (.isub, 1) := by decide +kernel
theorem dX2_choose_107 : decode cX2_choose 107 = .ok (.invokestatic 60, 3) := by decide +kernel
theorem dX2_choose_110 : decode cX2_choose 110 = .ok (.istore 11, 2) := by decide +kernel
theorem dX2_choose_112 : decode cX2_choose 112 = .ok (.iload 11, 2) := by decide +kernel
theorem dX2_choose_114 : decode cX2_choose 114 = .ok (.aload_n 2, 1) := by decide +kernel
theorem dX2_choose_115 : decode cX2_choose 115 = .ok (.iconst 2, 1) := by decide +kernel
theorem dX2_choose_116 : decode cX2_choose 116 = .ok (.iaload, 1) := by decide +kernel
theorem dX2_choose_117 : decode cX2_choose 117 = .ok (.aload_n 2, 1) := by decide +kernel
theorem dX2_choose_118 : decode cX2_choose 118 = .ok (.iconst 3, 1) := by decide +kernel
theorem dX2_choose_119 : decode cX2_choose 119 = .ok (.iaload, 1) := by decide +kernel
theorem dX2_choose_120 : decode cX2_choose 120 = .ok (.iadd, 1) := by decide +kernel
theorem dX2_choose_121 : decode cX2_choose 121 = .ok (.if_icmp .le 6, 3) := by decide +kernel
theorem dX2_choose_124 : decode cX2_choose 124 = .ok (.goto 77, 3) := by decide +kernel
theorem dX2_choose_127 : decode cX2_choose 127 = .ok (.aload_n 1, 1) := by decide +kernel
theorem dX2_choose_128 : decode cX2_choose 128 = .ok (.aload_n 1, 1) := by decide +kernel
theorem dX2_choose_129 : decode cX2_choose 129 = .ok (.iload 10, 2) := by decide +kernel
theorem dX2_choose_131 : decode cX2_choose 131 = .ok (.invokevirtual 63, 3) := by decide +kernel
theorem dX2_choose_134 : decode cX2_choose 134 = .ok (.invokevirtual 54, 3) := by decide +kernel
theorem dX2_choose_137 : decode cX2_choose 137 = .ok (.aload_n 2, 1) := by decide +kernel
theorem dX2_choose_138 : decode cX2_choose 138 = .ok (.iconst 3, 1) := by decide +kernel
theorem dX2_choose_139 : decode cX2_choose 139 = .ok (.iaload, 1) := by decide +kernel
theorem dX2_choose_140 : decode cX2_choose 140 = .ok (.invokestatic 32, 3) := by decide +kernel
theorem dX2_choose_143 : decode cX2_choose 143 = .ok (.istore 12, 2) := by decide +kernel
theorem dX2_choose_145 : decode cX2_choose 145 = .ok (.iload 11, 2) := by decide +kernel
theorem dX2_choose_147 : decode cX2_choose 147 = .ok (.ifCond .eq 20, 3) := by decide +kernel
theorem dX2_choose_150 : decode cX2_choose 150 = .ok (.iload 11, 2) := by decide +kernel
theorem dX2_choose_152 : decode cX2_choose 152 = .ok (.iload 8, 2) := by decide +kernel
theorem dX2_choose_154 : decode cX2_choose 154 = .ok (.iload 12, 2) := by decide +kernel
theorem dX2_choose_156 : decode cX2_choose 156 = .ok (.iadd, 1) := by decide +kernel
theorem dX2_choose_157 : decode cX2_choose 157 = .ok (.if_icmp .gt 26, 3) := by decide +kernel
theorem dX2_choose_160 : decode cX2_choose 160 = .ok (.iload 11, 2) := by decide +kernel
theorem dX2_choose_162 : decode cX2_choose 162 = .ok (.iload 7, 2) := by decide +kernel
theorem dX2_choose_164 : decode cX2_choose 164 = .ok (.if_icmp .gt 19, 3) := by decide +kernel
theorem dX2_choose_167 : decode cX2_choose 167 = .ok (.aload_n 0, 1) := by decide +kernel
theorem dX2_choose_168 : decode cX2_choose 168 = .ok (.iload 10, 2) := by decide +kernel
theorem dX2_choose_170 : decode cX2_choose 170 = .ok (.iload_n 3, 1) := by decide +kernel
theorem dX2_choose_171 : decode cX2_choose 171 = .ok (.isub, 1) := by decide +kernel
theorem dX2_choose_172 : decode cX2_choose 172 = .ok (.iconst 1, 1) := by decide +kernel
theorem dX2_choose_173 : decode cX2_choose 173 = .ok (.iadd, 1) := by decide +kernel
theorem dX2_choose_174 : decode cX2_choose 174 = .ok (.iload 9, 2) := by decide +kernel
theorem dX2_choose_176 : decode cX2_choose 176 = .ok (.iload 11, 2) := by decide +kernel
theorem dX2_choose_178 : decode cX2_choose 178 = .ok (.iload 12, 2) := by decide +kernel
theorem dX2_choose_180 : decode cX2_choose 180 = .ok (.invokevirtual 66, 3) := by decide +kernel
theorem dX2_choose_183 : decode cX2_choose 183 = .ok (.aload_n 1, 1) := by decide +kernel
theorem dX2_choose_184 : decode cX2_choose 184 = .ok (.iload 10, 2) := by decide +kernel
theorem dX2_choose_186 : decode cX2_choose 186 = .ok (.invokevirtual 70, 3) := by decide +kernel
theorem dX2_choose_189 : decode cX2_choose 189 = .ok (.ifCond .eq 6, 3) := by decide +kernel
theorem dX2_choose_192 : decode cX2_choose 192 = .ok (.goto 9, 3) := by decide +kernel
theorem dX2_choose_195 : decode cX2_choose 195 = .ok (.iinc 10 1, 3) := by decide +kernel
theorem dX2_choose_198 : decode cX2_choose 198 = .ok (.goto (-121), 3) := by decide +kernel
theorem dX2_choose_201 : decode cX2_choose 201 = .ok (.aload_n 0, 1) := by decide +kernel
theorem dX2_choose_202 : decode cX2_choose 202 = .ok (.iload 6, 2) := by decide +kernel
theorem dX2_choose_204 : decode cX2_choose 204 = .ok (.aload_n 0, 1) := by decide +kernel
theorem dX2_choose_205 : decode cX2_choose 205 = .ok (.invokevirtual 25, 3) := by decide +kernel
theorem dX2_choose_208 : decode cX2_choose 208 = .ok (.iadd, 1) := by decide +kernel
theorem dX2_choose_209 : decode cX2_choose 209 = .ok (.putfield 74, 3) := by decide +kernel
theorem dX2_choose_212 : decode cX2_choose 212 = .ok (.return_, 1) := by decide +kernel
theorem dX2_takeFirstAlone_0 : decode cX2_takeFirstAlone 0 = .ok (.aload_n 0, 1) := by decide +kernel
theorem dX2_takeFirstAlone_1 : decode cX2_takeFirstAlone 1 = .ok (.iconst 1, 1) := by decide +kernel
theorem dX2_takeFirstAlone_2 : decode cX2_takeFirstAlone 2 = .ok (.putfield 77, 3) := by decide +kernel
theorem dX2_takeFirstAlone_5 : decode cX2_takeFirstAlone 5 = .ok (.aload_n 0, 1) := by decide +kernel
theorem dX2_takeFirstAlone_6 : decode cX2_takeFirstAlone 6 = .ok (.iload_n 1, 1) := by decide +kernel
theorem dX2_takeFirstAlone_7 : decode cX2_takeFirstAlone 7 = .ok (.putfield 29, 3) := by decide +kernel
theorem dX2_takeFirstAlone_10 : decode cX2_takeFirstAlone 10 = .ok (.aload_n 0, 1) := by decide +kernel
theorem dX2_takeFirstAlone_11 : decode cX2_takeFirstAlone 11 = .ok (.iconst 0, 1) := by decide +kernel
theorem dX2_takeFirstAlone_12 : decode cX2_takeFirstAlone 12 = .ok (.putfield 9, 3) := by decide +kernel
theorem dX2_takeFirstAlone_15 : decode cX2_takeFirstAlone 15 = .ok (.aload_n 0, 1) := by decide +kernel
theorem dX2_takeFirstAlone_16 : decode cX2_takeFirstAlone 16 = .ok (.iconst 0, 1) := by decide +kernel
theorem dX2_takeFirstAlone_17 : decode cX2_takeFirstAlone 17 = .ok (.putfield 15, 3) := by decide +kernel
theorem dX2_takeFirstAlone_20 : decode cX2_takeFirstAlone 20 = .ok (.aload_n 0, 1) := by decide +kernel
theorem dX2_takeFirstAlone_21 : decode cX2_takeFirstAlone 21 = .ok (.iconst 1, 1) := by decide +kernel
theorem dX2_takeFirstAlone_22 : decode cX2_takeFirstAlone 22 = .ok (.putfield 18, 3) := by decide +kernel
theorem dX2_takeFirstAlone_25 : decode cX2_takeFirstAlone 25 = .ok (.return_, 1) := by decide +kernel
theorem dX2_take_0 : decode cX2_take 0 = .ok (.aload_n 0, 1) := by decide +kernel
theorem dX2_take_1 : decode cX2_take 1 = .ok (.iload_n 1, 1) := by decide +kernel
theorem dX2_take_2 : decode cX2_take 2 = .ok (.putfield 77, 3) := by decide +kernel
theorem dX2_take_5 : decode cX2_take 5 = .ok (.aload_n 0, 1) := by decide +kernel
theorem dX2_take_6 : decode cX2_take 6 = .ok (.iload_n 2, 1) := by decide +kernel
theorem dX2_take_7 : decode cX2_take 7 = .ok (.putfield 29, 3) := by decide +kernel
theorem dX2_take_10 : decode cX2_take 10 = .ok (.aload_n 0, 1) := by decide +kernel
theorem dX2_take_11 : decode cX2_take 11 = .ok (.iload_n 3, 1) := by decide +kernel
theorem dX2_take_12 : decode cX2_take 12 = .ok (.iload 4, 2) := by decide +kernel
theorem dX2_take_14 : decode cX2_take 14 = .ok (.invokestatic 32, 3) := by decide +kernel
theorem dX2_take_17 : decode cX2_take 17 = .ok (.putfield 15, 3) := by decide +kernel
theorem dX2_take_20 : decode cX2_take 20 = .ok (.aload_n 0, 1) := by decide +kernel
theorem dX2_take_21 : decode cX2_take 21 = .ok (.iload_n 3, 1) := by decide +kernel
theorem dX2_take_22 : decode cX2_take 22 = .ok (.aload_n 0, 1) := by decide +kernel
theorem dX2_take_23 : decode cX2_take 23 = .ok (.getfield 15, 3) := by decide +kernel
theorem dX2_take_26 : decode cX2_take 26 = .ok (.isub, 1) := by decide +kernel
theorem dX2_take_27 : decode cX2_take 27 = .ok (.putfield 9, 3) := by decide +kernel
theorem dX2_take_30 : decode cX2_take 30 = .ok (.aload_n 0, 1) := by decide +kernel
theorem dX2_take_31 : decode cX2_take 31 = .ok (.iconst 0, 1) := by decide +kernel
theorem dX2_take_32 : decode cX2_take 32 = .ok (.putfield 18, 3) := by decide +kernel
theorem dX2_take_35 : decode cX2_take 35 = .ok (.return_, 1) := by decide +kernel
theorem dX3_init_0 : decode cX3_init 0 = .ok (.aload_n 0, 1) := by decide +kernel
theorem dX3_init_1 : decode cX3_init 1 = .ok (.invokespecial 3, 3) := by decide +kernel
theorem dX3_init_4 : decode cX3_init 4 = .ok (.aload_n 0, 1) := by decide +kernel
theorem dX3_init_5 : decode cX3_init 5 = .ok (.sipush 720, 3) := by decide +kernel
theorem dX3_init_8 : decode cX3_init 8 = .ok (.newarray .int, 2) := by decide +kernel
theorem dX3_init_10 : decode cX3_init 10 = .ok (.putfield 9, 3) := by decide +kernel
theorem dX3_init_13 : decode cX3_init 13 = .ok (.aload_n 0, 1) := by decide +kernel
theorem dX3_init_14 : decode cX3_init 14 = .ok (.bipush 60, 2) := by decide +kernel
theorem dX3_init_16 : decode cX3_init 16 = .ok (.newarray .int, 2) := by decide +kernel
theorem dX3_init_18 : decode cX3_init 18 = .ok (.putfield 15, 3) := by decide +kernel
theorem dX3_init_21 : decode cX3_init 21 = .ok (.aload_n 0, 1) := by decide +kernel
theorem dX3_init_22 : decode cX3_init 22 = .ok (.bipush 60, 2) := by decide +kernel
theorem dX3_init_24 : decode cX3_init 24 = .ok (.newarray .int, 2) := by decide +kernel
theorem dX3_init_26 : decode cX3_init 26 = .ok (.putfield 18, 3) := by decide +kernel
theorem dX3_init_29 : decode cX3_init 29 = .ok (.aload_n 0, 1) := by decide +kernel
theorem dX3_init_30 : decode cX3_init 30 = .ok (.bipush 60, 2) := by decide +kernel
theorem dX3_init_32 : decode cX3_init 32 = .ok (.newarray .int, 2) := by decide +kernel
theorem dX3_init_34 : decode cX3_init 34 = .ok (.putfield 21, 3) := by decide +kernel
theorem dX3_init_37 : decode cX3_init 37 = .ok (.aload_n 0, 1) := by decide +kernel
theorem dX3_init_38 : decode cX3_init 38 = .ok (.bipush 60, 2) := by decide +kernel
theorem dX3_init_40 : decode cX3_init 40 = .ok (.newarray .int, 2) := by decide +kernel
theorem dX3_init_42 : decode cX3_init 42 = .ok (.putfield 24, 3) := by decide +kernel
theorem dX3_init_45 : decode cX3_init 45 = .ok (.aload_n 0, 1) := by decide +kernel
theorem dX3_init_46 : decode cX3_init 46 = .ok (.bipush 60, 2) := by decide +kernel
theorem dX3_init_48 : decode cX3_init 48 = .ok (.newarray .boolean, 2) := by decide +kernel
theorem dX3_init_50 : decode cX3_init 50 = .ok (.putfield 27, 3) := by decide +kernel
theorem dX3_init_53 : decode cX3_init 53 = .ok (.aload_n 0, 1) := by decide +kernel
theorem dX3_init_54 : decode cX3_init 54 = .ok (.getstatic 31, 3) := by decide +kernel
theorem dX3_init_57 : decode cX3_init 57 = .ok (.invokevirtual 34, 3) := by decide +kernel
theorem dX3_init_60 : decode cX3_init 60 = .ok (.checkcast 35, 3) := by decide +kernel
theorem dX3_init_63 : decode cX3_init 63 = .ok (.putfield 39, 3) := by decide +kernel
theorem dX3_init_66 : decode cX3_init 66 = .ok (.aload_n 0, 1) := by decide +kernel
theorem dX3_init_67 : decode cX3_init 67 = .ok (.getstatic 42, 3) := by decide +kernel
theorem dX3_init_70 : decode cX3_init 70 = .ok (.invokevirtual 34, 3) := by decide +kernel
theorem dX3_init_73 : decode cX3_init 73 = .ok (.checkcast 35, 3) := by decide +kernel
theorem dX3_init_76 : decode cX3_init 76 = .ok (.putfield 45, 3) := by decide +kernel
theorem dX3_init_79 : decode cX3_init 79 = .ok (.return_, 1) := by decide +kernel
theorem dX3_has_0 : decode cX3_has 0 = .ok (.iload_n 1, 1) := by decide +kernel
theorem dX3_has_1 : decode cX3_has 1 = .ok (.ifCond .lt 21, 3) := by decide +kernel
theorem dX3_has_4 : decode cX3_has 4 = .ok (.iload_n 1, 1) := by decide +kernel
theorem dX3_has_5 : decode cX3_has 5 = .ok (.aload_n 0, 1) := by decide +kernel
theorem dX3_has_6 : decode cX3_has 6 = .ok (.getfield 48, 3) := by decide +kernel
theorem dX3_has_9 : decode cX3_has 9 = .ok (.if_icmp .ge 13, 3) := by decide +kernel
theorem dX3_has_12 : decode cX3_has 12 = .ok (.iload_n 1, 1) := by decide +kernel
theorem dX3_has_13 : decode cX3_has 13 = .ok (.bipush 60, 2) := by decide +kernel
theorem dX3_has_15 : decode cX3_has 15 = .ok (.if_icmp .ge 7, 3) := by decide +kernel
theorem dX3_has_18 : decode cX3_has 18 = .ok (.iconst 1, 1) := by decide +kernel
theorem dX3_has_19 : decode cX3_has 19 = .ok (.goto 4, 3) := by decide +kernel
theorem dX3_has_22 : decode cX3_has 22 = .ok (.iconst 0, 1) := by decide +kernel
theorem dX3_has_23 : decode cX3_has 23 = .ok (.ireturn, 1) := by decide +kernel
set_option maxRecDepth 20000 in
theorem ggX3_takeAll_X3_takeWords : GoodIn wsX3_takeAll wsX3_takeWords := goodIn_r _ [11, 12, 13, 2, 3, 4, 5, 14, 15, 16, 17, 18, 19, 20, 21, 22, 23, 24, 25, 26, 27] (by decide +kernel) (by decide +kernel)
set_option maxRecDepth 20000 in
theorem gX3_takeAll_X3_takeWords : GoodIn wsX3_takeAll (wsV RX3 52 RX3 yX3_takeWords wsX3_takeWords) := goodIn_app (goodIn_of _ (by decide +kernel)) ggX3_takeAll_X3_takeWords
theorem dX3_takeAll_0 : decode cX3_takeAll 0 = .ok (.aload_n 0, 1) := by decide +kernel
theorem dX3_takeAll_1 : decode cX3_takeAll 1 = .ok (.aload_n 1, 1) := by decide +kernel
theorem dX3_takeAll_2 : decode cX3_takeAll 2 = .ok (.invokevirtual 52, 3) := by decide +kernel
theorem dX3_takeAll_5 : decode cX3_takeAll 5 = .ok (.aload_n 1, 1) := by decide +kernel
theorem dX3_takeAll_6 : decode cX3_takeAll 6 = .ok (.getfield 39, 3) := by decide +kernel
theorem dX3_takeAll_9 : decode cX3_takeAll 9 = .ok (.iconst 0, 1) := by decide +kernel
theorem dX3_takeAll_10 : decode cX3_takeAll 10 = .ok (.aload_n 0, 1) := by decide +kernel
theorem dX3_takeAll_11 : decode cX3_takeAll 11 = .ok (.getfield 39, 3) := by decide +kernel
theorem dX3_takeAll_14 : decode cX3_takeAll 14 = .ok (.iconst 0, 1) := by decide +kernel
theorem dX3_takeAll_15 : decode cX3_takeAll 15 = .ok (.bipush 6, 2) := by decide +kernel
theorem dX3_takeAll_17 : decode cX3_takeAll 17 = .ok (.invokestatic 56, 3) := by decide +kernel
theorem dX3_takeAll_20 : decode cX3_takeAll 20 = .ok (.aload_n 1, 1) := by decide +kernel
theorem dX3_takeAll_21 : decode cX3_takeAll 21 = .ok (.getfield 45, 3) := by decide +kernel
theorem dX3_takeAll_24 : decode cX3_takeAll 24 = .ok (.iconst 0, 1) := by decide +kernel
theorem dX3_takeAll_25 : decode cX3_takeAll 25 = .ok (.aload_n 0, 1) := by decide +kernel
theorem dX3_takeAll_26 : decode cX3_takeAll 26 = .ok (.getfield 45, 3) := by decide +kernel
theorem dX3_takeAll_29 : decode cX3_takeAll 29 = .ok (.iconst 0, 1) := by decide +kernel
theorem dX3_takeAll_30 : decode cX3_takeAll 30 = .ok (.bipush 8, 2) := by decide +kernel
theorem dX3_takeAll_32 : decode cX3_takeAll 32 = .ok (.invokestatic 56, 3) := by decide +kernel
theorem dX3_takeAll_35 : decode cX3_takeAll 35 = .ok (.return_, 1) := by decide +kernel
theorem dX3_takeWords_0 : decode cX3_takeWords 0 = .ok (.aload_n 0, 1) := by decide +kernel
theorem dX3_takeWords_1 : decode cX3_takeWords 1 = .ok (.aload_n 1, 1) := by decide +kernel
theorem dX3_takeWords_2 : decode cX3_takeWords 2 = .ok (.getfield 48, 3) := by decide +kernel
theorem dX3_takeWords_5 : decode cX3_takeWords 5 = .ok (.putfield 48, 3) := by decide +kernel
theorem dX3_takeWords_8 : decode cX3_takeWords 8 = .ok (.aload_n 1, 1) := by decide +kernel
theorem dX3_takeWords_9 : decode cX3_takeWords 9 = .ok (.getfield 9, 3) := by decide +kernel
theorem dX3_takeWords_12 : decode cX3_takeWords 12 = .ok (.iconst 0, 1) := by decide +kernel
theorem dX3_takeWords_13 : decode cX3_takeWords 13 = .ok (.aload_n 0, 1) := by decide +kernel
theorem dX3_takeWords_14 : decode cX3_takeWords 14 = .ok (.getfield 9, 3) := by decide +kernel
theorem dX3_takeWords_17 : decode cX3_takeWords 17 = .ok (.iconst 0, 1) := by decide +kernel
theorem dX3_takeWords_18 : decode cX3_takeWords 18 = .ok (.sipush 720, 3) := by decide +kernel
theorem dX3_takeWords_21 : decode cX3_takeWords 21 = .ok (.invokestatic 56, 3) := by decide +kernel
theorem dX3_takeWords_24 : decode cX3_takeWords 24 = .ok (.aload_n 1, 1) := by decide +kernel
theorem dX3_takeWords_25 : decode cX3_takeWords 25 = .ok (.getfield 15, 3) := by decide +kernel
theorem dX3_takeWords_28 : decode cX3_takeWords 28 = .ok (.iconst 0, 1) := by decide +kernel
theorem dX3_takeWords_29 : decode cX3_takeWords 29 = .ok (.aload_n 0, 1) := by decide +kernel
theorem dX3_takeWords_30 : decode cX3_takeWords 30 = .ok (.getfield 15, 3) := by decide +kernel
theorem dX3_takeWords_33 : decode cX3_takeWords 33 = .ok (.iconst 0, 1) := by decide +kernel
theorem dX3_takeWords_34 : decode cX3_takeWords 34 = .ok (.bipush 60, 2) := by decide +kernel
theorem dX3_takeWords_36 : decode cX3_takeWords 36 = .ok (.invokestatic 56, 3) := by decide +kernel
theorem dX3_takeWords_39 : decode cX3_takeWords 39 = .ok (.aload_n 1, 1) := by decide +kernel
theorem dX3_takeWords_40 : decode cX3_takeWords 40 = .ok (.getfield 18, 3) := by decide +kernel
theorem dX3_takeWords_43 : decode cX3_takeWords 43 = .ok (.iconst 0, 1) := by decide +kernel
theorem dX3_takeWords_44 : decode cX3_takeWords 44 = .ok (.aload_n 0, 1) := by decide +kernel
theorem dX3_takeWords_45 : decode cX3_takeWords 45 = .ok (.getfield 18, 3) := by decide +kernel
theorem dX3_takeWords_48 : decode cX3_takeWords 48 = .ok (.iconst 0, 1) := by decide +kernel
theorem dX3_takeWords_49 : decode cX3_takeWords 49 = .ok (.bipush 60, 2) := by decide +kernel
theorem dX3_takeWords_51 : decode cX3_takeWords 51 = .ok (.invokestatic 56, 3) := by decide +kernel
theorem dX3_takeWords_54 : decode cX3_takeWords 54 = .ok (.aload_n 1, 1) := by decide +kernel
theorem dX3_takeWords_55 : decode cX3_takeWords 55 = .ok (.getfield 21, 3) := by decide +kernel
theorem dX3_takeWords_58 : decode cX3_takeWords 58 = .ok (.iconst 0, 1) := by decide +kernel
theorem dX3_takeWords_59 : decode cX3_takeWords 59 = .ok (.aload_n 0, 1) := by decide +kernel
theorem dX3_takeWords_60 : decode cX3_takeWords 60 = .ok (.getfield 21, 3) := by decide +kernel
theorem dX3_takeWords_63 : decode cX3_takeWords 63 = .ok (.iconst 0, 1) := by decide +kernel
theorem dX3_takeWords_64 : decode cX3_takeWords 64 = .ok (.bipush 60, 2) := by decide +kernel
theorem dX3_takeWords_66 : decode cX3_takeWords 66 = .ok (.invokestatic 56, 3) := by decide +kernel
theorem dX3_takeWords_69 : decode cX3_takeWords 69 = .ok (.aload_n 1, 1) := by decide +kernel
theorem dX3_takeWords_70 : decode cX3_takeWords 70 = .ok (.getfield 24, 3) := by decide +kernel
theorem dX3_takeWords_73 : decode cX3_takeWords 73 = .ok (.iconst 0, 1) := by decide +kernel
theorem dX3_takeWords_74 : decode cX3_takeWords 74 = .ok (.aload_n 0, 1) := by decide +kernel
theorem dX3_takeWords_75 : decode cX3_takeWords 75 = .ok (.getfield 24, 3) := by decide +kernel
theorem dX3_takeWords_78 : decode cX3_takeWords 78 = .ok (.iconst 0, 1) := by decide +kernel
theorem dX3_takeWords_79 : decode cX3_takeWords 79 = .ok (.bipush 60, 2) := by decide +kernel
theorem dX3_takeWords_81 : decode cX3_takeWords 81 = .ok (.invokestatic 56, 3) := by decide +kernel
theorem dX3_takeWords_84 : decode cX3_takeWords 84 = .ok (.aload_n 1, 1) := by decide +kernel
theorem dX3_takeWords_85 : decode cX3_takeWords 85 = .ok (.getfield 27, 3) := by decide +kernel
theorem dX3_takeWords_88 : decode cX3_takeWords 88 = .ok (.iconst 0, 1) := by decide +kernel
theorem dX3_takeWords_89 : decode cX3_takeWords 89 = .ok (.aload_n 0, 1) := by decide +kernel
theorem dX3_takeWords_90 : decode cX3_takeWords 90 = .ok (.getfield 27, 3) := by decide +kernel
theorem dX3_takeWords_93 : decode cX3_takeWords 93 = .ok (.iconst 0, 1) := by decide +kernel
theorem dX3_takeWords_94 : decode cX3_takeWords 94 = .ok (.bipush 60, 2) := by decide +kernel
theorem dX3_takeWords_96 : decode cX3_takeWords 96 = .ok (.invokestatic 56, 3) := by decide +kernel
theorem dX3_takeWords_99 : decode cX3_takeWords 99 = .ok (.return_, 1) := by decide +kernel
set_option maxRecDepth 20000 in
theorem ggX3_open_X3_move : GoodIn wsX3_open wsX3_move := goodIn_r _ [11, 12, 13, 14, 15, 16, 17, 18, 19, 20, 2, 3, 4, 5, 6, 21, 22, 23, 24, 25, 26, 27, 28, 29] (by decide +kernel) (by decide +kernel)
set_option maxRecDepth 20000 in
theorem gX3_open_X3_move : GoodIn wsX3_open (wsV RX3 62 RX3 yX3_move wsX3_move) := goodIn_app (goodIn_of _ (by decide +kernel)) ggX3_open_X3_move
theorem dX3_open_0 : decode cX3_open 0 = .ok (.iload_n 1, 1) := by decide +kernel
theorem dX3_open_1 : decode cX3_open 1 = .ok (.ifCond .lt 20, 3) := by decide +kernel
theorem dX3_open_4 : decode cX3_open 4 = .ok (.iload_n 1, 1) := by decide +kernel
theorem dX3_open_5 : decode cX3_open 5 = .ok (.aload_n 0, 1) := by decide +kernel
theorem dX3_open_6 : decode cX3_open 6 = .ok (.getfield 48, 3) := by decide +kernel
theorem dX3_open_9 : decode cX3_open 9 = .ok (.if_icmp .gt 12, 3) := by decide +kernel
theorem dX3_open_12 : decode cX3_open 12 = .ok (.aload_n 0, 1) := by decide +kernel
theorem dX3_open_13 : decode cX3_open 13 = .ok (.getfield 48, 3) := by decide +kernel
theorem dX3_open_16 : decode cX3_open 16 = .ok (.bipush 60, 2) := by decide +kernel
theorem dX3_open_18 : decode cX3_open 18 = .ok (.if_icmp .lt 4, 3) := by decide +kernel
theorem dX3_open_21 : decode cX3_open 21 = .ok (.return_, 1) := by decide +kernel
theorem dX3_open_22 : decode cX3_open 22 = .ok (.aload_n 0, 1) := by decide +kernel
theorem dX3_open_23 : decode cX3_open 23 = .ok (.iload_n 1, 1) := by decide +kernel
theorem dX3_open_24 : decode cX3_open 24 = .ok (.iload_n 1, 1) := by decide +kernel
theorem dX3_open_25 : decode cX3_open 25 = .ok (.iconst 1, 1) := by decide +kernel
theorem dX3_open_26 : decode cX3_open 26 = .ok (.iadd, 1) := by decide +kernel
theorem dX3_open_27 : decode cX3_open 27 = .ok (.aload_n 0, 1) := by decide +kernel
theorem dX3_open_28 : decode cX3_open 28 = .ok (.getfield 48, 3) := by decide +kernel
theorem dX3_open_31 : decode cX3_open 31 = .ok (.iload_n 1, 1) := by decide +kernel
theorem dX3_open_32 : decode cX3_open 32 = .ok (.isub, 1) := by decide +kernel
theorem dX3_open_33 : decode cX3_open 33 = .ok (.invokevirtual 62, 3) := by decide +kernel
theorem dX3_open_36 : decode cX3_open 36 = .ok (.aload_n 0, 1) := by decide +kernel
theorem dX3_open_37 : decode cX3_open 37 = .ok (.dup, 1) := by decide +kernel
theorem dX3_open_38 : decode cX3_open 38 = .ok (.getfield 48, 3) := by decide +kernel
theorem dX3_open_41 : decode cX3_open 41 = .ok (.iconst 1, 1) := by decide +kernel
theorem dX3_open_42 : decode cX3_open 42 = .ok (.iadd, 1) := by decide +kernel
theorem dX3_open_43 : decode cX3_open 43 = .ok (.putfield 48, 3) := by decide +kernel
theorem dX3_open_46 : decode cX3_open 46 = .ok (.aload_n 0, 1) := by decide +kernel
theorem dX3_open_47 : decode cX3_open 47 = .ok (.getfield 15, 3) := by decide +kernel
theorem dX3_open_50 : decode cX3_open 50 = .ok (.iload_n 1, 1) := by decide +kernel
theorem dX3_open_51 : decode cX3_open 51 = .ok (.iconst 0, 1) := by decide +kernel
theorem dX3_open_52 : decode cX3_open 52 = .ok (.iastore, 1) := by decide +kernel
theorem dX3_open_53 : decode cX3_open 53 = .ok (.aload_n 0, 1) := by decide +kernel
theorem dX3_open_54 : decode cX3_open 54 = .ok (.getfield 18, 3) := by decide +kernel
theorem dX3_open_57 : decode cX3_open 57 = .ok (.iload_n 1, 1) := by decide +kernel
theorem dX3_open_58 : decode cX3_open 58 = .ok (.iconst 0, 1) := by decide +kernel
theorem dX3_open_59 : decode cX3_open 59 = .ok (.iastore, 1) := by decide +kernel
theorem dX3_open_60 : decode cX3_open 60 = .ok (.aload_n 0, 1) := by decide +kernel
theorem dX3_open_61 : decode cX3_open 61 = .ok (.getfield 21, 3) := by decide +kernel
theorem dX3_open_64 : decode cX3_open 64 = .ok (.iload_n 1, 1) := by decide +kernel
theorem dX3_open_65 : decode cX3_open 65 = .ok (.iconst (-1), 1) := by decide +kernel
theorem dX3_open_66 : decode cX3_open 66 = .ok (.iastore, 1) := by decide +kernel
theorem dX3_open_67 : decode cX3_open 67 = .ok (.aload_n 0, 1) := by decide +kernel
theorem dX3_open_68 : decode cX3_open 68 = .ok (.getfield 24, 3) := by decide +kernel
theorem dX3_open_71 : decode cX3_open 71 = .ok (.iload_n 1, 1) := by decide +kernel
theorem dX3_open_72 : decode cX3_open 72 = .ok (.iconst (-1), 1) := by decide +kernel
theorem dX3_open_73 : decode cX3_open 73 = .ok (.iastore, 1) := by decide +kernel
theorem dX3_open_74 : decode cX3_open 74 = .ok (.aload_n 0, 1) := by decide +kernel
theorem dX3_open_75 : decode cX3_open 75 = .ok (.getfield 27, 3) := by decide +kernel
theorem dX3_open_78 : decode cX3_open 78 = .ok (.iload_n 1, 1) := by decide +kernel
theorem dX3_open_79 : decode cX3_open 79 = .ok (.iconst 0, 1) := by decide +kernel
theorem dX3_open_80 : decode cX3_open 80 = .ok (.bastore, 1) := by decide +kernel
theorem dX3_open_81 : decode cX3_open 81 = .ok (.return_, 1) := by decide +kernel
set_option maxRecDepth 20000 in
theorem ggX3_close_X3_has : GoodIn wsX3_close wsX3_has := goodIn_r _ [6, 1, 25, 26, 27, 28, 29, 30, 31, 32, 33] (by decide +kernel) (by decide +kernel)
set_option maxRecDepth 20000 in
theorem gX3_close_X3_has : GoodIn wsX3_close (wsV RX3 66 RX3 yX3_has wsX3_has) := goodIn_app (goodIn_of _ (by decide +kernel)) ggX3_close_X3_has
set_option maxRecDepth 20000 in
theorem ggX3_close_X3_move : GoodIn wsX3_close wsX3_move := goodIn_r _ [10, 11, 12, 13, 14, 15, 16, 17, 18, 19, 20, 21, 22, 23, 24, 25, 26, 27, 28, 29, 30, 31, 32, 33] (by decide +kernel) (by decide +kernel)
set_option maxRecDepth 20000 in
theorem gX3_close_X3_move : GoodIn wsX3_close (wsV RX3 62 RX3 yX3_move wsX3_move) := goodIn_app (goodIn_of _ (by decide +kernel)) ggX3_close_X3_move
theorem dX3_close_0 : decode cX3_close 0 = .ok (.aload_n 0, 1) := by decide +kernel
theorem dX3_close_1 : decode cX3_close 1 = .ok (.iload_n 1, 1) := by decide +kernel
theorem dX3_close_2 : decode cX3_close 2 = .ok (.invokevirtual 66, 3) := by decide +kernel
theorem dX3_close_5 : decode cX3_close 5 = .ok (.ifCond .ne 4, 3) := by decide +kernel
theorem dX3_close_8 : decode cX3_close 8 = .ok (.return_, 1) := by decide +kernel
theorem dX3_close_9 : decode cX3_close 9 = .ok (.aload_n 0, 1) := by decide +kernel
theorem dX3_close_10 : decode cX3_close 10 = .ok (.iload_n 1, 1) := by decide +kernel
theorem dX3_close_11 : decode cX3_close 11 = .ok (.iconst 1, 1) := by decide +kernel
theorem dX3_close_12 : decode cX3_close 12 = .ok (.iadd, 1) := by decide +kernel
theorem dX3_close_13 : decode cX3_close 13 = .ok (.iload_n 1, 1) := by decide +kernel
theorem dX3_close_14 : decode cX3_close 14 = .ok (.aload_n 0, 1) := by decide +kernel
theorem dX3_close_15 : decode cX3_close 15 = .ok (.getfield 48, 3) := by decide +kernel
theorem dX3_close_18 : decode cX3_close 18 = .ok (.iload_n 1, 1) := by decide +kernel
theorem dX3_close_19 : decode cX3_close 19 = .ok (.isub, 1) := by decide +kernel
theorem dX3_close_20 : decode cX3_close 20 = .ok (.iconst 1, 1) := by decide +kernel
theorem dX3_close_21 : decode cX3_close 21 = .ok (.isub, 1) := by decide +kernel
theorem dX3_close_22 : decode cX3_close 22 = .ok (.invokevirtual 62, 3) := by decide +kernel
theorem dX3_close_25 : decode cX3_close 25 = .ok (.aload_n 0, 1) := by decide +kernel
theorem dX3_close_26 : decode cX3_close 26 = .ok (.dup, 1) := by decide +kernel
theorem dX3_close_27 : decode cX3_close 27 = .ok (.getfield 48, 3) := by decide +kernel
theorem dX3_close_30 : decode cX3_close 30 = .ok (.iconst 1, 1) := by decide +kernel
theorem dX3_close_31 : decode cX3_close 31 = .ok (.isub, 1) := by decide +kernel
theorem dX3_close_32 : decode cX3_close 32 = .ok (.putfield 48, 3) := by decide +kernel
theorem dX3_close_35 : decode cX3_close 35 = .ok (.return_, 1) := by decide +kernel
theorem dX3_move_0 : decode cX3_move 0 = .ok (.iload_n 1, 1) := by decide +kernel
theorem dX3_move_1 : decode cX3_move 1 = .ok (.ifCond .lt 23, 3) := by decide +kernel
theorem dX3_move_4 : decode cX3_move 4 = .ok (.iload_n 2, 1) := by decide +kernel
theorem dX3_move_5 : decode cX3_move 5 = .ok (.ifCond .lt 19, 3) := by decide +kernel
theorem dX3_move_8 : decode cX3_move 8 = .ok (.iload_n 3, 1) := by decide +kernel
theorem dX3_move_9 : decode cX3_move 9 = .ok (.ifCond .lt 15, 3) := by decide +kernel
theorem dX3_move_12 : decode cX3_move 12 = .ok (.iload_n 1, 1) := by decide +kernel
theorem dX3_move_13 : decode cX3_move 13 = .ok (.iload_n 2, 1) := by decide +kernel
theorem dX3_move_14 : decode cX3_move 14 = .ok (.invokestatic 70, 3) := by decide +kernel
theorem dX3_move_17 : decode cX3_move 17 = .ok (.iload_n 3, 1) := by decide +kernel
theorem dX3_move_18 : decode cX3_move 18 = .ok (.iadd, 1) := by decide +kernel
theorem dX3_move_19 : decode cX3_move 19 = .ok (.bipush 60, 2) := by decide +kernel
theorem dX3_move_21 : decode cX3_move 21 = .ok (.if_icmp .le 4, 3) := by decide +kernel
theorem dX3_move_24 : decode cX3_move 24 = .ok (.return_, 1) := by decide +kernel
theorem dX3_move_25 : decode cX3_move 25 = .ok (.aload_n 0, 1) := by decide +kernel
theorem dX3_move_26 : decode cX3_move 26 = .ok (.getfield 9, 3) := by decide +kernel
theorem dX3_move_29 : decode cX3_move 29 = .ok (.iload_n 1, 1) := by decide +kernel
theorem dX3_move_30 : decode cX3_move 30 = .ok (.bipush 12, 2) := by decide +kernel
theorem dX3_move_32 : decode cX3_move 32 = .ok (.imul, 1) := by decide +kernel
theorem dX3_move_33 : decode cX3_move 33 = .ok (.aload_n 0, 1) := by decide +kernel
theorem dX3_move_34 : decode cX3_move 34 = .ok (.getfield 9, 3) := by decide +kernel
theorem dX3_move_37 : decode cX3_move 37 = .ok (.iload_n 2, 1) := by decide +kernel
theorem dX3_move_38 : decode cX3_move 38 = .ok (.bipush 12, 2) := by decide +kernel
theorem dX3_move_40 : decode cX3_move 40 = .ok (.imul, 1) := by decide +kernel
theorem dX3_move_41 : decode cX3_move 41 = .ok (.iload_n 3, 1) := by decide +kernel
theorem dX3_move_42 : decode cX3_move 42 = .ok (.bipush 12, 2) := by decide +kernel
theorem dX3_move_44 : decode cX3_move 44 = .ok (.imul, 1) := by decide +kernel
theorem dX3_move_45 : decode cX3_move 45 = .ok (.invokestatic 56, 3) := by decide +kernel
theorem dX3_move_48 : decode cX3_move 48 = .ok (.aload_n 0, 1) := by decide +kernel
theorem dX3_move_49 : decode cX3_move 49 = .ok (.getfield 15, 3) := by decide +kernel
theorem dX3_move_52 : decode cX3_move 52 = .ok (.iload_n 1, 1) := by decide +kernel
theorem dX3_move_53 : decode cX3_move 53 = .ok (.aload_n 0, 1) := by decide +kernel
theorem dX3_move_54 : decode cX3_move 54 = .ok (.getfield 15, 3) := by decide +kernel
theorem dX3_move_57 : decode cX3_move 57 = .ok (.iload_n 2, 1) := by decide +kernel
theorem dX3_move_58 : decode cX3_move 58 = .ok (.iload_n 3, 1) := by decide +kernel
theorem dX3_move_59 : decode cX3_move 59 = .ok (.invokestatic 56, 3) := by decide +kernel
theorem dX3_move_62 : decode cX3_move 62 = .ok (.aload_n 0, 1) := by decide +kernel
theorem dX3_move_63 : decode cX3_move 63 = .ok (.getfield 18, 3) := by decide +kernel
theorem dX3_move_66 : decode cX3_move 66 = .ok (.iload_n 1, 1) := by decide +kernel
theorem dX3_move_67 : decode cX3_move 67 = .ok (.aload_n 0, 1) := by decide +kernel
theorem dX3_move_68 : decode cX3_move 68 = .ok (.getfield 18, 3) := by decide +kernel
theorem dX3_move_71 : decode cX3_move 71 = .ok (.iload_n 2, 1) := by decide +kernel
theorem dX3_move_72 : decode cX3_move 72 = .ok (.iload_n 3, 1) := by decide +kernel
theorem dX3_move_73 : decode cX3_move 73 = .ok (.invokestatic 56, 3) := by decide +kernel
theorem dX3_move_76 : decode cX3_move 76 = .ok (.aload_n 0, 1) := by decide +kernel
theorem dX3_move_77 : decode cX3_move 77 = .ok (.getfield 21, 3) := by decide +kernel
theorem dX3_move_80 : decode cX3_move 80 = .ok (.iload_n 1, 1) := by decide +kernel
theorem dX3_move_81 : decode cX3_move 81 = .ok (.aload_n 0, 1) := by decide +kernel
theorem dX3_move_82 : decode cX3_move 82 = .ok (.getfield 21, 3) := by decide +kernel
theorem dX3_move_85 : decode cX3_move 85 = .ok (.iload_n 2, 1) := by decide +kernel
theorem dX3_move_86 : decode cX3_move 86 = .ok (.iload_n 3, 1) := by decide +kernel
theorem dX3_move_87 : decode cX3_move 87 = .ok (.invokestatic 56, 3) := by decide +kernel
theorem dX3_move_90 : decode cX3_move 90 = .ok (.aload_n 0, 1) := by decide +kernel
theorem dX3_move_91 : decode cX3_move 91 = .ok (.getfield 24, 3) := by decide +kernel
theorem dX3_move_94 : decode cX3_move 94 = .ok (.iload_n 1, 1) := by decide +kernel
theorem dX3_move_95 : decode cX3_move 95 = .ok (.aload_n 0, 1) := by decide +kernel
theorem dX3_move_96 : decode cX3_move 96 = .ok (.getfield 24, 3) := by decide +kernel
theorem dX3_move_99 : decode cX3_move 99 = .ok (.iload_n 2, 1) := by decide +kernel
theorem dX3_move_100 : decode cX3_move 100 = .ok (.iload_n 3, 1) := by decide +kernel
theorem dX3_move_101 : decode cX3_move 101 = .ok (.invokestatic 56, 3) := by decide +kernel
theorem dX3_move_104 : decode cX3_move 104 = .ok (.aload_n 0, 1) := by decide +kernel
theorem dX3_move_105 : decode cX3_move 105 = .ok (.getfield 27, 3) := by decide +kernel
theorem dX3_move_108 : decode cX3_move 108 = .ok (.iload_n 1, 1) := by decide +kernel
theorem dX3_move_109 : decode cX3_move 109 = .ok (.aload_n 0, 1) := by decide +kernel
theorem dX3_move_110 : decode cX3_move 110 = .ok (.getfield 27, 3) := by decide +kernel
theorem dX3_move_113 : decode cX3_move 113 = .ok (.iload_n 2, 1) := by decide +kernel
theorem dX3_move_114 : decode cX3_move 114 = .ok (.iload_n 3, 1) := by decide +kernel
theorem dX3_move_115 : decode cX3_move 115 = .ok (.invokestatic 56, 3) := by decide +kernel
theorem dX3_move_118 : decode cX3_move 118 = .ok (.return_, 1) := by decide +kernel
set_option maxRecDepth 20000 in
theorem ggX3_addLetter_X3_has : GoodIn wsX3_addLetter wsX3_has := goodIn_r _ [8, 9, 10, 11, 12, 13, 14, 15, 16, 17, 18] (by decide +kernel) (by decide +kernel)
set_option maxRecDepth 20000 in
theorem gX3_addLetter_X3_has : GoodIn wsX3_addLetter (wsV RX3 66 RX3 yX3_has wsX3_has) := goodIn_app (goodIn_of _ (by decide +kernel)) ggX3_addLetter_X3_has
theorem dX3_addLetter_0 : decode cX3_addLetter 0 = .ok (.aload_n 0, 1) := by decide +kernel
theorem dX3_addLetter_1 : decode cX3_addLetter 1 = .ok (.iload_n 1, 1) := by decide +kernel
theorem dX3_addLetter_2 : decode cX3_addLetter 2 = .ok (.invokevirtual 66, 3) := by decide +kernel
theorem dX3_addLetter_5 : decode cX3_addLetter 5 = .ok (.ifCond .eq 13, 3) := by decide +kernel
theorem dX3_addLetter_8 : decode cX3_addLetter 8 = .ok (.iload_n 2, 1) := by decide +kernel
theorem dX3_addLetter_9 : decode cX3_addLetter 9 = .ok (.ifCond .lt 9, 3) := by decide +kernel
theorem dX3_addLetter_12 : decode cX3_addLetter 12 = .ok (.iload_n 2, 1) := by decide +kernel
theorem dX3_addLetter_13 : decode cX3_addLetter 13 = .ok (.bipush 26, 2) := by decide +kernel
theorem dX3_addLetter_15 : decode cX3_addLetter 15 = .ok (.if_icmp .lt 5, 3) := by decide +kernel
theorem dX3_addLetter_18 : decode cX3_addLetter 18 = .ok (.iconst 0, 1) := by decide +kernel
theorem dX3_addLetter_19 : decode cX3_addLetter 19 = .ok (.ireturn, 1) := by decide +kernel
theorem dX3_addLetter_20 : decode cX3_addLetter 20 = .ok (.aload_n 0, 1) := by decide +kernel
theorem dX3_addLetter_21 : decode cX3_addLetter 21 = .ok (.getfield 15, 3) := by decide +kernel
theorem dX3_addLetter_24 : decode cX3_addLetter 24 = .ok (.iload_n 1, 1) := by decide +kernel
theorem dX3_addLetter_25 : decode cX3_addLetter 25 = .ok (.iaload, 1) := by decide +kernel
theorem dX3_addLetter_26 : decode cX3_addLetter 26 = .ok (.istore_n 3, 1) := by decide +kernel
theorem dX3_addLetter_27 : decode cX3_addLetter 27 = .ok (.iload_n 3, 1) := by decide +kernel
theorem dX3_addLetter_28 : decode cX3_addLetter 28 = .ok (.ifCond .lt 9, 3) := by decide +kernel
theorem dX3_addLetter_31 : decode cX3_addLetter 31 = .ok (.iload_n 3, 1) := by decide +kernel
theorem dX3_addLetter_32 : decode cX3_addLetter 32 = .ok (.bipush 12, 2) := by decide +kernel
theorem dX3_addLetter_34 : decode cX3_addLetter 34 = .ok (.if_icmp .lt 5, 3) := by decide +kernel
theorem dX3_addLetter_37 : decode cX3_addLetter 37 = .ok (.iconst 0, 1) := by decide +kernel
theorem dX3_addLetter_38 : decode cX3_addLetter 38 = .ok (.ireturn, 1) := by decide +kernel
theorem dX3_addLetter_39 : decode cX3_addLetter 39 = .ok (.aload_n 0, 1) := by decide +kernel
theorem dX3_addLetter_40 : decode cX3_addLetter 40 = .ok (.getfield 9, 3) := by decide +kernel
theorem dX3_addLetter_43 : decode cX3_addLetter 43 = .ok (.iload_n 1, 1) := by decide +kernel
theorem dX3_addLetter_44 : decode cX3_addLetter 44 = .ok (.bipush 12, 2) := by decide +kernel
theorem dX3_addLetter_46 : decode cX3_addLetter 46 = .ok (.imul, 1) := by decide +kernel
theorem dX3_addLetter_47 : decode cX3_addLetter 47 = .ok (.iload_n 3, 1) := by decide +kernel
theorem dX3_addLetter_48 : decode cX3_addLetter 48 = .ok (.iadd, 1) := by decide +kernel
theorem dX3_addLetter_49 : decode cX3_addLetter 49 = .ok (.iload_n 2, 1) := by decide +kernel
theorem dX3_addLetter_50 : decode cX3_addLetter 50 = .ok (.iastore, 1) := by decide +kernel
theorem dX3_addLetter_51 : decode cX3_addLetter 51 = .ok (.aload_n 0, 1) := by decide +kernel
theorem dX3_addLetter_52 : decode cX3_addLetter 52 = .ok (.getfield 15, 3) := by decide +kernel
theorem dX3_addLetter_55 : decode cX3_addLetter 55 = .ok (.iload_n 1, 1) := by decide +kernel
theorem dX3_addLetter_56 : decode cX3_addLetter 56 = .ok (.iload_n 3, 1) := by decide +kernel
theorem dX3_addLetter_57 : decode cX3_addLetter 57 = .ok (.iconst 1, 1) := by decide +kernel
theorem dX3_addLetter_58 : decode cX3_addLetter 58 = .ok (.iadd, 1) := by decide +kernel
theorem dX3_addLetter_59 : decode cX3_addLetter 59 = .ok (.iastore, 1) := by decide +kernel
theorem dX3_addLetter_60 : decode cX3_addLetter 60 = .ok (.aload_n 0, 1) := by decide +kernel
theorem dX3_addLetter_61 : decode cX3_addLetter 61 = .ok (.getfield 18, 3) := by decide +kernel
theorem dX3_addLetter_64 : decode cX3_addLetter 64 = .ok (.iload_n 1, 1) := by decide +kernel
theorem dX3_addLetter_65 : decode cX3_addLetter 65 = .ok (.dup2, 1) := by decide +kernel
theorem dX3_addLetter_66 : decode cX3_addLetter 66 = .ok (.iaload, 1) := by decide +kernel
theorem dX3_addLetter_67 : decode cX3_addLetter 67 = .ok (.getstatic 76, 3) := by decide +kernel
theorem dX3_addLetter_70 : decode cX3_addLetter 70 = .ok (.iload_n 2, 1) := by decide +kernel
theorem dX3_addLetter_71 : decode cX3_addLetter 71 = .ok (.iaload, 1) := by decide +kernel
theorem dX3_addLetter_72 : decode cX3_addLetter 72 = .ok (.iadd, 1) := by decide +kernel
theorem dX3_addLetter_73 : decode cX3_addLetter 73 = .ok (.iastore, 1) := by decide +kernel
theorem dX3_addLetter_74 : decode cX3_addLetter 74 = .ok (.iconst 1, 1) := by decide +kernel
theorem dX3_addLetter_75 : decode cX3_addLetter 75 = .ok (.ireturn, 1) := by decide +kernel
set_option maxRecDepth 20000 in
theorem ggX3_putSigns_X3_has : GoodIn wsX3_putSigns wsX3_has := goodIn_r _ [7, 8, 9, 10, 11, 12, 13, 14, 15, 16, 17] (by decide +kernel) (by decide +kernel)
set_option maxRecDepth 20000 in
theorem gX3_putSigns_X3_has : GoodIn wsX3_putSigns (wsV RX3 66 RX3 yX3_has wsX3_has) := goodIn_app (goodIn_of _ (by decide +kernel)) ggX3_putSigns_X3_has
theorem dX3_putSigns_0 : decode cX3_putSigns 0 = .ok (.aload_n 0, 1) := by decide +kernel
