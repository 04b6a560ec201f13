theorem dX7_init_0 : decode cX7_init 0 = .ok (.aload_n 0, 1) := by decide +kernel
theorem dX7_init_1 : decode cX7_init 1 = .ok (.invokespecial 1, 3) := by decide +kernel
theorem dX7_init_4 : decode cX7_init 4 = .ok (.aload_n 0, 1) := by decide +kernel
theorem dX7_init_5 : decode cX7_init 5 = .ok (.bipush 12, 2) := by decide +kernel
theorem dX7_init_7 : decode cX7_init 7 = .ok (.newarray .int, 2) := by decide +kernel
theorem dX7_init_9 : decode cX7_init 9 = .ok (.putfield 9, 3) := by decide +kernel
theorem dX7_init_12 : decode cX7_init 12 = .ok (.aload_n 0, 1) := by decide +kernel
theorem dX7_init_13 : decode cX7_init 13 = .ok (.sipush 200, 3) := by decide +kernel
theorem dX7_init_16 : decode cX7_init 16 = .ok (.newarray .int, 2) := by decide +kernel
theorem dX7_init_18 : decode cX7_init 18 = .ok (.putfield 13, 3) := by decide +kernel
theorem dX7_init_21 : decode cX7_init 21 = .ok (.aload_n 0, 1) := by decide +kernel
theorem dX7_init_22 : decode cX7_init 22 = .ok (.sipush 200, 3) := by decide +kernel
theorem dX7_init_25 : decode cX7_init 25 = .ok (.newarray .int, 2) := by decide +kernel
theorem dX7_init_27 : decode cX7_init 27 = .ok (.putfield 16, 3) := by decide +kernel
theorem dX7_init_30 : decode cX7_init 30 = .ok (.aload_n 0, 1) := by decide +kernel
theorem dX7_init_31 : decode cX7_init 31 = .ok (.sipush 200, 3) := by decide +kernel
theorem dX7_init_34 : decode cX7_init 34 = .ok (.newarray .int, 2) := by decide +kernel
theorem dX7_init_36 : decode cX7_init 36 = .ok (.putfield 19, 3) := by decide +kernel
theorem dX7_init_39 : decode cX7_init 39 = .ok (.aload_n 0, 1) := by decide +kernel
theorem dX7_init_40 : decode cX7_init 40 = .ok (.sipush 200, 3) := by decide +kernel
theorem dX7_init_43 : decode cX7_init 43 = .ok (.newarray .int, 2) := by decide +kernel
theorem dX7_init_45 : decode cX7_init 45 = .ok (.putfield 22, 3) := by decide +kernel
theorem dX7_init_48 : decode cX7_init 48 = .ok (.aload_n 0, 1) := by decide +kernel
theorem dX7_init_49 : decode cX7_init 49 = .ok (.sipush 200, 3) := by decide +kernel
theorem dX7_init_52 : decode cX7_init 52 = .ok (.newarray .int, 2) := by decide +kernel
theorem dX7_init_54 : decode cX7_init 54 = .ok (.putfield 25, 3) := by decide +kernel
theorem dX7_init_57 : decode cX7_init 57 = .ok (.aload_n 0, 1) := by decide +kernel
theorem dX7_init_58 : decode cX7_init 58 = .ok (.sipush 200, 3) := by decide +kernel
theorem dX7_init_61 : decode cX7_init 61 = .ok (.newarray .int, 2) := by decide +kernel
theorem dX7_init_63 : decode cX7_init 63 = .ok (.putfield 28, 3) := by decide +kernel
theorem dX7_init_66 : decode cX7_init 66 = .ok (.aload_n 0, 1) := by decide +kernel
theorem dX7_init_67 : decode cX7_init 67 = .ok (.sipush 200, 3) := by decide +kernel
theorem dX7_init_70 : decode cX7_init 70 = .ok (.newarray .int, 2) := by decide +kernel
theorem dX7_init_72 : decode cX7_init 72 = .ok (.putfield 31, 3) := by decide +kernel
theorem dX7_init_75 : decode cX7_init 75 = .ok (.aload_n 0, 1) := by decide +kernel
theorem dX7_init_76 : decode cX7_init 76 = .ok (.sipush 200, 3) := by decide +kernel
theorem dX7_init_79 : decode cX7_init 79 = .ok (.newarray .int, 2) := by decide +kernel
theorem dX7_init_81 : decode cX7_init 81 = .ok (.putfield 34, 3) := by decide +kernel
theorem dX7_init_84 : decode cX7_init 84 = .ok (.aload_n 0, 1) := by decide +kernel
theorem dX7_init_85 : decode cX7_init 85 = .ok (.sipush 200, 3) := by decide +kernel
theorem dX7_init_88 : decode cX7_init 88 = .ok (.newarray .int, 2) := by decide +kernel
theorem dX7_init_90 : decode cX7_init 90 = .ok (.putfield 37, 3) := by decide +kernel
theorem dX7_init_93 : decode cX7_init 93 = .ok (.aload_n 0, 1) := by decide +kernel
theorem dX7_init_94 : decode cX7_init 94 = .ok (.bipush 20, 2) := by decide +kernel
theorem dX7_init_96 : decode cX7_init 96 = .ok (.newarray .int, 2) := by decide +kernel
theorem dX7_init_98 : decode cX7_init 98 = .ok (.putfield 40, 3) := by decide +kernel
theorem dX7_init_101 : decode cX7_init 101 = .ok (.aload_n 0, 1) := by decide +kernel
theorem dX7_init_102 : decode cX7_init 102 = .ok (.bipush 20, 2) := by decide +kernel
theorem dX7_init_104 : decode cX7_init 104 = .ok (.newarray .int, 2) := by decide +kernel
theorem dX7_init_106 : decode cX7_init 106 = .ok (.putfield 43, 3) := by decide +kernel
theorem dX7_init_109 : decode cX7_init 109 = .ok (.aload_n 0, 1) := by decide +kernel
theorem dX7_init_110 : decode cX7_init 110 = .ok (.bipush 20, 2) := by decide +kernel
theorem dX7_init_112 : decode cX7_init 112 = .ok (.newarray .int, 2) := by decide +kernel
theorem dX7_init_114 : decode cX7_init 114 = .ok (.putfield 46, 3) := by decide +kernel
theorem dX7_init_117 : decode cX7_init 117 = .ok (.aload_n 0, 1) := by decide +kernel
theorem dX7_init_118 : decode cX7_init 118 = .ok (.bipush 20, 2) := by decide +kernel
theorem dX7_init_120 : decode cX7_init 120 = .ok (.newarray .int, 2) := by decide +kernel
theorem dX7_init_122 : decode cX7_init 122 = .ok (.putfield 49, 3) := by decide +kernel
theorem dX7_init_125 : decode cX7_init 125 = .ok (.aload_n 0, 1) := by decide +kernel
theorem dX7_init_126 : decode cX7_init 126 = .ok (.bipush 100, 2) := by decide +kernel
theorem dX7_init_128 : decode cX7_init 128 = .ok (.newarray .int, 2) := by decide +kernel
theorem dX7_init_130 : decode cX7_init 130 = .ok (.putfield 52, 3) := by decide +kernel
theorem dX7_init_133 : decode cX7_init 133 = .ok (.aload_n 0, 1) := by decide +kernel
theorem dX7_init_134 : decode cX7_init 134 = .ok (.bipush 100, 2) := by decide +kernel
theorem dX7_init_136 : decode cX7_init 136 = .ok (.newarray .int, 2) := by decide +kernel
theorem dX7_init_138 : decode cX7_init 138 = .ok (.putfield 55, 3) := by decide +kernel
theorem dX7_init_141 : decode cX7_init 141 = .ok (.aload_n 0, 1) := by decide +kernel
theorem dX7_init_142 : decode cX7_init 142 = .ok (.bipush 100, 2) := by decide +kernel
theorem dX7_init_144 : decode cX7_init 144 = .ok (.newarray .int, 2) := by decide +kernel
theorem dX7_init_146 : decode cX7_init 146 = .ok (.putfield 58, 3) := by decide +kernel
theorem dX7_init_149 : decode cX7_init 149 = .ok (.aload_n 0, 1) := by decide +kernel
theorem dX7_init_150 : decode cX7_init 150 = .ok (.bipush 100, 2) := by decide +kernel
theorem dX7_init_152 : decode cX7_init 152 = .ok (.newarray .int, 2) := by decide +kernel
theorem dX7_init_154 : decode cX7_init 154 = .ok (.putfield 61, 3) := by decide +kernel
theorem dX7_init_157 : decode cX7_init 157 = .ok (.aload_n 0, 1) := by decide +kernel
theorem dX7_init_158 : decode cX7_init 158 = .ok (.bipush 100, 2) := by decide +kernel
theorem dX7_init_160 : decode cX7_init 160 = .ok (.newarray .int, 2) := by decide +kernel
theorem dX7_init_162 : decode cX7_init 162 = .ok (.putfield 64, 3) := by decide +kernel
theorem dX7_init_165 : decode cX7_init 165 = .ok (.aload_n 0, 1) := by decide +kernel
theorem dX7_init_166 : decode cX7_init 166 = .ok (.bipush 40, 2) := by decide +kernel
theorem dX7_init_168 : decode cX7_init 168 = .ok (.newarray .int, 2) := by decide +kernel
theorem dX7_init_170 : decode cX7_init 170 = .ok (.putfield 67, 3) := by decide +kernel
theorem dX7_init_173 : decode cX7_init 173 = .ok (.aload_n 0, 1) := by decide +kernel
theorem dX7_init_174 : decode cX7_init 174 = .ok (.bipush 40, 2) := by decide +kernel
theorem dX7_init_176 : decode cX7_init 176 = .ok (.newarray .int, 2) := by decide +kernel
theorem dX7_init_178 : decode cX7_init 178 = .ok (.putfield 70, 3) := by decide +kernel
theorem dX7_init_181 : decode cX7_init 181 = .ok (.aload_n 0, 1) := by decide +kernel
theorem dX7_init_182 : decode cX7_init 182 = .ok (.bipush 40, 2) := by decide +kernel
theorem dX7_init_184 : decode cX7_init 184 = .ok (.newarray .int, 2) := by decide +kernel
theorem dX7_init_186 : decode cX7_init 186 = .ok (.putfield 73, 3) := by decide +kernel
theorem dX7_init_189 : decode cX7_init 189 = .ok (.aload_n 0, 1) := by decide +kernel
theorem dX7_init_190 : decode cX7_init 190 = .ok (.bipush 40, 2) := by decide +kernel
theorem dX7_init_192 : decode cX7_init 192 = .ok (.newarray .int, 2) := by decide +kernel
theorem dX7_init_194 : decode cX7_init 194 = .ok (.putfield 76, 3) := by decide +kernel
theorem dX7_init_197 : decode cX7_init 197 = .ok (.aload_n 0, 1) := by decide +kernel
theorem dX7_init_198 : decode cX7_init 198 = .ok (.bipush 40, 2) := by decide +kernel
theorem dX7_init_200 : decode cX7_init 200 = .ok (.newarray .int, 2) := by decide +kernel
theorem dX7_init_202 : decode cX7_init 202 = .ok (.putfield 79, 3) := by decide +kernel
theorem dX7_init_205 : decode cX7_init 205 = .ok (.aload_n 0, 1) := by decide +kernel
theorem dX7_init_206 : decode cX7_init 206 = .ok (.bipush 21, 2) := by decide +kernel
theorem dX7_init_208 : decode cX7_init 208 = .ok (.newarray .int, 2) := by decide +kernel
theorem dX7_init_210 : decode cX7_init 210 = .ok (.putfield 82, 3) := by decide +kernel
theorem dX7_init_213 : decode cX7_init 213 = .ok (.aload_n 0, 1) := by decide +kernel
theorem dX7_init_214 : decode cX7_init 214 = .ok (.bipush 21, 2) := by decide +kernel
theorem dX7_init_216 : decode cX7_init 216 = .ok (.newarray .int, 2) := by decide +kernel
theorem dX7_init_218 : decode cX7_init 218 = .ok (.putfield 85, 3) := by decide +kernel
theorem dX7_init_221 : decode cX7_init 221 = .ok (.return_, 1) := by decide +kernel
theorem dX7_in_0 : decode cX7_in 0 = .ok (.iload_n 0, 1) := by decide +kernel
theorem dX7_in_1 : decode cX7_in 1 = .ok (.iload_n 1, 1) := by decide +kernel
theorem dX7_in_2 : decode cX7_in 2 = .ok (.if_icmp .lt 12, 3) := by decide +kernel
theorem dX7_in_5 : decode cX7_in 5 = .ok (.iload_n 0, 1) := by decide +kernel
theorem dX7_in_6 : decode cX7_in 6 = .ok (.iload_n 2, 1) := by decide +kernel
theorem dX7_in_7 : decode cX7_in 7 = .ok (.if_icmp .gt 7, 3) := by decide +kernel
theorem dX7_in_10 : decode cX7_in 10 = .ok (.iconst 1, 1) := by decide +kernel
theorem dX7_in_11 : decode cX7_in 11 = .ok (.goto 4, 3) := by decide +kernel
theorem dX7_in_14 : decode cX7_in 14 = .ok (.iconst 0, 1) := by decide +kernel
theorem dX7_in_15 : decode cX7_in 15 = .ok (.ireturn, 1) := by decide +kernel
set_option maxRecDepth 20000 in
theorem ggX7_isTitle_X7_in : GoodIn wsX7_isTitle wsX7_in := goodIn_r _ [5] (by decide +kernel) (by decide +kernel)
set_option maxRecDepth 20000 in
theorem gX7_isTitle_X7_in : GoodIn wsX7_isTitle (va_wsS RX7 92 yX7_in wsX7_in) := goodIn_app (goodIn_of _ (by decide +kernel)) ggX7_isTitle_X7_in
theorem dX7_isTitle_0 : decode cX7_isTitle 0 = .ok (.iload_n 1, 1) := by decide +kernel
theorem dX7_isTitle_1 : decode cX7_isTitle 1 = .ok (.iconst 0, 1) := by decide +kernel
theorem dX7_isTitle_2 : decode cX7_isTitle 2 = .ok (.aload_n 0, 1) := by decide +kernel
theorem dX7_isTitle_3 : decode cX7_isTitle 3 = .ok (.getfield 88, 3) := by decide +kernel
theorem dX7_isTitle_6 : decode cX7_isTitle 6 = .ok (.iconst 1, 1) := by decide +kernel
theorem dX7_isTitle_7 : decode cX7_isTitle 7 = .ok (.isub, 1) := by decide +kernel
theorem dX7_isTitle_8 : decode cX7_isTitle 8 = .ok (.invokestatic 92, 3) := by decide +kernel
theorem dX7_isTitle_11 : decode cX7_isTitle 11 = .ok (.ireturn, 1) := by decide +kernel
set_option maxRecDepth 20000 in
theorem ggX7_isReader_X7_in : GoodIn wsX7_isReader wsX7_in := goodIn_r _ [5] (by decide +kernel) (by decide +kernel)
set_option maxRecDepth 20000 in
theorem gX7_isReader_X7_in : GoodIn wsX7_isReader (va_wsS RX7 92 yX7_in wsX7_in) := goodIn_app (goodIn_of _ (by decide +kernel)) ggX7_isReader_X7_in
theorem dX7_isReader_0 : decode cX7_isReader 0 = .ok (.iload_n 1, 1) := by decide +kernel
theorem dX7_isReader_1 : decode cX7_isReader 1 = .ok (.iconst 0, 1) := by decide +kernel
theorem dX7_isReader_2 : decode cX7_isReader 2 = .ok (.aload_n 0, 1) := by decide +kernel
theorem dX7_isReader_3 : decode cX7_isReader 3 = .ok (.getfield 96, 3) := by decide +kernel
theorem dX7_isReader_6 : decode cX7_isReader 6 = .ok (.iconst 1, 1) := by decide +kernel
theorem dX7_isReader_7 : decode cX7_isReader 7 = .ok (.isub, 1) := by decide +kernel
theorem dX7_isReader_8 : decode cX7_isReader 8 = .ok (.invokestatic 92, 3) := by decide +kernel
theorem dX7_isReader_11 : decode cX7_isReader 11 = .ok (.ireturn, 1) := by decide +kernel
set_option maxRecDepth 20000 in
theorem ggX7_isCopy_X7_in : GoodIn wsX7_isCopy wsX7_in := goodIn_r _ [5] (by decide +kernel) (by decide +kernel)
set_option maxRecDepth 20000 in
theorem gX7_isCopy_X7_in : GoodIn wsX7_isCopy (va_wsS RX7 92 yX7_in wsX7_in) := goodIn_app (goodIn_of _ (by decide +kernel)) ggX7_isCopy_X7_in
theorem dX7_isCopy_0 : decode cX7_isCopy 0 = .ok (.iload_n 1, 1) := by decide +kernel
theorem dX7_isCopy_1 : decode cX7_isCopy 1 = .ok (.iconst 0, 1) := by decide +kernel
theorem dX7_isCopy_2 : decode cX7_isCopy 2 = .ok (.aload_n 0, 1) := by decide +kernel
theorem dX7_isCopy_3 : decode cX7_isCopy 3 = .ok (.getfield 99, 3) := by decide +kernel
theorem dX7_isCopy_6 : decode cX7_isCopy 6 = .ok (.iconst 1, 1) := by decide +kernel
theorem dX7_isCopy_7 : decode cX7_isCopy 7 = .ok (.isub, 1) := by decide +kernel
theorem dX7_isCopy_8 : decode cX7_isCopy 8 = .ok (.invokestatic 92, 3) := by decide +kernel
theorem dX7_isCopy_11 : decode cX7_isCopy 11 = .ok (.ireturn, 1) := by decide +kernel
set_option maxRecDepth 20000 in
theorem ggX7_isWish_X7_in : GoodIn wsX7_isWish wsX7_in := goodIn_r _ [5] (by decide +kernel) (by decide +kernel)
set_option maxRecDepth 20000 in
theorem gX7_isWish_X7_in : GoodIn wsX7_isWish (va_wsS RX7 92 yX7_in wsX7_in) := goodIn_app (goodIn_of _ (by decide +kernel)) ggX7_isWish_X7_in
theorem dX7_isWish_0 : decode cX7_isWish 0 = .ok (.iload_n 1, 1) := by decide +kernel
theorem dX7_isWish_1 : decode cX7_isWish 1 = .ok (.iconst 0, 1) := by decide +kernel
theorem dX7_isWish_2 : decode cX7_isWish 2 = .ok (.aload_n 0, 1) := by decide +kernel
theorem dX7_isWish_3 : decode cX7_isWish 3 = .ok (.getfield 102, 3) := by decide +kernel
theorem dX7_isWish_6 : decode cX7_isWish 6 = .ok (.iconst 1, 1) := by decide +kernel
theorem dX7_isWish_7 : decode cX7_isWish 7 = .ok (.isub, 1) := by decide +kernel
theorem dX7_isWish_8 : decode cX7_isWish 8 = .ok (.invokestatic 92, 3) := by decide +kernel
theorem dX7_isWish_11 : decode cX7_isWish 11 = .ok (.ireturn, 1) := by decide +kernel
set_option maxRecDepth 20000 in
theorem ggX7_title_X7_in : GoodIn wsX7_title wsX7_in := goodIn_r _ [6] (by decide +kernel) (by decide +kernel)
set_option maxRecDepth 20000 in
theorem gX7_title_X7_in : GoodIn wsX7_title (va_wsS RX7 92 yX7_in wsX7_in) := goodIn_app (goodIn_of _ (by decide +kernel)) ggX7_title_X7_in
theorem dX7_title_0 : decode cX7_title 0 = .ok (.iload_n 1, 1) := by decide +kernel
theorem dX7_title_1 : decode cX7_title 1 = .ok (.iconst 1, 1) := by decide +kernel
theorem dX7_title_2 : decode cX7_title 2 = .ok (.iconst 4, 1) := by decide +kernel
theorem dX7_title_3 : decode cX7_title 3 = .ok (.invokestatic 92, 3) := by decide +kernel
theorem dX7_title_6 : decode cX7_title 6 = .ok (.ifCond .eq 12, 3) := by decide +kernel
theorem dX7_title_9 : decode cX7_title 9 = .ok (.aload_n 0, 1) := by decide +kernel
theorem dX7_title_10 : decode cX7_title 10 = .ok (.getfield 88, 3) := by decide +kernel
theorem dX7_title_13 : decode cX7_title 13 = .ok (.bipush 12, 2) := by decide +kernel
theorem dX7_title_15 : decode cX7_title 15 = .ok (.if_icmp .ne 5, 3) := by decide +kernel
theorem dX7_title_18 : decode cX7_title 18 = .ok (.iconst (-1), 1) := by decide +kernel
theorem dX7_title_19 : decode cX7_title 19 = .ok (.ireturn, 1) := by decide +kernel
theorem dX7_title_20 : decode cX7_title 20 = .ok (.aload_n 0, 1) := by decide +kernel
theorem dX7_title_21 : decode cX7_title 21 = .ok (.getfield 9, 3) := by decide +kernel
theorem dX7_title_24 : decode cX7_title 24 = .ok (.aload_n 0, 1) := by decide +kernel
theorem dX7_title_25 : decode cX7_title 25 = .ok (.getfield 88, 3) := by decide +kernel
theorem dX7_title_28 : decode cX7_title 28 = .ok (.iload_n 1, 1) := by decide +kernel
theorem dX7_title_29 : decode cX7_title 29 = .ok (.iastore, 1) := by decide +kernel
theorem dX7_title_30 : decode cX7_title 30 = .ok (.aload_n 0, 1) := by decide +kernel
theorem dX7_title_31 : decode cX7_title 31 = .ok (.dup, 1) := by decide +kernel
theorem dX7_title_32 : decode cX7_title 32 = .ok (.getfield 88, 3) := by decide +kernel
theorem dX7_title_35 : decode cX7_title 35 = .ok (.iconst 1, 1) := by decide +kernel
theorem dX7_title_36 : decode cX7_title 36 = .ok (.iadd, 1) := by decide +kernel
theorem dX7_title_37 : decode cX7_title 37 = .ok (.putfield 88, 3) := by decide +kernel
theorem dX7_title_40 : decode cX7_title 40 = .ok (.aload_n 0, 1) := by decide +kernel
theorem dX7_title_41 : decode cX7_title 41 = .ok (.getfield 88, 3) := by decide +kernel
theorem dX7_title_44 : decode cX7_title 44 = .ok (.iconst 1, 1) := by decide +kernel
theorem dX7_title_45 : decode cX7_title 45 = .ok (.isub, 1) := by decide +kernel
theorem dX7_title_46 : decode cX7_title 46 = .ok (.ireturn, 1) := by decide +kernel
set_option maxRecDepth 20000 in
theorem ggX7_bargain_X7_isTitle : GoodIn wsX7_bargain wsX7_isTitle := goodIn_r _ [11, 12, 13, 14, 10, 15, 16, 17, 18, 19, 20, 21, 22, 23, 24, 25, 26, 27, 28, 29, 30, 31, 32, 33, 34, 35, 36, 37, 38, 39, 40, 41, 42, 43, 44, 45, 46, 47, 48, 49, 50] (by decide +kernel) (by decide +kernel)
set_option maxRecDepth 20000 in
theorem gX7_bargain_X7_isTitle : GoodIn wsX7_bargain (wsV RX7 105 RX7 yX7_isTitle wsX7_isTitle) := goodIn_app (goodIn_of _ (by decide +kernel)) ggX7_bargain_X7_isTitle
set_option maxRecDepth 20000 in
theorem ggX7_bargain_X7_in : GoodIn wsX7_bargain wsX7_in := goodIn_r _ [15] (by decide +kernel) (by decide +kernel)
set_option maxRecDepth 20000 in
theorem gX7_bargain_X7_in : GoodIn wsX7_bargain (va_wsS RX7 92 yX7_in wsX7_in) := goodIn_app (goodIn_of _ (by decide +kernel)) ggX7_bargain_X7_in
theorem dX7_bargain_0 : decode cX7_bargain 0 = .ok (.aload_n 0, 1) := by decide +kernel
theorem dX7_bargain_1 : decode cX7_bargain 1 = .ok (.iload_n 1, 1) := by decide +kernel
theorem dX7_bargain_2 : decode cX7_bargain 2 = .ok (.invokevirtual 105, 3) := by decide +kernel
theorem dX7_bargain_5 : decode cX7_bargain 5 = .ok (.ifCond .eq 58, 3) := by decide +kernel
theorem dX7_bargain_8 : decode cX7_bargain 8 = .ok (.iload_n 2, 1) := by decide +kernel
theorem dX7_bargain_9 : decode cX7_bargain 9 = .ok (.iconst 0, 1) := by decide +kernel
theorem dX7_bargain_10 : decode cX7_bargain 10 = .ok (.sipush 5000, 3) := by decide +kernel
theorem dX7_bargain_13 : decode cX7_bargain 13 = .ok (.invokestatic 92, 3) := by decide +kernel
theorem dX7_bargain_16 : decode cX7_bargain 16 = .ok (.ifCond .eq 47, 3) := by decide +kernel
theorem dX7_bargain_19 : decode cX7_bargain 19 = .ok (.iload_n 3, 1) := by decide +kernel
theorem dX7_bargain_20 : decode cX7_bargain 20 = .ok (.iconst 0, 1) := by decide +kernel
theorem dX7_bargain_21 : decode cX7_bargain 21 = .ok (.sipush 200, 3) := by decide +kernel
theorem dX7_bargain_24 : decode cX7_bargain 24 = .ok (.invokestatic 92, 3) := by decide +kernel
theorem dX7_bargain_27 : decode cX7_bargain 27 = .ok (.ifCond .eq 36, 3) := by decide +kernel
theorem dX7_bargain_30 : decode cX7_bargain 30 = .ok (.iload 4, 2) := by decide +kernel
theorem dX7_bargain_32 : decode cX7_bargain 32 = .ok (.iconst 0, 1) := by decide +kernel
theorem dX7_bargain_33 : decode cX7_bargain 33 = .ok (.sipush 1000, 3) := by decide +kernel
theorem dX7_bargain_36 : decode cX7_bargain 36 = .ok (.invokestatic 92, 3) := by decide +kernel
theorem dX7_bargain_39 : decode cX7_bargain 39 = .ok (.ifCond .eq 24, 3) := by decide +kernel
theorem dX7_bargain_42 : decode cX7_bargain 42 = .ok (.iload 5, 2) := by decide +kernel
theorem dX7_bargain_44 : decode cX7_bargain 44 = .ok (.iconst 0, 1) := by decide +kernel
theorem dX7_bargain_45 : decode cX7_bargain 45 = .ok (.sipush 1000, 3) := by decide +kernel
theorem dX7_bargain_48 : decode cX7_bargain 48 = .ok (.invokestatic 92, 3) := by decide +kernel
theorem dX7_bargain_51 : decode cX7_bargain 51 = .ok (.ifCond .eq 12, 3) := by decide +kernel
theorem dX7_bargain_54 : decode cX7_bargain 54 = .ok (.aload_n 0, 1) := by decide +kernel
theorem dX7_bargain_55 : decode cX7_bargain 55 = .ok (.getfield 109, 3) := by decide +kernel
theorem dX7_bargain_58 : decode cX7_bargain 58 = .ok (.bipush 40, 2) := by decide +kernel
theorem dX7_bargain_60 : decode cX7_bargain 60 = .ok (.if_icmp .ne 5, 3) := by decide +kernel
theorem dX7_bargain_63 : decode cX7_bargain 63 = .ok (.iconst 0, 1) := by decide +kernel
theorem dX7_bargain_64 : decode cX7_bargain 64 = .ok (.ireturn, 1) := by decide +kernel
theorem dX7_bargain_65 : decode cX7_bargain 65 = .ok (.aload_n 0, 1) := by decide +kernel
theorem dX7_bargain_66 : decode cX7_bargain 66 = .ok (.getfield 67, 3) := by decide +kernel
theorem dX7_bargain_69 : decode cX7_bargain 69 = .ok (.aload_n 0, 1) := by decide +kernel
theorem dX7_bargain_70 : decode cX7_bargain 70 = .ok (.getfield 109, 3) := by decide +kernel
theorem dX7_bargain_73 : decode cX7_bargain 73 = .ok (.iload_n 1, 1) := by decide +kernel
theorem dX7_bargain_74 : decode cX7_bargain 74 = .ok (.iastore, 1) := by decide +kernel
theorem dX7_bargain_75 : decode cX7_bargain 75 = .ok (.aload_n 0, 1) := by decide +kernel
theorem dX7_bargain_76 : decode cX7_bargain 76 = .ok (.getfield 70, 3) := by decide +kernel
theorem dX7_bargain_79 : decode cX7_bargain 79 = .ok (.aload_n 0, 1) := by decide +kernel
theorem dX7_bargain_80 : decode cX7_bargain 80 = .ok (.getfield 109, 3) := by decide +kernel
theorem dX7_bargain_83 : decode cX7_bargain 83 = .ok (.iload_n 2, 1) := by decide +kernel
theorem dX7_bargain_84 : decode cX7_bargain 84 = .ok (.iastore, 1) := by decide +kernel
theorem dX7_bargain_85 : decode cX7_bargain 85 = .ok (.aload_n 0, 1) := by decide +kernel
theorem dX7_bargain_86 : decode cX7_bargain 86 = .ok (.getfield 73, 3) := by decide +kernel
theorem dX7_bargain_89 : decode cX7_bargain 89 = .ok (.aload_n 0, 1) := by decide +kernel
theorem dX7_bargain_90 : decode cX7_bargain 90 = .ok (.getfield 109, 3) := by decide +kernel
theorem dX7_bargain_93 : decode cX7_bargain 93 = .ok (.iload_n 3, 1) := by decide +kernel
theorem dX7_bargain_94 : decode cX7_bargain 94 = .ok (.iastore, 1) := by decide +kernel
theorem dX7_bargain_95 : decode cX7_bargain 95 = .ok (.aload_n 0, 1) := by decide +kernel
theorem dX7_bargain_96 : decode cX7_bargain 96 = .ok (.getfield 76, 3) := by decide +kernel
theorem dX7_bargain_99 : decode cX7_bargain 99 = .ok (.aload_n 0, 1) := by decide +kernel
theorem dX7_bargain_100 : decode cX7_bargain 100 = .ok (.getfield 109, 3) := by decide +kernel
theorem dX7_bargain_103 : decode cX7_bargain 103 = .ok (.iload 4, 2) := by decide +kernel
theorem dX7_bargain_105 : decode cX7_bargain 105 = .ok (.iastore, 1) := by decide +kernel
theorem dX7_bargain_106 : decode cX7_bargain 106 = .ok (.aload_n 0, 1) := by decide +kernel
theorem dX7_bargain_107 : decode cX7_bargain 107 = .ok (.getfield 79, 3) := by decide +kernel
theorem dX7_bargain_110 : decode cX7_bargain 110 = .ok (.aload_n 0, 1) := by decide +kernel
theorem dX7_bargain_111 : decode cX7_bargain 111 = .ok (.getfield 109, 3) := by decide +kernel
theorem dX7_bargain_114 : decode cX7_bargain 114 = .ok (.iload 5, 2) := by decide +kernel
theorem dX7_bargain_116 : decode cX7_bargain 116 = .ok (.iastore, 1) := by decide +kernel
theorem dX7_bargain_117 : decode cX7_bargain 117 = .ok (.aload_n 0, 1) := by decide +kernel
theorem dX7_bargain_118 : decode cX7_bargain 118 = .ok (.dup, 1) := by decide +kernel
theorem dX7_bargain_119 : decode cX7_bargain 119 = .ok (.getfield 109, 3) := by decide +kernel
theorem dX7_bargain_122 : decode cX7_bargain 122 = .ok (.iconst 1, 1) := by decide +kernel
theorem dX7_bargain_123 : decode cX7_bargain 123 = .ok (.iadd, 1) := by decide +kernel
theorem dX7_bargain_124 : decode cX7_bargain 124 = .ok (.putfield 109, 3) := by decide +kernel
theorem dX7_bargain_127 : decode cX7_bargain 127 = .ok (.iconst 1, 1) := by decide +kernel
theorem dX7_bargain_128 : decode cX7_bargain 128 = .ok (.ireturn, 1) := by decide +kernel
theorem dX7_bargainOf_0 : decode cX7_bargainOf 0 = .ok (.iconst (-1), 1) := by decide +kernel
theorem dX7_bargainOf_1 : decode cX7_bargainOf 1 = .ok (.istore_n 2, 1) := by decide +kernel
theorem dX7_bargainOf_2 : decode cX7_bargainOf 2 = .ok (.iconst 0, 1) := by decide +kernel
theorem dX7_bargainOf_3 : decode cX7_bargainOf 3 = .ok (.istore_n 3, 1) := by decide +kernel
theorem dX7_bargainOf_4 : decode cX7_bargainOf 4 = .ok (.iload_n 3, 1) := by decide +kernel
theorem dX7_bargainOf_5 : decode cX7_bargainOf 5 = .ok (.aload_n 0, 1) := by decide +kernel
theorem dX7_bargainOf_6 : decode cX7_bargainOf 6 = .ok (.getfield 109, 3) := by decide +kernel
theorem dX7_bargainOf_9 : decode cX7_bargainOf 9 = .ok (.if_icmp .ge 54, 3) := by decide +kernel
theorem dX7_bargainOf_12 : decode cX7_bargainOf 12 = .ok (.aload_n 0, 1) := by decide +kernel
theorem dX7_bargainOf_13 : decode cX7_bargainOf 13 = .ok (.getfield 67, 3) := by decide +kernel
theorem dX7_bargainOf_16 : decode cX7_bargainOf 16 = .ok (.iload_n 3, 1) := by decide +kernel
theorem dX7_bargainOf_17 : decode cX7_bargainOf 17 = .ok (.iaload, 1) := by decide +kernel
theorem dX7_bargainOf_18 : decode cX7_bargainOf 18 = .ok (.iload_n 1, 1) := by decide +kernel
theorem dX7_bargainOf_19 : decode cX7_bargainOf 19 = .ok (.if_icmp .ne 38, 3) := by decide +kernel
theorem dX7_bargainOf_22 : decode cX7_bargainOf 22 = .ok (.aload_n 0, 1) := by decide +kernel
theorem dX7_bargainOf_23 : decode cX7_bargainOf 23 = .ok (.getfield 70, 3) := by decide +kernel
theorem dX7_bargainOf_26 : decode cX7_bargainOf 26 = .ok (.iload_n 3, 1) := by decide +kernel
theorem dX7_bargainOf_27 : decode cX7_bargainOf 27 = .ok (.iaload, 1) := by decide +kernel
theorem dX7_bargainOf_28 : decode cX7_bargainOf 28 = .ok (.aload_n 0, 1) := by decide +kernel
theorem dX7_bargainOf_29 : decode cX7_bargainOf 29 = .ok (.getfield 112, 3) := by decide +kernel
theorem dX7_bargainOf_32 : decode cX7_bargainOf 32 = .ok (.if_icmp .gt 25, 3) := by decide +kernel
theorem dX7_bargainOf_35 : decode cX7_bargainOf 35 = .ok (.iload_n 2, 1) := by decide +kernel
theorem dX7_bargainOf_36 : decode cX7_bargainOf 36 = .ok (.iconst (-1), 1) := by decide +kernel
theorem dX7_bargainOf_37 : decode cX7_bargainOf 37 = .ok (.if_icmp .eq 18, 3) := by decide +kernel
theorem dX7_bargainOf_40 : decode cX7_bargainOf 40 = .ok (.aload_n 0, 1) := by decide +kernel
theorem dX7_bargainOf_41 : decode cX7_bargainOf 41 = .ok (.getfield 70, 3) := by decide +kernel
theorem dX7_bargainOf_44 : decode cX7_bargainOf 44 = .ok (.iload_n 3, 1) := by decide +kernel
theorem dX7_bargainOf_45 : decode cX7_bargainOf 45 = .ok (.iaload, 1) := by decide +kernel
theorem dX7_bargainOf_46 : decode cX7_bargainOf 46 = .ok (.aload_n 0, 1) := by decide +kernel
theorem dX7_bargainOf_47 : decode cX7_bargainOf 47 = .ok (.getfield 70, 3) := by decide +kernel
theorem dX7_bargainOf_50 : decode cX7_bargainOf 50 = .ok (.iload_n 2, 1) := by decide +kernel
theorem dX7_bargainOf_51 : decode cX7_bargainOf 51 = .ok (.iaload, 1) := by decide +kernel
theorem dX7_bargainOf_52 : decode cX7_bargainOf 52 = .ok (.if_icmp .lt 5, 3) := by decide +kernel
theorem dX7_bargainOf_55 : decode cX7_bargainOf 55 = .ok (.iload_n 3, 1) := by decide +kernel
theorem dX7_bargainOf_56 : decode cX7_bargainOf 56 = .ok (.istore_n 2, 1) := by decide +kernel
theorem dX7_bargainOf_57 : decode cX7_bargainOf 57 = .ok (.iinc 3 1, 3) := by decide +kernel
theorem dX7_bargainOf_60 : decode cX7_bargainOf 60 = .ok (.goto (-56), 3) := by decide +kernel
theorem dX7_bargainOf_63 : decode cX7_bargainOf 63 = .ok (.iload_n 2, 1) := by decide +kernel
theorem dX7_bargainOf_64 : decode cX7_bargainOf 64 = .ok (.ireturn, 1) := by decide +kernel
set_option maxRecDepth 20000 in
theorem ggX7_buy_X7_isTitle : GoodIn wsX7_buy wsX7_isTitle := goodIn_r _ [18, 19, 20, 21, 17, 22, 31, 32, 33, 34, 35, 36, 37, 38, 39, 40, 41, 42, 43, 44, 45, 46, 47, 48, 49, 50, 51, 52, 53, 54, 55, 56, 57, 58, 59, 60, 61, 62, 63, 64, 65] (by decide +kernel) (by decide +kernel)
set_option maxRecDepth 20000 in
theorem gX7_buy_X7_isTitle : GoodIn wsX7_buy (wsV RX7 105 RX7 yX7_isTitle wsX7_isTitle) := goodIn_app (goodIn_of _ (by decide +kernel)) ggX7_buy_X7_isTitle
set_option maxRecDepth 20000 in
theorem ggX7_buy_X7_in : GoodIn wsX7_buy wsX7_in := goodIn_r _ [22] (by decide +kernel) (by decide +kernel)
set_option maxRecDepth 20000 in
theorem gX7_buy_X7_in : GoodIn wsX7_buy (va_wsS RX7 92 yX7_in wsX7_in) := goodIn_app (goodIn_of _ (by decide +kernel)) ggX7_buy_X7_in
set_option maxRecDepth 20000 in
theorem ggX7_buy_X7_bargainOf : GoodIn wsX7_buy wsX7_bargainOf := goodIn_r _ [26, 27, 28, 29, 30, 31, 32, 33, 34, 35, 36, 37, 38, 39, 40, 41, 42, 43, 44, 45, 46, 47, 48, 49, 50, 51, 52, 53, 54, 55, 56, 57, 58, 59, 60, 61, 62, 63, 64, 65] (by decide +kernel) (by decide +kernel)
set_option maxRecDepth 20000 in
theorem gX7_buy_X7_bargainOf : GoodIn wsX7_buy (wsV RX7 115 RX7 yX7_bargainOf wsX7_bargainOf) := goodIn_app (goodIn_of _ (by decide +kernel)) ggX7_buy_X7_bargainOf
theorem dX7_buy_0 : decode cX7_buy 0 = .ok (.aload_n 0, 1) := by decide +kernel
theorem dX7_buy_1 : decode cX7_buy 1 = .ok (.iload_n 1, 1) := by decide +kernel
theorem dX7_buy_2 : decode cX7_buy 2 = .ok (.invokevirtual 105, 3) := by decide +kernel
theorem dX7_buy_5 : decode cX7_buy 5 = .ok (.ifCond .eq 32, 3) := by decide +kernel
theorem dX7_buy_8 : decode cX7_buy 8 = .ok (.iload_n 2, 1) := by decide +kernel
theorem dX7_buy_9 : decode cX7_buy 9 = .ok (.iconst 1, 1) := by decide +kernel
theorem dX7_buy_10 : decode cX7_buy 10 = .ok (.bipush 20, 2) := by decide +kernel
theorem dX7_buy_12 : decode cX7_buy 12 = .ok (.invokestatic 92, 3) := by decide +kernel
theorem dX7_buy_15 : decode cX7_buy 15 = .ok (.ifCond .eq 22, 3) := by decide +kernel
theorem dX7_buy_18 : decode cX7_buy 18 = .ok (.aload_n 0, 1) := by decide +kernel
theorem dX7_buy_19 : decode cX7_buy 19 = .ok (.getfield 99, 3) := by decide +kernel
theorem dX7_buy_22 : decode cX7_buy 22 = .ok (.iload_n 2, 1) := by decide +kernel
theorem dX7_buy_23 : decode cX7_buy 23 = .ok (.aload_n 0, 1) := by decide +kernel
theorem dX7_buy_24 : decode cX7_buy 24 = .ok (.getfield 9, 3) := by decide +kernel
theorem dX7_buy_27 : decode cX7_buy 27 = .ok (.iload_n 1, 1) := by decide +kernel
theorem dX7_buy_28 : decode cX7_buy 28 = .ok (.iaload, 1) := by decide +kernel
theorem dX7_buy_29 : decode cX7_buy 29 = .ok (.imul, 1) := by decide +kernel
theorem dX7_buy_30 : decode cX7_buy 30 = .ok (.iadd, 1) := by decide +kernel
theorem dX7_buy_31 : decode cX7_buy 31 = .ok (.sipush 200, 3) := by decide +kernel
theorem dX7_buy_34 : decode cX7_buy 34 = .ok (.if_icmp .le 5, 3) := by decide +kernel
theorem dX7_buy_37 : decode cX7_buy 37 = .ok (.iconst (-1), 1) := by decide +kernel
theorem dX7_buy_38 : decode cX7_buy 38 = .ok (.ireturn, 1) := by decide +kernel
theorem dX7_buy_39 : decode cX7_buy 39 = .ok (.aload_n 0, 1) := by decide +kernel
theorem dX7_buy_40 : decode cX7_buy 40 = .ok (.iload_n 1, 1) := by decide +kernel
theorem dX7_buy_41 : decode cX7_buy 41 = .ok (.invokevirtual 115, 3) := by decide +kernel
theorem dX7_buy_44 : decode cX7_buy 44 = .ok (.istore_n 3, 1) := by decide +kernel
theorem dX7_buy_45 : decode cX7_buy 45 = .ok (.iconst 0, 1) := by decide +kernel
theorem dX7_buy_46 : decode cX7_buy 46 = .ok (.istore 4, 2) := by decide +kernel
theorem dX7_buy_48 : decode cX7_buy 48 = .ok (.iconst 0, 1) := by decide +kernel
theorem dX7_buy_49 : decode cX7_buy 49 = .ok (.istore 5, 2) := by decide +kernel
theorem dX7_buy_51 : decode cX7_buy 51 = .ok (.iload 5, 2) := by decide +kernel
theorem dX7_buy_53 : decode cX7_buy 53 = .ok (.iload_n 2, 1) := by decide +kernel
theorem dX7_buy_54 : decode cX7_buy 54 = .ok (.aload_n 0, 1) := by decide +kernel
theorem dX7_buy_55 : decode cX7_buy 55 = .ok (.getfield 9, 3) := by decide +kernel
theorem dX7_buy_58 : decode cX7_buy 58 = .ok (.iload_n 1, 1) := by decide +kernel
theorem dX7_buy_59 : decode cX7_buy 59 = .ok (.iaload, 1) := by decide +kernel
theorem dX7_buy_60 : decode cX7_buy 60 = .ok (.imul, 1) := by decide +kernel
theorem dX7_buy_61 : decode cX7_buy 61 = .ok (.if_icmp .ge 138, 3) := by decide +kernel
theorem dX7_buy_64 : decode cX7_buy 64 = .ok (.iload_n 3, 1) := by decide +kernel
theorem dX7_buy_65 : decode cX7_buy 65 = .ok (.iconst (-1), 1) := by decide +kernel
theorem dX7_buy_66 : decode cX7_buy 66 = .ok (.if_icmp .ne 8, 3) := by decide +kernel
theorem dX7_buy_69 : decode cX7_buy 69 = .ok (.bipush 10, 2) := by decide +kernel
theorem dX7_buy_71 : decode cX7_buy 71 = .ok (.goto 29, 3) := by decide +kernel
theorem dX7_buy_74 : decode cX7_buy 74 = .ok (.iload 5, 2) := by decide +kernel
theorem dX7_buy_76 : decode cX7_buy 76 = .ok (.aload_n 0, 1) := by decide +kernel
theorem dX7_buy_77 : decode cX7_buy 77 = .ok (.getfield 73, 3) := by decide +kernel
theorem dX7_buy_80 : decode cX7_buy 80 = .ok (.iload_n 3, 1) := by decide +kernel
theorem dX7_buy_81 : decode cX7_buy 81 = .ok (.iaload, 1) := by decide +kernel
theorem dX7_buy_82 : decode cX7_buy 82 = .ok (.if_icmp .ge 12, 3) := by decide +kernel
theorem dX7_buy_85 : decode cX7_buy 85 = .ok (.aload_n 0, 1) := by decide +kernel
theorem dX7_buy_86 : decode cX7_buy 86 = .ok (.getfield 76, 3) := by decide +kernel
theorem dX7_buy_89 : decode cX7_buy 89 = .ok (.iload_n 3, 1) := by decide +kernel
theorem dX7_buy_90 : decode cX7_buy 90 = .ok (.iaload, 1) := by decide +kernel
theorem dX7_buy_91 : decode cX7_buy 91 = .ok (.goto 9, 3) := by decide +kernel
theorem dX7_buy_94 : decode cX7_buy 94 = .ok (.aload_n 0, 1) := by decide +kernel
theorem dX7_buy_95 : decode cX7_buy 95 = .ok (.getfield 79, 3) := by decide +kernel
theorem dX7_buy_98 : decode cX7_buy 98 = .ok (.iload_n 3, 1) := by decide +kernel
theorem dX7_buy_99 : decode cX7_buy 99 = .ok (.iaload, 1) := by decide +kernel
theorem dX7_buy_100 : decode cX7_buy 100 = .ok (.istore 6, 2) := by decide +kernel
theorem dX7_buy_102 : decode cX7_buy 102 = .ok (.aload_n 0, 1) := by decide +kernel
theorem dX7_buy_103 : decode cX7_buy 103 = .ok (.getfield 13, 3) := by decide +kernel
theorem dX7_buy_106 : decode cX7_buy 106 = .ok (.aload_n 0, 1) := by decide +kernel
theorem dX7_buy_107 : decode cX7_buy 107 = .ok (.getfield 99, 3) := by decide +kernel
theorem dX7_buy_110 : decode cX7_buy 110 = .ok (.iload_n 1, 1) := by decide +kernel
theorem dX7_buy_111 : decode cX7_buy 111 = .ok (.iastore, 1) := by decide +kernel
theorem dX7_buy_112 : decode cX7_buy 112 = .ok (.aload_n 0, 1) := by decide +kernel
theorem dX7_buy_113 : decode cX7_buy 113 = .ok (.getfield 16, 3) := by decide +kernel
theorem dX7_buy_116 : decode cX7_buy 116 = .ok (.aload_n 0, 1) := by decide +kernel
theorem dX7_buy_117 : decode cX7_buy 117 = .ok (.getfield 99, 3) := by decide +kernel
theorem dX7_buy_120 : decode cX7_buy 120 = .ok (.iload 5, 2) := by decide +kernel
theorem dX7_buy_122 : decode cX7_buy 122 = .ok (.iload_n 2, 1) := by decide +kernel
theorem dX7_buy_123 : decode cX7_buy 123 = .ok (.idiv, 1) := by decide +kernel
theorem dX7_buy_124 : decode cX7_buy 124 = .ok (.iastore, 1) := by decide +kernel
theorem dX7_buy_125 : decode cX7_buy 125 = .ok (.aload_n 0, 1) := by decide +kernel
theorem dX7_buy_126 : decode cX7_buy 126 = .ok (.getfield 19, 3) := by decide +kernel
theorem dX7_buy_129 : decode cX7_buy 129 = .ok (.aload_n 0, 1) := by decide +kernel
theorem dX7_buy_130 : decode cX7_buy 130 = .ok (.getfield 99, 3) := by decide +kernel
theorem dX7_buy_133 : decode cX7_buy 133 = .ok (.iload 6, 2) := by decide +kernel
theorem dX7_buy_135 : decode cX7_buy 135 = .ok (.iastore, 1) := by decide +kernel
theorem dX7_buy_136 : decode cX7_buy 136 = .ok (.aload_n 0, 1) := by decide +kernel
theorem dX7_buy_137 : decode cX7_buy 137 = .ok (.getfield 22, 3) := by decide +kernel
theorem dX7_buy_140 : decode cX7_buy 140 = .ok (.aload_n 0, 1) := by decide +kernel
theorem dX7_buy_141 : decode cX7_buy 141 = .ok (.getfield 99, 3) := by decide +kernel
theorem dX7_buy_144 : decode cX7_buy 144 = .ok (.iconst 0, 1) := by decide +kernel
theorem dX7_buy_145 : decode cX7_buy 145 = .ok (.iastore, 1) := by decide +kernel
theorem dX7_buy_146 : decode cX7_buy 146 = .ok (.aload_n 0, 1) := by decide +kernel
theorem dX7_buy_147 : decode cX7_buy 147 = .ok (.getfield 25, 3) := by decide +kernel
theorem dX7_buy_150 : decode cX7_buy 150 = .ok (.aload_n 0, 1) := by decide +kernel
theorem dX7_buy_151 : decode cX7_buy 151 = .ok (.getfield 99, 3) := by decide +kernel
theorem dX7_buy_154 : decode cX7_buy 154 = .ok (.iconst (-1), 1) := by decide +kernel
theorem dX7_buy_155 : decode cX7_buy 155 = .ok (.iastore, 1) := by decide +kernel
theorem dX7_buy_156 : decode cX7_buy 156 = .ok (.aload_n 0, 1) := by decide +kernel
theorem dX7_buy_157 : decode cX7_buy 157 = .ok (.getfield 28, 3) := by decide +kernel
theorem dX7_buy_160 : decode cX7_buy 160 = .ok (.aload_n 0, 1) := by decide +kernel
theorem dX7_buy_161 : decode cX7_buy 161 = .ok (.getfield 99, 3) := by decide +kernel
theorem dX7_buy_164 : decode cX7_buy 164 = .ok (.iconst (-1), 1) := by decide +kernel
theorem dX7_buy_165 : decode cX7_buy 165 = .ok (.iastore, 1) := by decide +kernel
theorem dX7_buy_166 : decode cX7_buy 166 = .ok (.aload_n 0, 1) := by decide +kernel
theorem dX7_buy_167 : decode cX7_buy 167 = .ok (.getfield 31, 3) := by decide +kernel
theorem dX7_buy_170 : decode cX7_buy 170 = .ok (.aload_n 0, 1) := by decide +kernel
theorem dX7_buy_171 : decode cX7_buy 171 = .ok (.getfield 99, 3) := by decide +kernel
theorem dX7_buy_174 : decode cX7_buy 174 = .ok (.iconst (-1), 1) := by decide +kernel
theorem dX7_buy_175 : decode cX7_buy 175 = .ok (.iastore, 1) := by decide +kernel
theorem dX7_buy_176 : decode cX7_buy 176 = .ok (.aload_n 0, 1) := by decide +kernel
theorem dX7_buy_177 : decode cX7_buy 177 = .ok (.dup, 1) := by decide +kernel
theorem dX7_buy_178 : decode cX7_buy 178 = .ok (.getfield 99, 3) := by decide +kernel
theorem dX7_buy_181 : decode cX7_buy 181 = .ok (.iconst 1, 1) := by decide +kernel
theorem dX7_buy_182 : decode cX7_buy 182 = .ok (.iadd, 1) := by decide +kernel
theorem dX7_buy_183 : decode cX7_buy 183 = .ok (.putfield 99, 3) := by decide +kernel
theorem dX7_buy_186 : decode cX7_buy 186 = .ok (.iload 4, 2) := by decide +kernel
theorem dX7_buy_188 : decode cX7_buy 188 = .ok (.iload 6, 2) := by decide +kernel
theorem dX7_buy_190 : decode cX7_buy 190 = .ok (.iadd, 1) := by decide +kernel
theorem dX7_buy_191 : decode cX7_buy 191 = .ok (.istore 4, 2) := by decide +kernel
theorem dX7_buy_193 : decode cX7_buy 193 = .ok (.iinc 5 1, 3) := by decide +kernel
theorem dX7_buy_196 : decode cX7_buy 196 = .ok (.goto (-145), 3) := by decide +kernel
theorem dX7_buy_199 : decode cX7_buy 199 = .ok (.aload_n 0, 1) := by decide +kernel
theorem dX7_buy_200 : decode cX7_buy 200 = .ok (.dup, 1) := by decide +kernel
theorem dX7_buy_201 : decode cX7_buy 201 = .ok (.getfield 119, 3) := by decide +kernel
theorem dX7_buy_204 : decode cX7_buy 204 = .ok (.iload 4, 2) := by decide +kernel
theorem dX7_buy_206 : decode cX7_buy 206 = .ok (.iadd, 1) := by decide +kernel
theorem dX7_buy_207 : decode cX7_buy 207 = .ok (.putfield 119, 3) := by decide +kernel
theorem dX7_buy_210 : decode cX7_buy 210 = .ok (.iload 4, 2) := by decide +kernel
theorem dX7_buy_212 : decode cX7_buy 212 = .ok (.ireturn, 1) := by decide +kernel
set_option maxRecDepth 20000 in
theorem ggX7_sell_X7_isCopy : GoodIn wsX7_sell wsX7_isCopy := goodIn_r _ [7, 8, 9, 10, 6, 11, 12, 13, 14, 15, 16, 17, 18, 19, 20, 21, 22, 23, 24, 25, 26, 27, 28, 29, 30, 31, 32, 33, 34, 35, 36, 37, 38, 39, 40, 41, 42, 43, 44, 45, 46] (by decide +kernel) (by decide +kernel)
set_option maxRecDepth 20000 in
theorem gX7_sell_X7_isCopy : GoodIn wsX7_sell (wsV RX7 122 RX7 yX7_isCopy wsX7_isCopy) := goodIn_app (goodIn_of _ (by decide +kernel)) ggX7_sell_X7_isCopy
set_option maxRecDepth 20000 in
theorem ggX7_sell_X7_in : GoodIn wsX7_sell wsX7_in := goodIn_r _ [11] (by decide +kernel) (by decide +kernel)
set_option maxRecDepth 20000 in
theorem gX7_sell_X7_in : GoodIn wsX7_sell (va_wsS RX7 92 yX7_in wsX7_in) := goodIn_app (goodIn_of _ (by decide +kernel)) ggX7_sell_X7_in
theorem dX7_sell_0 : decode cX7_sell 0 = .ok (.aload_n 0, 1) := by decide +kernel
theorem dX7_sell_1 : decode cX7_sell 1 = .ok (.iload_n 1, 1) := by decide +kernel
theorem dX7_sell_2 : decode cX7_sell 2 = .ok (.invokevirtual 122, 3) := by decide +kernel
theorem dX7_sell_5 : decode cX7_sell 5 = .ok (.ifCond .eq 23, 3) := by decide +kernel
theorem dX7_sell_8 : decode cX7_sell 8 = .ok (.aload_n 0, 1) := by decide +kernel
theorem dX7_sell_9 : decode cX7_sell 9 = .ok (.getfield 22, 3) := by decide +kernel
theorem dX7_sell_12 : decode cX7_sell 12 = .ok (.iload_n 1, 1) := by decide +kernel
theorem dX7_sell_13 : decode cX7_sell 13 = .ok (.iaload, 1) := by decide +kernel
theorem dX7_sell_14 : decode cX7_sell 14 = .ok (.ifCond .ne 14, 3) := by decide +kernel
theorem dX7_sell_17 : decode cX7_sell 17 = .ok (.iload_n 2, 1) := by decide +kernel
theorem dX7_sell_18 : decode cX7_sell 18 = .ok (.iconst 0, 1) := by decide +kernel
theorem dX7_sell_19 : decode cX7_sell 19 = .ok (.sipush 1000, 3) := by decide +kernel
theorem dX7_sell_22 : decode cX7_sell 22 = .ok (.invokestatic 92, 3) := by decide +kernel
theorem dX7_sell_25 : decode cX7_sell 25 = .ok (.ifCond .ne 5, 3) := by decide +kernel
theorem dX7_sell_28 : decode cX7_sell 28 = .ok (.iconst 0, 1) := by decide +kernel
theorem dX7_sell_29 : decode cX7_sell 29 = .ok (.ireturn, 1) := by decide +kernel
theorem dX7_sell_30 : decode cX7_sell 30 = .ok (.aload_n 0, 1) := by decide +kernel
theorem dX7_sell_31 : decode cX7_sell 31 = .ok (.getfield 22, 3) := by decide +kernel
theorem dX7_sell_34 : decode cX7_sell 34 = .ok (.iload_n 1, 1) := by decide +kernel
theorem dX7_sell_35 : decode cX7_sell 35 = .ok (.iconst 4, 1) := by decide +kernel
theorem dX7_sell_36 : decode cX7_sell 36 = .ok (.iastore, 1) := by decide +kernel
theorem dX7_sell_37 : decode cX7_sell 37 = .ok (.aload_n 0, 1) := by decide +kernel
theorem dX7_sell_38 : decode cX7_sell 38 = .ok (.dup, 1) := by decide +kernel
theorem dX7_sell_39 : decode cX7_sell 39 = .ok (.getfield 125, 3) := by decide +kernel
theorem dX7_sell_42 : decode cX7_sell 42 = .ok (.iload_n 2, 1) := by decide +kernel
theorem dX7_sell_43 : decode cX7_sell 43 = .ok (.iadd, 1) := by decide +kernel
theorem dX7_sell_44 : decode cX7_sell 44 = .ok (.putfield 125, 3) := by decide +kernel
theorem dX7_sell_47 : decode cX7_sell 47 = .ok (.iconst 1, 1) := by decide +kernel
theorem dX7_sell_48 : decode cX7_sell 48 = .ok (.ireturn, 1) := by decide +kernel
set_option maxRecDepth 20000 in
theorem ggX7_reader_X7_in : GoodIn wsX7_reader wsX7_in := goodIn_r _ [8] (by decide +kernel) (by decide +kernel)
set_option maxRecDepth 20000 in
theorem gX7_reader_X7_in : GoodIn wsX7_reader (va_wsS RX7 92 yX7_in wsX7_in) := goodIn_app (goodIn_of _ (by decide +kernel)) ggX7_reader_X7_in
theorem dX7_reader_0 : decode cX7_reader 0 = .ok (.iload_n 1, 1) := by decide +kernel
theorem dX7_reader_1 : decode cX7_reader 1 = .ok (.iconst 0, 1) := by decide +kernel
theorem dX7_reader_2 : decode cX7_reader 2 = .ok (.iconst 2, 1) := by decide +kernel
theorem dX7_reader_3 : decode cX7_reader 3 = .ok (.invokestatic 92, 3) := by decide +kernel
theorem dX7_reader_6 : decode cX7_reader 6 = .ok (.ifCond .eq 33, 3) := by decide +kernel
theorem dX7_reader_9 : decode cX7_reader 9 = .ok (.iload_n 2, 1) := by decide +kernel
theorem dX7_reader_10 : decode cX7_reader 10 = .ok (.iconst 0, 1) := by decide +kernel
theorem dX7_reader_11 : decode cX7_reader 11 = .ok (.bipush 9, 2) := by decide +kernel
theorem dX7_reader_13 : decode cX7_reader 13 = .ok (.invokestatic 92, 3) := by decide +kernel
theorem dX7_reader_16 : decode cX7_reader 16 = .ok (.ifCond .eq 23, 3) := by decide +kernel
theorem dX7_reader_19 : decode cX7_reader 19 = .ok (.iload_n 3, 1) := by decide +kernel
theorem dX7_reader_20 : decode cX7_reader 20 = .ok (.iconst 0, 1) := by decide +kernel
theorem dX7_reader_21 : decode cX7_reader 21 = .ok (.sipush 5000, 3) := by decide +kernel
theorem dX7_reader_24 : decode cX7_reader 24 = .ok (.invokestatic 92, 3) := by decide +kernel
theorem dX7_reader_27 : decode cX7_reader 27 = .ok (.ifCond .eq 12, 3) := by decide +kernel
theorem dX7_reader_30 : decode cX7_reader 30 = .ok (.aload_n 0, 1) := by decide +kernel
theorem dX7_reader_31 : decode cX7_reader 31 = .ok (.getfield 96, 3) := by decide +kernel
theorem dX7_reader_34 : decode cX7_reader 34 = .ok (.bipush 20, 2) := by decide +kernel
theorem dX7_reader_36 : decode cX7_reader 36 = .ok (.if_icmp .ne 5, 3) := by decide +kernel
theorem dX7_reader_39 : decode cX7_reader 39 = .ok (.iconst (-1), 1) := by decide +kernel
theorem dX7_reader_40 : decode cX7_reader 40 = .ok (.ireturn, 1) := by decide +kernel
theorem dX7_reader_41 : decode cX7_reader 41 = .ok (.aload_n 0, 1) := by decide +kernel
theorem dX7_reader_42 : decode cX7_reader 42 = .ok (.getfield 40, 3) := by decide +kernel
theorem dX7_reader_45 : decode cX7_reader 45 = .ok (.aload_n 0, 1) := by decide +kernel
theorem dX7_reader_46 : decode cX7_reader 46 = .ok (.getfield 96, 3) := by decide +kernel
theorem dX7_reader_49 : decode cX7_reader 49 = .ok (.iload_n 1, 1) := by decide +kernel
theorem dX7_reader_50 : decode cX7_reader 50 = .ok (.iastore, 1) := by decide +kernel
theorem dX7_reader_51 : decode cX7_reader 51 = .ok (.aload_n 0, 1) := by decide +kernel
theorem dX7_reader_52 : decode cX7_reader 52 = .ok (.getfield 43, 3) := by decide +kernel
theorem dX7_reader_55 : decode cX7_reader 55 = .ok (.aload_n 0, 1) := by decide +kernel
theorem dX7_reader_56 : decode cX7_reader 56 = .ok (.getfield 96, 3) := by decide +kernel
theorem dX7_reader_59 : decode cX7_reader 59 = .ok (.iload_n 2, 1) := by decide +kernel
theorem dX7_reader_60 : decode cX7_reader 60 = .ok (.iastore, 1) := by decide +kernel
theorem dX7_reader_61 : decode cX7_reader 61 = .ok (.aload_n 0, 1) := by decide +kernel
theorem dX7_reader_62 : decode cX7_reader 62 = .ok (.getfield 46, 3) := by decide +kernel
theorem dX7_reader_65 : decode cX7_reader 65 = .ok (.aload_n 0, 1) := by decide +kernel
theorem dX7_reader_66 : decode cX7_reader 66 = .ok (.getfield 96, 3) := by decide +kernel
theorem dX7_reader_69 : decode cX7_reader 69 = .ok (.iload_n 3, 1) := by decide +kernel
theorem dX7_reader_70 : decode cX7_reader 70 = .ok (.iastore, 1) := by decide +kernel
theorem dX7_reader_71 : decode cX7_reader 71 = .ok (.aload_n 0, 1) := by decide +kernel
theorem dX7_reader_72 : decode cX7_reader 72 = .ok (.dup, 1) := by decide +kernel
theorem dX7_reader_73 : decode cX7_reader 73 = .ok (.getfield 96, 3) := by decide +kernel
theorem dX7_reader_76 : decode cX7_reader 76 = .ok (.iconst 1, 1) := by decide +kernel
theorem dX7_reader_77 : decode cX7_reader 77 = .ok (.iadd, 1) := by decide +kernel
theorem dX7_reader_78 : decode cX7_reader 78 = .ok (.putfield 96, 3) := by decide +kernel
theorem dX7_reader_81 : decode cX7_reader 81 = .ok (.aload_n 0, 1) := by decide +kernel
theorem dX7_reader_82 : decode cX7_reader 82 = .ok (.getfield 96, 3) := by decide +kernel
theorem dX7_reader_85 : decode cX7_reader 85 = .ok (.iconst 1, 1) := by decide +kernel
theorem dX7_reader_86 : decode cX7_reader 86 = .ok (.isub, 1) := by decide +kernel
theorem dX7_reader_87 : decode cX7_reader 87 = .ok (.ireturn, 1) := by decide +kernel
