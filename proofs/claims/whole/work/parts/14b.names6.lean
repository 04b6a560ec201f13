set_option maxRecDepth 20000 in
theorem ggX6_lose_X1_has : GoodIn wsX6_lose wsX1_has := goodIn_r _ [6, 7, 111, 112, 113, 114, 115, 116, 117, 118, 119, 120, 121, 122, 123] (by decide +kernel) (by decide +kernel)
set_option maxRecDepth 20000 in
theorem gX6_lose_X1_has_n168 : GoodIn wsX6_lose (wsX1_has) := ggX6_lose_X1_has
set_option maxRecDepth 20000 in
theorem ggX6_lose_X1_isAt : GoodIn wsX6_lose wsX1_isAt := goodIn_r _ [10, 11, 12, 3, 5, 4, 6, 7, 111, 112, 113, 114, 115, 116, 117, 118, 119, 120, 121, 122, 123] (by decide +kernel) (by decide +kernel)
set_option maxRecDepth 20000 in
theorem gX6_lose_X1_isAt_n97 : GoodIn wsX6_lose (wsX1_isAt) := ggX6_lose_X1_isAt
set_option maxRecDepth 20000 in
theorem ggX6_lose_X3_has : GoodIn wsX6_lose wsX3_has := goodIn_r _ [16, 17, 124, 125, 126, 127, 128, 129, 130] (by decide +kernel) (by decide +kernel)
set_option maxRecDepth 20000 in
theorem gX6_lose_X3_has_n109 : GoodIn wsX6_lose (wsX3_has) := ggX6_lose_X3_has
set_option maxRecDepth 20000 in
theorem ggX6_lose_X6_lateCost : GoodIn wsX6_lose wsX6_lateCost := goodIn_r _ [22, 1, 2, 23, 8, 4, 9, 10, 11, 12, 3, 5, 6, 7, 24, 14, 25, 26, 27, 28, 29, 30, 31, 32, 33, 34, 35, 36, 13, 15, 16, 17, 101, 102, 103, 104, 105, 106, 107, 108, 109, 110, 111, 112, 113, 114, 115, 116, 117, 118, 119, 120, 121, 122, 123, 124, 125, 126, 127, 128, 129, 130] (by decide +kernel) (by decide +kernel)
set_option maxRecDepth 20000 in
theorem gX6_lose_X6_lateCost : GoodIn wsX6_lose (wsV RX6 140 RX6 yX6_lateCost wsX6_lateCost) := goodIn_app (goodIn_of _ (by decide +kernel)) ggX6_lose_X6_lateCost
set_option maxRecDepth 20000 in
theorem ggX6_lose_X6_countAsHad : GoodIn wsX6_lose wsX6_countAsHad := goodIn_r _ [40, 41, 42, 23, 43, 44, 45, 46, 47, 48, 49, 50, 51, 52, 53, 54, 55, 56, 57, 58, 59, 60, 61, 62, 63, 64, 101, 102, 103, 104, 105, 106, 107, 108, 109, 110, 131, 132, 133, 134, 135, 136, 137, 138, 139] (by decide +kernel) (by decide +kernel)
set_option maxRecDepth 20000 in
theorem gX6_lose_X6_countAsHad : GoodIn wsX6_lose (wsV RX6 149 RX6 yX6_countAsHad wsX6_countAsHad) := goodIn_app (goodIn_of _ (by decide +kernel)) ggX6_lose_X6_countAsHad
set_option maxRecDepth 20000 in
theorem ggX6_lose_X6_takeFrom : GoodIn wsX6_lose wsX6_takeFrom := goodIn_r _ [68, 1, 2, 8, 4, 9, 10, 11, 12, 3, 5, 6, 7, 101, 102, 103, 104, 105, 106, 107, 108, 109, 110, 124, 125, 126, 127, 128, 129, 130, 111, 112, 113, 114, 115, 116, 117, 118, 119, 120, 121, 122, 123] (by decide +kernel) (by decide +kernel)
set_option maxRecDepth 20000 in
theorem gX6_lose_X6_takeFrom : GoodIn wsX6_lose (wsV RX6 172 RX6 yX6_takeFrom wsX6_takeFrom) := goodIn_app (goodIn_of _ (by decide +kernel)) ggX6_lose_X6_takeFrom
set_option maxRecDepth 20000 in
theorem ggX6_lose_X1_leaveFor : GoodIn wsX6_lose wsX1_leaveFor := goodIn_r _ [71, 72, 73, 74, 4, 75, 11, 76, 77, 78, 79, 80, 81, 82, 83, 84, 85, 86, 87, 88, 89, 90, 91, 92, 93, 94, 95, 96, 97, 98, 99, 100, 111, 112, 113, 114, 115, 116, 117, 118, 119, 120, 121, 122, 123] (by decide +kernel) (by decide +kernel)
set_option maxRecDepth 20000 in
theorem gX6_lose_X1_leaveFor_n101 : GoodIn wsX6_lose (wsX1_leaveFor) := ggX6_lose_X1_leaveFor
theorem dX6_lose_0 : decode cX6_lose 0 = .ok (.aload_n 0, 1) := by decide +kernel
theorem dX6_lose_1 : decode cX6_lose 1 = .ok (.getfield 26, 3) := by decide +kernel
theorem dX6_lose_4 : decode cX6_lose 4 = .ok (.iload_n 1, 1) := by decide +kernel
theorem dX6_lose_5 : decode cX6_lose 5 = .ok (.invokevirtual 168, 3) := by decide +kernel
theorem dX6_lose_8 : decode cX6_lose 8 = .ok (.ifCond .eq 27, 3) := by decide +kernel
theorem dX6_lose_11 : decode cX6_lose 11 = .ok (.aload_n 0, 1) := by decide +kernel
theorem dX6_lose_12 : decode cX6_lose 12 = .ok (.getfield 26, 3) := by decide +kernel
theorem dX6_lose_15 : decode cX6_lose 15 = .ok (.iload_n 1, 1) := by decide +kernel
theorem dX6_lose_16 : decode cX6_lose 16 = .ok (.iconst 4, 1) := by decide +kernel
theorem dX6_lose_17 : decode cX6_lose 17 = .ok (.invokevirtual 97, 3) := by decide +kernel
theorem dX6_lose_20 : decode cX6_lose 20 = .ok (.ifCond .ne 15, 3) := by decide +kernel
theorem dX6_lose_23 : decode cX6_lose 23 = .ok (.aload_n 0, 1) := by decide +kernel
theorem dX6_lose_24 : decode cX6_lose 24 = .ok (.getfield 26, 3) := by decide +kernel
theorem dX6_lose_27 : decode cX6_lose 27 = .ok (.iload_n 1, 1) := by decide +kernel
theorem dX6_lose_28 : decode cX6_lose 28 = .ok (.iconst 5, 1) := by decide +kernel
theorem dX6_lose_29 : decode cX6_lose 29 = .ok (.invokevirtual 97, 3) := by decide +kernel
theorem dX6_lose_32 : decode cX6_lose 32 = .ok (.ifCond .eq 5, 3) := by decide +kernel
theorem dX6_lose_35 : decode cX6_lose 35 = .ok (.iconst (-1), 1) := by decide +kernel
theorem dX6_lose_36 : decode cX6_lose 36 = .ok (.ireturn, 1) := by decide +kernel
theorem dX6_lose_37 : decode cX6_lose 37 = .ok (.iconst 0, 1) := by decide +kernel
theorem dX6_lose_38 : decode cX6_lose 38 = .ok (.istore_n 2, 1) := by decide +kernel
theorem dX6_lose_39 : decode cX6_lose 39 = .ok (.aload_n 0, 1) := by decide +kernel
theorem dX6_lose_40 : decode cX6_lose 40 = .ok (.getfield 26, 3) := by decide +kernel
theorem dX6_lose_43 : decode cX6_lose 43 = .ok (.getfield 137, 3) := by decide +kernel
theorem dX6_lose_46 : decode cX6_lose 46 = .ok (.iload_n 1, 1) := by decide +kernel
theorem dX6_lose_47 : decode cX6_lose 47 = .ok (.iaload, 1) := by decide +kernel
theorem dX6_lose_48 : decode cX6_lose 48 = .ok (.istore_n 3, 1) := by decide +kernel
theorem dX6_lose_49 : decode cX6_lose 49 = .ok (.aload_n 0, 1) := by decide +kernel
theorem dX6_lose_50 : decode cX6_lose 50 = .ok (.getfield 33, 3) := by decide +kernel
theorem dX6_lose_53 : decode cX6_lose 53 = .ok (.iload_n 3, 1) := by decide +kernel
theorem dX6_lose_54 : decode cX6_lose 54 = .ok (.invokevirtual 109, 3) := by decide +kernel
theorem dX6_lose_57 : decode cX6_lose 57 = .ok (.ifCond .eq 52, 3) := by decide +kernel
theorem dX6_lose_60 : decode cX6_lose 60 = .ok (.aload_n 0, 1) := by decide +kernel
theorem dX6_lose_61 : decode cX6_lose 61 = .ok (.getfield 26, 3) := by decide +kernel
theorem dX6_lose_64 : decode cX6_lose 64 = .ok (.getfield 169, 3) := by decide +kernel
theorem dX6_lose_67 : decode cX6_lose 67 = .ok (.iload_n 1, 1) := by decide +kernel
theorem dX6_lose_68 : decode cX6_lose 68 = .ok (.iaload, 1) := by decide +kernel
theorem dX6_lose_69 : decode cX6_lose 69 = .ok (.aload_n 0, 1) := by decide +kernel
theorem dX6_lose_70 : decode cX6_lose 70 = .ok (.iload_n 1, 1) := by decide +kernel
theorem dX6_lose_71 : decode cX6_lose 71 = .ok (.iload_n 3, 1) := by decide +kernel
theorem dX6_lose_72 : decode cX6_lose 72 = .ok (.invokevirtual 140, 3) := by decide +kernel
theorem dX6_lose_75 : decode cX6_lose 75 = .ok (.iadd, 1) := by decide +kernel
theorem dX6_lose_76 : decode cX6_lose 76 = .ok (.istore_n 2, 1) := by decide +kernel
theorem dX6_lose_77 : decode cX6_lose 77 = .ok (.aload_n 0, 1) := by decide +kernel
theorem dX6_lose_78 : decode cX6_lose 78 = .ok (.getfield 33, 3) := by decide +kernel
theorem dX6_lose_81 : decode cX6_lose 81 = .ok (.getfield 143, 3) := by decide +kernel
theorem dX6_lose_84 : decode cX6_lose 84 = .ok (.iload_n 3, 1) := by decide +kernel
theorem dX6_lose_85 : decode cX6_lose 85 = .ok (.dup2, 1) := by decide +kernel
theorem dX6_lose_86 : decode cX6_lose 86 = .ok (.iaload, 1) := by decide +kernel
theorem dX6_lose_87 : decode cX6_lose 87 = .ok (.iload_n 2, 1) := by decide +kernel
theorem dX6_lose_88 : decode cX6_lose 88 = .ok (.iadd, 1) := by decide +kernel
theorem dX6_lose_89 : decode cX6_lose 89 = .ok (.iastore, 1) := by decide +kernel
theorem dX6_lose_90 : decode cX6_lose 90 = .ok (.aload_n 0, 1) := by decide +kernel
theorem dX6_lose_91 : decode cX6_lose 91 = .ok (.aload_n 0, 1) := by decide +kernel
theorem dX6_lose_92 : decode cX6_lose 92 = .ok (.getfield 26, 3) := by decide +kernel
theorem dX6_lose_95 : decode cX6_lose 95 = .ok (.getfield 146, 3) := by decide +kernel
theorem dX6_lose_98 : decode cX6_lose 98 = .ok (.iload_n 1, 1) := by decide +kernel
theorem dX6_lose_99 : decode cX6_lose 99 = .ok (.iaload, 1) := by decide +kernel
theorem dX6_lose_100 : decode cX6_lose 100 = .ok (.invokevirtual 149, 3) := by decide +kernel
theorem dX6_lose_103 : decode cX6_lose 103 = .ok (.aload_n 0, 1) := by decide +kernel
theorem dX6_lose_104 : decode cX6_lose 104 = .ok (.iload_n 3, 1) := by decide +kernel
theorem dX6_lose_105 : decode cX6_lose 105 = .ok (.iload_n 1, 1) := by decide +kernel
theorem dX6_lose_106 : decode cX6_lose 106 = .ok (.invokevirtual 172, 3) := by decide +kernel
theorem dX6_lose_109 : decode cX6_lose 109 = .ok (.aload_n 0, 1) := by decide +kernel
theorem dX6_lose_110 : decode cX6_lose 110 = .ok (.getfield 26, 3) := by decide +kernel
theorem dX6_lose_113 : decode cX6_lose 113 = .ok (.iload_n 1, 1) := by decide +kernel
theorem dX6_lose_114 : decode cX6_lose 114 = .ok (.iconst 5, 1) := by decide +kernel
theorem dX6_lose_115 : decode cX6_lose 115 = .ok (.invokevirtual 101, 3) := by decide +kernel
theorem dX6_lose_118 : decode cX6_lose 118 = .ok (.iload_n 2, 1) := by decide +kernel
theorem dX6_lose_119 : decode cX6_lose 119 = .ok (.ireturn, 1) := by decide +kernel
set_option maxRecDepth 20000 in
theorem ggX6_pay_X3_has : GoodIn wsX6_pay wsX3_has := goodIn_r _ [6, 7, 22, 23, 24, 25, 26, 27, 28] (by decide +kernel) (by decide +kernel)
set_option maxRecDepth 20000 in
theorem gX6_pay_X3_has_n109 : GoodIn wsX6_pay (wsX3_has) := ggX6_pay_X3_has
set_option maxRecDepth 20000 in
theorem ggX6_pay_X6_within : GoodIn wsX6_pay wsX6_within := goodIn_r _ [11] (by decide +kernel) (by decide +kernel)
set_option maxRecDepth 20000 in
theorem gX6_pay_X6_within : GoodIn wsX6_pay (va_wsS RX6 64 yX6_within wsX6_within) := goodIn_app (goodIn_of _ (by decide +kernel)) ggX6_pay_X6_within
theorem dX6_pay_0 : decode cX6_pay 0 = .ok (.aload_n 0, 1) := by decide +kernel
theorem dX6_pay_1 : decode cX6_pay 1 = .ok (.getfield 33, 3) := by decide +kernel
theorem dX6_pay_4 : decode cX6_pay 4 = .ok (.iload_n 1, 1) := by decide +kernel
theorem dX6_pay_5 : decode cX6_pay 5 = .ok (.invokevirtual 109, 3) := by decide +kernel
theorem dX6_pay_8 : decode cX6_pay 8 = .ok (.ifCond .eq 20, 3) := by decide +kernel
theorem dX6_pay_11 : decode cX6_pay 11 = .ok (.iload_n 2, 1) := by decide +kernel
theorem dX6_pay_12 : decode cX6_pay 12 = .ok (.iconst 1, 1) := by decide +kernel
theorem dX6_pay_13 : decode cX6_pay 13 = .ok (.aload_n 0, 1) := by decide +kernel
theorem dX6_pay_14 : decode cX6_pay 14 = .ok (.getfield 33, 3) := by decide +kernel
theorem dX6_pay_17 : decode cX6_pay 17 = .ok (.getfield 143, 3) := by decide +kernel
theorem dX6_pay_20 : decode cX6_pay 20 = .ok (.iload_n 1, 1) := by decide +kernel
theorem dX6_pay_21 : decode cX6_pay 21 = .ok (.iaload, 1) := by decide +kernel
theorem dX6_pay_22 : decode cX6_pay 22 = .ok (.invokestatic 64, 3) := by decide +kernel
theorem dX6_pay_25 : decode cX6_pay 25 = .ok (.ifCond .ne 5, 3) := by decide +kernel
theorem dX6_pay_28 : decode cX6_pay 28 = .ok (.iconst (-1), 1) := by decide +kernel
theorem dX6_pay_29 : decode cX6_pay 29 = .ok (.ireturn, 1) := by decide +kernel
theorem dX6_pay_30 : decode cX6_pay 30 = .ok (.aload_n 0, 1) := by decide +kernel
theorem dX6_pay_31 : decode cX6_pay 31 = .ok (.getfield 33, 3) := by decide +kernel
theorem dX6_pay_34 : decode cX6_pay 34 = .ok (.getfield 143, 3) := by decide +kernel
theorem dX6_pay_37 : decode cX6_pay 37 = .ok (.iload_n 1, 1) := by decide +kernel
theorem dX6_pay_38 : decode cX6_pay 38 = .ok (.dup2, 1) := by decide +kernel
theorem dX6_pay_39 : decode cX6_pay 39 = .ok (.iaload, 1) := by decide +kernel
theorem dX6_pay_40 : decode cX6_pay 40 = .ok (.iload_n 2, 1) := by decide +kernel
theorem dX6_pay_41 : decode cX6_pay 41 = .ok (.isub, 1) := by decide +kernel
theorem dX6_pay_42 : decode cX6_pay 42 = .ok (.iastore, 1) := by decide +kernel
theorem dX6_pay_43 : decode cX6_pay 43 = .ok (.aload_n 0, 1) := by decide +kernel
theorem dX6_pay_44 : decode cX6_pay 44 = .ok (.dup, 1) := by decide +kernel
theorem dX6_pay_45 : decode cX6_pay 45 = .ok (.getfield 61, 3) := by decide +kernel
theorem dX6_pay_48 : decode cX6_pay 48 = .ok (.iload_n 2, 1) := by decide +kernel
theorem dX6_pay_49 : decode cX6_pay 49 = .ok (.iadd, 1) := by decide +kernel
theorem dX6_pay_50 : decode cX6_pay 50 = .ok (.putfield 61, 3) := by decide +kernel
theorem dX6_pay_53 : decode cX6_pay 53 = .ok (.aload_n 0, 1) := by decide +kernel
theorem dX6_pay_54 : decode cX6_pay 54 = .ok (.getfield 33, 3) := by decide +kernel
theorem dX6_pay_57 : decode cX6_pay 57 = .ok (.getfield 143, 3) := by decide +kernel
theorem dX6_pay_60 : decode cX6_pay 60 = .ok (.iload_n 1, 1) := by decide +kernel
theorem dX6_pay_61 : decode cX6_pay 61 = .ok (.iaload, 1) := by decide +kernel
theorem dX6_pay_62 : decode cX6_pay 62 = .ok (.ireturn, 1) := by decide +kernel
set_option maxRecDepth 20000 in
theorem ggX6_copy_X1_has : GoodIn wsX6_copy wsX1_has := goodIn_r _ [5, 6, 17, 18, 19, 20, 21, 22, 23, 24, 25, 26, 27, 28, 29] (by decide +kernel) (by decide +kernel)
set_option maxRecDepth 20000 in
theorem gX6_copy_X1_has_n168 : GoodIn wsX6_copy (wsX1_has) := ggX6_copy_X1_has
theorem dX6_copy_0 : decode cX6_copy 0 = .ok (.aload_n 0, 1) := by decide +kernel
theorem dX6_copy_1 : decode cX6_copy 1 = .ok (.getfield 26, 3) := by decide +kernel
theorem dX6_copy_4 : decode cX6_copy 4 = .ok (.iload_n 1, 1) := by decide +kernel
theorem dX6_copy_5 : decode cX6_copy 5 = .ok (.invokevirtual 168, 3) := by decide +kernel
theorem dX6_copy_8 : decode cX6_copy 8 = .ok (.ifCond .ne 5, 3) := by decide +kernel
theorem dX6_copy_11 : decode cX6_copy 11 = .ok (.iconst (-1), 1) := by decide +kernel
theorem dX6_copy_12 : decode cX6_copy 12 = .ok (.ireturn, 1) := by decide +kernel
theorem dX6_copy_13 : decode cX6_copy 13 = .ok (.iload_n 2, 1) := by decide +kernel
theorem dX6_copy_14 : decode cX6_copy 14 = .ok (.tableswitch 126 0 7 #[46, 56, 66, 76, 86, 96, 106, 116], 46) := by decide +kernel
theorem dX6_copy_60 : decode cX6_copy 60 = .ok (.aload_n 0, 1) := by decide +kernel
theorem dX6_copy_61 : decode cX6_copy 61 = .ok (.getfield 26, 3) := by decide +kernel
theorem dX6_copy_64 : decode cX6_copy 64 = .ok (.getfield 175, 3) := by decide +kernel
theorem dX6_copy_67 : decode cX6_copy 67 = .ok (.iload_n 1, 1) := by decide +kernel
theorem dX6_copy_68 : decode cX6_copy 68 = .ok (.iaload, 1) := by decide +kernel
theorem dX6_copy_69 : decode cX6_copy 69 = .ok (.ireturn, 1) := by decide +kernel
theorem dX6_copy_70 : decode cX6_copy 70 = .ok (.aload_n 0, 1) := by decide +kernel
theorem dX6_copy_71 : decode cX6_copy 71 = .ok (.getfield 26, 3) := by decide +kernel
theorem dX6_copy_74 : decode cX6_copy 74 = .ok (.getfield 178, 3) := by decide +kernel
theorem dX6_copy_77 : decode cX6_copy 77 = .ok (.iload_n 1, 1) := by decide +kernel
theorem dX6_copy_78 : decode cX6_copy 78 = .ok (.iaload, 1) := by decide +kernel
theorem dX6_copy_79 : decode cX6_copy 79 = .ok (.ireturn, 1) := by decide +kernel
theorem dX6_copy_80 : decode cX6_copy 80 = .ok (.aload_n 0, 1) := by decide +kernel
theorem dX6_copy_81 : decode cX6_copy 81 = .ok (.getfield 26, 3) := by decide +kernel
theorem dX6_copy_84 : decode cX6_copy 84 = .ok (.getfield 181, 3) := by decide +kernel
theorem dX6_copy_87 : decode cX6_copy 87 = .ok (.iload_n 1, 1) := by decide +kernel
theorem dX6_copy_88 : decode cX6_copy 88 = .ok (.iaload, 1) := by decide +kernel
theorem dX6_copy_89 : decode cX6_copy 89 = .ok (.ireturn, 1) := by decide +kernel
theorem dX6_copy_90 : decode cX6_copy 90 = .ok (.aload_n 0, 1) := by decide +kernel
theorem dX6_copy_91 : decode cX6_copy 91 = .ok (.getfield 26, 3) := by decide +kernel
theorem dX6_copy_94 : decode cX6_copy 94 = .ok (.getfield 169, 3) := by decide +kernel
theorem dX6_copy_97 : decode cX6_copy 97 = .ok (.iload_n 1, 1) := by decide +kernel
theorem dX6_copy_98 : decode cX6_copy 98 = .ok (.iaload, 1) := by decide +kernel
theorem dX6_copy_99 : decode cX6_copy 99 = .ok (.ireturn, 1) := by decide +kernel
theorem dX6_copy_100 : decode cX6_copy 100 = .ok (.aload_n 0, 1) := by decide +kernel
theorem dX6_copy_101 : decode cX6_copy 101 = .ok (.getfield 26, 3) := by decide +kernel
theorem dX6_copy_104 : decode cX6_copy 104 = .ok (.getfield 137, 3) := by decide +kernel
theorem dX6_copy_107 : decode cX6_copy 107 = .ok (.iload_n 1, 1) := by decide +kernel
theorem dX6_copy_108 : decode cX6_copy 108 = .ok (.iaload, 1) := by decide +kernel
theorem dX6_copy_109 : decode cX6_copy 109 = .ok (.ireturn, 1) := by decide +kernel
theorem dX6_copy_110 : decode cX6_copy 110 = .ok (.aload_n 0, 1) := by decide +kernel
theorem dX6_copy_111 : decode cX6_copy 111 = .ok (.getfield 26, 3) := by decide +kernel
theorem dX6_copy_114 : decode cX6_copy 114 = .ok (.getfield 184, 3) := by decide +kernel
theorem dX6_copy_117 : decode cX6_copy 117 = .ok (.iload_n 1, 1) := by decide +kernel
theorem dX6_copy_118 : decode cX6_copy 118 = .ok (.iaload, 1) := by decide +kernel
theorem dX6_copy_119 : decode cX6_copy 119 = .ok (.ireturn, 1) := by decide +kernel
theorem dX6_copy_120 : decode cX6_copy 120 = .ok (.aload_n 0, 1) := by decide +kernel
theorem dX6_copy_121 : decode cX6_copy 121 = .ok (.getfield 26, 3) := by decide +kernel
theorem dX6_copy_124 : decode cX6_copy 124 = .ok (.getfield 187, 3) := by decide +kernel
theorem dX6_copy_127 : decode cX6_copy 127 = .ok (.iload_n 1, 1) := by decide +kernel
theorem dX6_copy_128 : decode cX6_copy 128 = .ok (.iaload, 1) := by decide +kernel
theorem dX6_copy_129 : decode cX6_copy 129 = .ok (.ireturn, 1) := by decide +kernel
theorem dX6_copy_130 : decode cX6_copy 130 = .ok (.aload_n 0, 1) := by decide +kernel
theorem dX6_copy_131 : decode cX6_copy 131 = .ok (.getfield 26, 3) := by decide +kernel
theorem dX6_copy_134 : decode cX6_copy 134 = .ok (.getfield 190, 3) := by decide +kernel
theorem dX6_copy_137 : decode cX6_copy 137 = .ok (.iload_n 1, 1) := by decide +kernel
theorem dX6_copy_138 : decode cX6_copy 138 = .ok (.iaload, 1) := by decide +kernel
theorem dX6_copy_139 : decode cX6_copy 139 = .ok (.ireturn, 1) := by decide +kernel
theorem dX6_copy_140 : decode cX6_copy 140 = .ok (.iconst (-1), 1) := by decide +kernel
theorem dX6_copy_141 : decode cX6_copy 141 = .ok (.ireturn, 1) := by decide +kernel
set_option maxRecDepth 20000 in
theorem ggX6_told_X3_has : GoodIn wsX6_told wsX3_has := goodIn_r _ [6, 7, 25, 26, 27, 28, 29, 30, 31] (by decide +kernel) (by decide +kernel)
set_option maxRecDepth 20000 in
theorem gX6_told_X3_has_n109 : GoodIn wsX6_told (wsX3_has) := ggX6_told_X3_has
set_option maxRecDepth 20000 in
theorem ggX6_told_X5_openOf : GoodIn wsX6_told wsX5_openOf := goodIn_r _ [11, 12, 13, 14, 32, 33, 34, 35, 36, 37, 38] (by decide +kernel) (by decide +kernel)
set_option maxRecDepth 20000 in
theorem gX6_told_X5_openOf_n196 : GoodIn wsX6_told (wsX5_openOf) := ggX6_told_X5_openOf
theorem dX6_told_0 : decode cX6_told 0 = .ok (.aload_n 0, 1) := by decide +kernel
theorem dX6_told_1 : decode cX6_told 1 = .ok (.getfield 33, 3) := by decide +kernel
theorem dX6_told_4 : decode cX6_told 4 = .ok (.iload_n 1, 1) := by decide +kernel
theorem dX6_told_5 : decode cX6_told 5 = .ok (.invokevirtual 109, 3) := by decide +kernel
theorem dX6_told_8 : decode cX6_told 8 = .ok (.ifCond .ne 5, 3) := by decide +kernel
theorem dX6_told_11 : decode cX6_told 11 = .ok (.iconst (-1), 1) := by decide +kernel
theorem dX6_told_12 : decode cX6_told 12 = .ok (.ireturn, 1) := by decide +kernel
theorem dX6_told_13 : decode cX6_told 13 = .ok (.iload_n 2, 1) := by decide +kernel
theorem dX6_told_14 : decode cX6_told 14 = .ok (.tableswitch 97 0 5 #[38, 48, 58, 68, 78, 87], 38) := by decide +kernel
theorem dX6_told_52 : decode cX6_told 52 = .ok (.aload_n 0, 1) := by decide +kernel
theorem dX6_told_53 : decode cX6_told 53 = .ok (.getfield 33, 3) := by decide +kernel
theorem dX6_told_56 : decode cX6_told 56 = .ok (.getfield 193, 3) := by decide +kernel
theorem dX6_told_59 : decode cX6_told 59 = .ok (.iload_n 1, 1) := by decide +kernel
theorem dX6_told_60 : decode cX6_told 60 = .ok (.iaload, 1) := by decide +kernel
theorem dX6_told_61 : decode cX6_told 61 = .ok (.ireturn, 1) := by decide +kernel
theorem dX6_told_62 : decode cX6_told 62 = .ok (.aload_n 0, 1) := by decide +kernel
theorem dX6_told_63 : decode cX6_told 63 = .ok (.getfield 33, 3) := by decide +kernel
theorem dX6_told_66 : decode cX6_told 66 = .ok (.getfield 153, 3) := by decide +kernel
theorem dX6_told_69 : decode cX6_told 69 = .ok (.iload_n 1, 1) := by decide +kernel
theorem dX6_told_70 : decode cX6_told 70 = .ok (.iaload, 1) := by decide +kernel
theorem dX6_told_71 : decode cX6_told 71 = .ok (.ireturn, 1) := by decide +kernel
theorem dX6_told_72 : decode cX6_told 72 = .ok (.aload_n 0, 1) := by decide +kernel
theorem dX6_told_73 : decode cX6_told 73 = .ok (.getfield 33, 3) := by decide +kernel
theorem dX6_told_76 : decode cX6_told 76 = .ok (.getfield 165, 3) := by decide +kernel
theorem dX6_told_79 : decode cX6_told 79 = .ok (.iload_n 1, 1) := by decide +kernel
theorem dX6_told_80 : decode cX6_told 80 = .ok (.iaload, 1) := by decide +kernel
theorem dX6_told_81 : decode cX6_told 81 = .ok (.ireturn, 1) := by decide +kernel
theorem dX6_told_82 : decode cX6_told 82 = .ok (.aload_n 0, 1) := by decide +kernel
theorem dX6_told_83 : decode cX6_told 83 = .ok (.getfield 33, 3) := by decide +kernel
theorem dX6_told_86 : decode cX6_told 86 = .ok (.getfield 143, 3) := by decide +kernel
theorem dX6_told_89 : decode cX6_told 89 = .ok (.iload_n 1, 1) := by decide +kernel
theorem dX6_told_90 : decode cX6_told 90 = .ok (.iaload, 1) := by decide +kernel
theorem dX6_told_91 : decode cX6_told 91 = .ok (.ireturn, 1) := by decide +kernel
theorem dX6_told_92 : decode cX6_told 92 = .ok (.aload_n 0, 1) := by decide +kernel
theorem dX6_told_93 : decode cX6_told 93 = .ok (.getfield 40, 3) := by decide +kernel
theorem dX6_told_96 : decode cX6_told 96 = .ok (.iload_n 1, 1) := by decide +kernel
theorem dX6_told_97 : decode cX6_told 97 = .ok (.invokevirtual 196, 3) := by decide +kernel
theorem dX6_told_100 : decode cX6_told 100 = .ok (.ireturn, 1) := by decide +kernel
theorem dX6_told_101 : decode cX6_told 101 = .ok (.aload_n 0, 1) := by decide +kernel
theorem dX6_told_102 : decode cX6_told 102 = .ok (.getfield 33, 3) := by decide +kernel
theorem dX6_told_105 : decode cX6_told 105 = .ok (.getfield 110, 3) := by decide +kernel
theorem dX6_told_108 : decode cX6_told 108 = .ok (.iload_n 1, 1) := by decide +kernel
theorem dX6_told_109 : decode cX6_told 109 = .ok (.iaload, 1) := by decide +kernel
theorem dX6_told_110 : decode cX6_told 110 = .ok (.ireturn, 1) := by decide +kernel
theorem dX6_told_111 : decode cX6_told 111 = .ok (.iconst (-1), 1) := by decide +kernel
theorem dX6_told_112 : decode cX6_told 112 = .ok (.ireturn, 1) := by decide +kernel
set_option maxRecDepth 20000 in
theorem ggX6_wished_X5_has : GoodIn wsX6_wished wsX5_has := goodIn_r _ [5, 6, 27, 28, 29, 30, 31, 32, 33] (by decide +kernel) (by decide +kernel)
set_option maxRecDepth 20000 in
theorem gX6_wished_X5_has_n199 : GoodIn wsX6_wished (wsX5_has) := ggX6_wished_X5_has
set_option maxRecDepth 20000 in
theorem ggX6_wished_X5_waits : GoodIn wsX6_wished wsX5_waits := goodIn_r _ [9, 10, 11, 12, 13, 3, 14, 15, 16, 2, 4, 5, 6, 27, 28, 29, 30, 31, 32, 33] (by decide +kernel) (by decide +kernel)
set_option maxRecDepth 20000 in
theorem gX6_wished_X5_waits_n206 : GoodIn wsX6_wished (wsX5_waits) := ggX6_wished_X5_waits
theorem dX6_wished_0 : decode cX6_wished 0 = .ok (.aload_n 0, 1) := by decide +kernel
theorem dX6_wished_1 : decode cX6_wished 1 = .ok (.getfield 40, 3) := by decide +kernel
theorem dX6_wished_4 : decode cX6_wished 4 = .ok (.iload_n 1, 1) := by decide +kernel
theorem dX6_wished_5 : decode cX6_wished 5 = .ok (.invokevirtual 199, 3) := by decide +kernel
theorem dX6_wished_8 : decode cX6_wished 8 = .ok (.ifCond .ne 5, 3) := by decide +kernel
theorem dX6_wished_11 : decode cX6_wished 11 = .ok (.iconst (-1), 1) := by decide +kernel
theorem dX6_wished_12 : decode cX6_wished 12 = .ok (.ireturn, 1) := by decide +kernel
theorem dX6_wished_13 : decode cX6_wished 13 = .ok (.iload_n 2, 1) := by decide +kernel
theorem dX6_wished_14 : decode cX6_wished 14 = .ok (.tableswitch 85 0 3 #[30, 40, 50, 60], 30) := by decide +kernel
theorem dX6_wished_44 : decode cX6_wished 44 = .ok (.aload_n 0, 1) := by decide +kernel
theorem dX6_wished_45 : decode cX6_wished 45 = .ok (.getfield 40, 3) := by decide +kernel
theorem dX6_wished_48 : decode cX6_wished 48 = .ok (.getfield 122, 3) := by decide +kernel
theorem dX6_wished_51 : decode cX6_wished 51 = .ok (.iload_n 1, 1) := by decide +kernel
theorem dX6_wished_52 : decode cX6_wished 52 = .ok (.iaload, 1) := by decide +kernel
theorem dX6_wished_53 : decode cX6_wished 53 = .ok (.ireturn, 1) := by decide +kernel
theorem dX6_wished_54 : decode cX6_wished 54 = .ok (.aload_n 0, 1) := by decide +kernel
theorem dX6_wished_55 : decode cX6_wished 55 = .ok (.getfield 40, 3) := by decide +kernel
theorem dX6_wished_58 : decode cX6_wished 58 = .ok (.getfield 200, 3) := by decide +kernel
theorem dX6_wished_61 : decode cX6_wished 61 = .ok (.iload_n 1, 1) := by decide +kernel
theorem dX6_wished_62 : decode cX6_wished 62 = .ok (.iaload, 1) := by decide +kernel
theorem dX6_wished_63 : decode cX6_wished 63 = .ok (.ireturn, 1) := by decide +kernel
theorem dX6_wished_64 : decode cX6_wished 64 = .ok (.aload_n 0, 1) := by decide +kernel
theorem dX6_wished_65 : decode cX6_wished 65 = .ok (.getfield 40, 3) := by decide +kernel
theorem dX6_wished_68 : decode cX6_wished 68 = .ok (.getfield 203, 3) := by decide +kernel
theorem dX6_wished_71 : decode cX6_wished 71 = .ok (.iload_n 1, 1) := by decide +kernel
theorem dX6_wished_72 : decode cX6_wished 72 = .ok (.iaload, 1) := by decide +kernel
theorem dX6_wished_73 : decode cX6_wished 73 = .ok (.ireturn, 1) := by decide +kernel
theorem dX6_wished_74 : decode cX6_wished 74 = .ok (.aload_n 0, 1) := by decide +kernel
theorem dX6_wished_75 : decode cX6_wished 75 = .ok (.getfield 40, 3) := by decide +kernel
theorem dX6_wished_78 : decode cX6_wished 78 = .ok (.iload_n 1, 1) := by decide +kernel
theorem dX6_wished_79 : decode cX6_wished 79 = .ok (.invokevirtual 206, 3) := by decide +kernel
theorem dX6_wished_82 : decode cX6_wished 82 = .ok (.ifCond .eq 15, 3) := by decide +kernel
theorem dX6_wished_85 : decode cX6_wished 85 = .ok (.aload_n 0, 1) := by decide +kernel
theorem dX6_wished_86 : decode cX6_wished 86 = .ok (.getfield 40, 3) := by decide +kernel
theorem dX6_wished_89 : decode cX6_wished 89 = .ok (.getfield 209, 3) := by decide +kernel
theorem dX6_wished_92 : decode cX6_wished 92 = .ok (.iload_n 1, 1) := by decide +kernel
theorem dX6_wished_93 : decode cX6_wished 93 = .ok (.iaload, 1) := by decide +kernel
theorem dX6_wished_94 : decode cX6_wished 94 = .ok (.goto 4, 3) := by decide +kernel
theorem dX6_wished_97 : decode cX6_wished 97 = .ok (.iconst (-1), 1) := by decide +kernel
theorem dX6_wished_98 : decode cX6_wished 98 = .ok (.ireturn, 1) := by decide +kernel
theorem dX6_wished_99 : decode cX6_wished 99 = .ok (.iconst (-1), 1) := by decide +kernel
theorem dX6_wished_100 : decode cX6_wished 100 = .ok (.ireturn, 1) := by decide +kernel
set_option maxRecDepth 20000 in
theorem ggX6_waiting_X4_hasVolume : GoodIn wsX6_waiting wsX4_hasVolume := goodIn_r _ [6, 7, 8, 9, 4, 10, 11, 12, 13, 14, 15, 16, 48, 49] (by decide +kernel) (by decide +kernel)
set_option maxRecDepth 20000 in
theorem gX6_waiting_X4_hasVolume_n210 : GoodIn wsX6_waiting (wsX4_hasVolume) := ggX6_waiting_X4_hasVolume
set_option maxRecDepth 20000 in
theorem ggX6_waiting_X5_waitingFor : GoodIn wsX6_waiting wsX5_waitingFor := goodIn_r _ [20, 21, 22, 23, 24, 25, 26, 18, 27, 28, 29, 30, 31, 32, 33, 34, 35, 36, 37, 50, 51, 52, 53, 54, 55, 56] (by decide +kernel) (by decide +kernel)
set_option maxRecDepth 20000 in
theorem gX6_waiting_X5_waitingFor_n213 : GoodIn wsX6_waiting (wsX5_waitingFor) := ggX6_waiting_X5_waitingFor
theorem dX6_waiting_0 : decode cX6_waiting 0 = .ok (.aload_n 0, 1) := by decide +kernel
theorem dX6_waiting_1 : decode cX6_waiting 1 = .ok (.getfield 10, 3) := by decide +kernel
theorem dX6_waiting_4 : decode cX6_waiting 4 = .ok (.iload_n 1, 1) := by decide +kernel
theorem dX6_waiting_5 : decode cX6_waiting 5 = .ok (.iload_n 2, 1) := by decide +kernel
theorem dX6_waiting_6 : decode cX6_waiting 6 = .ok (.invokevirtual 210, 3) := by decide +kernel
theorem dX6_waiting_9 : decode cX6_waiting 9 = .ok (.ifCond .ne 5, 3) := by decide +kernel
theorem dX6_waiting_12 : decode cX6_waiting 12 = .ok (.iconst (-1), 1) := by decide +kernel
theorem dX6_waiting_13 : decode cX6_waiting 13 = .ok (.ireturn, 1) := by decide +kernel
theorem dX6_waiting_14 : decode cX6_waiting 14 = .ok (.aload_n 0, 1) := by decide +kernel
theorem dX6_waiting_15 : decode cX6_waiting 15 = .ok (.getfield 40, 3) := by decide +kernel
theorem dX6_waiting_18 : decode cX6_waiting 18 = .ok (.iload_n 1, 1) := by decide +kernel
theorem dX6_waiting_19 : decode cX6_waiting 19 = .ok (.iload_n 2, 1) := by decide +kernel
theorem dX6_waiting_20 : decode cX6_waiting 20 = .ok (.invokevirtual 213, 3) := by decide +kernel
theorem dX6_waiting_23 : decode cX6_waiting 23 = .ok (.ireturn, 1) := by decide +kernel
set_option maxRecDepth 20000 in
theorem ggX6_sets_X4_has : GoodIn wsX6_sets wsX4_has := goodIn_r _ [10, 11, 35, 36] (by decide +kernel) (by decide +kernel)
set_option maxRecDepth 20000 in
theorem gX6_sets_X4_has_n75 : GoodIn wsX6_sets (wsX4_has) := ggX6_sets_X4_has
set_option maxRecDepth 20000 in
theorem ggX6_sets_X4_volumesOf : GoodIn wsX6_sets wsX4_volumesOf := goodIn_r _ [14, 15, 16, 7, 9, 8, 10, 11, 35, 36] (by decide +kernel) (by decide +kernel)
set_option maxRecDepth 20000 in
theorem gX6_sets_X4_volumesOf_n83 : GoodIn wsX6_sets (wsX4_volumesOf) := ggX6_sets_X4_volumesOf
set_option maxRecDepth 20000 in
theorem ggX6_sets_X1_inHouse : GoodIn wsX6_sets wsX1_inHouse := goodIn_r _ [20, 21, 22, 23, 24, 37, 38, 39, 40, 41, 42, 43, 44, 45, 46, 47, 48, 49] (by decide +kernel) (by decide +kernel)
set_option maxRecDepth 20000 in
theorem gX6_sets_X1_inHouse_n216 : GoodIn wsX6_sets (wsX1_inHouse) := ggX6_sets_X1_inHouse
theorem dX6_sets_0 : decode cX6_sets 0 = .ok (.aload_n 0, 1) := by decide +kernel
theorem dX6_sets_1 : decode cX6_sets 1 = .ok (.getfield 10, 3) := by decide +kernel
theorem dX6_sets_4 : decode cX6_sets 4 = .ok (.iload_n 1, 1) := by decide +kernel
theorem dX6_sets_5 : decode cX6_sets 5 = .ok (.invokevirtual 75, 3) := by decide +kernel
theorem dX6_sets_8 : decode cX6_sets 8 = .ok (.ifCond .ne 5, 3) := by decide +kernel
theorem dX6_sets_11 : decode cX6_sets 11 = .ok (.iconst (-1), 1) := by decide +kernel
theorem dX6_sets_12 : decode cX6_sets 12 = .ok (.ireturn, 1) := by decide +kernel
theorem dX6_sets_13 : decode cX6_sets 13 = .ok (.sipush 200, 3) := by decide +kernel
theorem dX6_sets_16 : decode cX6_sets 16 = .ok (.istore_n 2, 1) := by decide +kernel
theorem dX6_sets_17 : decode cX6_sets 17 = .ok (.aload_n 0, 1) := by decide +kernel
theorem dX6_sets_18 : decode cX6_sets 18 = .ok (.getfield 10, 3) := by decide +kernel
theorem dX6_sets_21 : decode cX6_sets 21 = .ok (.iload_n 1, 1) := by decide +kernel
theorem dX6_sets_22 : decode cX6_sets 22 = .ok (.invokevirtual 83, 3) := by decide +kernel
theorem dX6_sets_25 : decode cX6_sets 25 = .ok (.istore_n 3, 1) := by decide +kernel
theorem dX6_sets_26 : decode cX6_sets 26 = .ok (.iconst 0, 1) := by decide +kernel
theorem dX6_sets_27 : decode cX6_sets 27 = .ok (.istore 4, 2) := by decide +kernel
theorem dX6_sets_29 : decode cX6_sets 29 = .ok (.iload 4, 2) := by decide +kernel
theorem dX6_sets_31 : decode cX6_sets 31 = .ok (.iload_n 3, 1) := by decide +kernel
theorem dX6_sets_32 : decode cX6_sets 32 = .ok (.if_icmp .ge 24, 3) := by decide +kernel
theorem dX6_sets_35 : decode cX6_sets 35 = .ok (.iload_n 2, 1) := by decide +kernel
theorem dX6_sets_36 : decode cX6_sets 36 = .ok (.aload_n 0, 1) := by decide +kernel
theorem dX6_sets_37 : decode cX6_sets 37 = .ok (.getfield 26, 3) := by decide +kernel
theorem dX6_sets_40 : decode cX6_sets 40 = .ok (.iload_n 1, 1) := by decide +kernel
theorem dX6_sets_41 : decode cX6_sets 41 = .ok (.iload 4, 2) := by decide +kernel
theorem dX6_sets_43 : decode cX6_sets 43 = .ok (.invokevirtual 216, 3) := by decide +kernel
theorem dX6_sets_46 : decode cX6_sets 46 = .ok (.invokestatic 125, 3) := by decide +kernel
theorem dX6_sets_49 : decode cX6_sets 49 = .ok (.istore_n 2, 1) := by decide +kernel
theorem dX6_sets_50 : decode cX6_sets 50 = .ok (.iinc 4 1, 3) := by decide +kernel
theorem dX6_sets_53 : decode cX6_sets 53 = .ok (.goto (-24), 3) := by decide +kernel
theorem dX6_sets_56 : decode cX6_sets 56 = .ok (.iload_n 2, 1) := by decide +kernel
theorem dX6_sets_57 : decode cX6_sets 57 = .ok (.ireturn, 1) := by decide +kernel
set_option maxRecDepth 20000 in
theorem ggX6_demand_X6_within : GoodIn wsX6_demand wsX6_within := goodIn_r _ [5] (by decide +kernel) (by decide +kernel)
set_option maxRecDepth 20000 in
theorem gX6_demand_X6_within : GoodIn wsX6_demand (va_wsS RX6 64 yX6_within wsX6_within) := goodIn_app (goodIn_of _ (by decide +kernel)) ggX6_demand_X6_within
theorem dX6_demand_0 : decode cX6_demand 0 = .ok (.iload_n 1, 1) := by decide +kernel
theorem dX6_demand_1 : decode cX6_demand 1 = .ok (.bipush 20, 2) := by decide +kernel
theorem dX6_demand_3 : decode cX6_demand 3 = .ok (.if_icmp .ne 7, 3) := by decide +kernel
theorem dX6_demand_6 : decode cX6_demand 6 = .ok (.iconst 0, 1) := by decide +kernel
theorem dX6_demand_7 : decode cX6_demand 7 = .ok (.goto 5, 3) := by decide +kernel
theorem dX6_demand_10 : decode cX6_demand 10 = .ok (.bipush 50, 2) := by decide +kernel
theorem dX6_demand_12 : decode cX6_demand 12 = .ok (.istore 4, 2) := by decide +kernel
theorem dX6_demand_14 : decode cX6_demand 14 = .ok (.iload_n 1, 1) := by decide +kernel
theorem dX6_demand_15 : decode cX6_demand 15 = .ok (.iconst 0, 1) := by decide +kernel
theorem dX6_demand_16 : decode cX6_demand 16 = .ok (.bipush 20, 2) := by decide +kernel
theorem dX6_demand_18 : decode cX6_demand 18 = .ok (.invokestatic 64, 3) := by decide +kernel
theorem dX6_demand_21 : decode cX6_demand 21 = .ok (.ifCond .eq 24, 3) := by decide +kernel
theorem dX6_demand_24 : decode cX6_demand 24 = .ok (.iload_n 2, 1) := by decide +kernel
theorem dX6_demand_25 : decode cX6_demand 25 = .ok (.iconst 0, 1) := by decide +kernel
theorem dX6_demand_26 : decode cX6_demand 26 = .ok (.iload 4, 2) := by decide +kernel
theorem dX6_demand_28 : decode cX6_demand 28 = .ok (.invokestatic 64, 3) := by decide +kernel
theorem dX6_demand_31 : decode cX6_demand 31 = .ok (.ifCond .eq 14, 3) := by decide +kernel
theorem dX6_demand_34 : decode cX6_demand 34 = .ok (.iload_n 3, 1) := by decide +kernel
theorem dX6_demand_35 : decode cX6_demand 35 = .ok (.iconst 0, 1) := by decide +kernel
theorem dX6_demand_36 : decode cX6_demand 36 = .ok (.sipush 1000, 3) := by decide +kernel
theorem dX6_demand_39 : decode cX6_demand 39 = .ok (.invokestatic 64, 3) := by decide +kernel
theorem dX6_demand_42 : decode cX6_demand 42 = .ok (.ifCond .ne 5, 3) := by decide +kernel
theorem dX6_demand_45 : decode cX6_demand 45 = .ok (.iconst 0, 1) := by decide +kernel
theorem dX6_demand_46 : decode cX6_demand 46 = .ok (.ireturn, 1) := by decide +kernel
theorem dX6_demand_47 : decode cX6_demand 47 = .ok (.aload_n 0, 1) := by decide +kernel
theorem dX6_demand_48 : decode cX6_demand 48 = .ok (.getfield 47, 3) := by decide +kernel
theorem dX6_demand_51 : decode cX6_demand 51 = .ok (.getfield 219, 3) := by decide +kernel
theorem dX6_demand_54 : decode cX6_demand 54 = .ok (.iload_n 1, 1) := by decide +kernel
theorem dX6_demand_55 : decode cX6_demand 55 = .ok (.iload_n 2, 1) := by decide +kernel
theorem dX6_demand_56 : decode cX6_demand 56 = .ok (.iastore, 1) := by decide +kernel
theorem dX6_demand_57 : decode cX6_demand 57 = .ok (.aload_n 0, 1) := by decide +kernel
theorem dX6_demand_58 : decode cX6_demand 58 = .ok (.getfield 47, 3) := by decide +kernel
theorem dX6_demand_61 : decode cX6_demand 61 = .ok (.getfield 222, 3) := by decide +kernel
theorem dX6_demand_64 : decode cX6_demand 64 = .ok (.iload_n 1, 1) := by decide +kernel
theorem dX6_demand_65 : decode cX6_demand 65 = .ok (.iload_n 3, 1) := by decide +kernel
theorem dX6_demand_66 : decode cX6_demand 66 = .ok (.iastore, 1) := by decide +kernel
theorem dX6_demand_67 : decode cX6_demand 67 = .ok (.iconst 1, 1) := by decide +kernel
theorem dX6_demand_68 : decode cX6_demand 68 = .ok (.ireturn, 1) := by decide +kernel
set_option maxRecDepth 20000 in
theorem ggX6_best_X6_canPlan : GoodIn wsX6_best wsX6_canPlan := goodIn_r _ [5, 6, 7, 4, 8] (by decide +kernel) (by decide +kernel)
set_option maxRecDepth 20000 in
theorem gX6_best_X6_canPlan : GoodIn wsX6_best (va_wsS RX6 225 yX6_canPlan wsX6_canPlan) := goodIn_app (goodIn_of _ (by decide +kernel)) ggX6_best_X6_canPlan
set_option maxRecDepth 20000 in
theorem ggX6_best_X2_setsToBuy : GoodIn wsX6_best wsX2_setsToBuy := goodIn_r _ [12, 13, 14, 15, 10, 16, 17, 18, 19, 20, 21, 22, 23, 24, 25, 26, 37, 38] (by decide +kernel) (by decide +kernel)
set_option maxRecDepth 20000 in
theorem gX6_best_X2_setsToBuy_n228 : GoodIn wsX6_best (wsX2_setsToBuy) := ggX6_best_X2_setsToBuy
theorem dX6_best_0 : decode cX6_best 0 = .ok (.iload_n 1, 1) := by decide +kernel
theorem dX6_best_1 : decode cX6_best 1 = .ok (.iload_n 2, 1) := by decide +kernel
theorem dX6_best_2 : decode cX6_best 2 = .ok (.invokestatic 225, 3) := by decide +kernel
theorem dX6_best_5 : decode cX6_best 5 = .ok (.ifCond .ne 5, 3) := by decide +kernel
theorem dX6_best_8 : decode cX6_best 8 = .ok (.iconst (-1), 1) := by decide +kernel
theorem dX6_best_9 : decode cX6_best 9 = .ok (.ireturn, 1) := by decide +kernel
theorem dX6_best_10 : decode cX6_best 10 = .ok (.aload_n 0, 1) := by decide +kernel
theorem dX6_best_11 : decode cX6_best 11 = .ok (.getfield 47, 3) := by decide +kernel
theorem dX6_best_14 : decode cX6_best 14 = .ok (.iload_n 1, 1) := by decide +kernel
theorem dX6_best_15 : decode cX6_best 15 = .ok (.iload_n 2, 1) := by decide +kernel
theorem dX6_best_16 : decode cX6_best 16 = .ok (.invokevirtual 228, 3) := by decide +kernel
theorem dX6_best_19 : decode cX6_best 19 = .ok (.ireturn, 1) := by decide +kernel
set_option maxRecDepth 20000 in
theorem ggX6_gain_X6_canPlan : GoodIn wsX6_gain wsX6_canPlan := goodIn_r _ [5, 6, 7, 4, 8] (by decide +kernel) (by decide +kernel)
set_option maxRecDepth 20000 in
theorem gX6_gain_X6_canPlan : GoodIn wsX6_gain (va_wsS RX6 225 yX6_canPlan wsX6_canPlan) := goodIn_app (goodIn_of _ (by decide +kernel)) ggX6_gain_X6_canPlan
set_option maxRecDepth 20000 in
theorem ggX6_gain_X2_setsToBuy : GoodIn wsX6_gain wsX2_setsToBuy := goodIn_r _ [12, 13, 14, 15, 10, 16, 17, 18, 19, 20, 21, 22, 23, 24, 25, 26, 37, 38] (by decide +kernel) (by decide +kernel)
set_option maxRecDepth 20000 in
theorem gX6_gain_X2_setsToBuy_n228 : GoodIn wsX6_gain (wsX2_setsToBuy) := ggX6_gain_X2_setsToBuy
set_option maxRecDepth 20000 in
theorem ggX6_gain_X2_mostOf : GoodIn wsX6_gain wsX2_mostOf := goodIn_r _ [16, 17, 18, 19, 20, 21, 22, 23, 24, 10, 25, 26, 37, 38] (by decide +kernel) (by decide +kernel)
set_option maxRecDepth 20000 in
theorem gX6_gain_X2_mostOf_n231 : GoodIn wsX6_gain (wsX2_mostOf) := ggX6_gain_X2_mostOf
theorem dX6_gain_0 : decode cX6_gain 0 = .ok (.iload_n 1, 1) := by decide +kernel
theorem dX6_gain_1 : decode cX6_gain 1 = .ok (.iload_n 2, 1) := by decide +kernel
theorem dX6_gain_2 : decode cX6_gain 2 = .ok (.invokestatic 225, 3) := by decide +kernel
theorem dX6_gain_5 : decode cX6_gain 5 = .ok (.ifCond .ne 5, 3) := by decide +kernel
theorem dX6_gain_8 : decode cX6_gain 8 = .ok (.iconst (-1), 1) := by decide +kernel
theorem dX6_gain_9 : decode cX6_gain 9 = .ok (.ireturn, 1) := by decide +kernel
theorem dX6_gain_10 : decode cX6_gain 10 = .ok (.aload_n 0, 1) := by decide +kernel
theorem dX6_gain_11 : decode cX6_gain 11 = .ok (.getfield 47, 3) := by decide +kernel
theorem dX6_gain_14 : decode cX6_gain 14 = .ok (.iload_n 1, 1) := by decide +kernel
theorem dX6_gain_15 : decode cX6_gain 15 = .ok (.iload_n 2, 1) := by decide +kernel
theorem dX6_gain_16 : decode cX6_gain 16 = .ok (.invokevirtual 228, 3) := by decide +kernel
theorem dX6_gain_19 : decode cX6_gain 19 = .ok (.istore_n 3, 1) := by decide +kernel
theorem dX6_gain_20 : decode cX6_gain 20 = .ok (.iconst 0, 1) := by decide +kernel
theorem dX6_gain_21 : decode cX6_gain 21 = .ok (.istore 4, 2) := by decide +kernel
theorem dX6_gain_23 : decode cX6_gain 23 = .ok (.iconst 0, 1) := by decide +kernel
theorem dX6_gain_24 : decode cX6_gain 24 = .ok (.istore 5, 2) := by decide +kernel
theorem dX6_gain_26 : decode cX6_gain 26 = .ok (.iload 5, 2) := by decide +kernel
theorem dX6_gain_28 : decode cX6_gain 28 = .ok (.iload_n 3, 1) := by decide +kernel
theorem dX6_gain_29 : decode cX6_gain 29 = .ok (.if_icmp .ge 26, 3) := by decide +kernel
theorem dX6_gain_32 : decode cX6_gain 32 = .ok (.iload 4, 2) := by decide +kernel
theorem dX6_gain_34 : decode cX6_gain 34 = .ok (.aload_n 0, 1) := by decide +kernel
theorem dX6_gain_35 : decode cX6_gain 35 = .ok (.getfield 47, 3) := by decide +kernel
theorem dX6_gain_38 : decode cX6_gain 38 = .ok (.iload_n 1, 1) := by decide +kernel
theorem dX6_gain_39 : decode cX6_gain 39 = .ok (.iload 5, 2) := by decide +kernel
theorem dX6_gain_41 : decode cX6_gain 41 = .ok (.invokevirtual 231, 3) := by decide +kernel
theorem dX6_gain_44 : decode cX6_gain 44 = .ok (.iload_n 2, 1) := by decide +kernel
theorem dX6_gain_45 : decode cX6_gain 45 = .ok (.isub, 1) := by decide +kernel
theorem dX6_gain_46 : decode cX6_gain 46 = .ok (.iadd, 1) := by decide +kernel
theorem dX6_gain_47 : decode cX6_gain 47 = .ok (.istore 4, 2) := by decide +kernel
theorem dX6_gain_49 : decode cX6_gain 49 = .ok (.iinc 5 1, 3) := by decide +kernel
theorem dX6_gain_52 : decode cX6_gain 52 = .ok (.goto (-26), 3) := by decide +kernel
theorem dX6_gain_55 : decode cX6_gain 55 = .ok (.iload 4, 2) := by decide +kernel
theorem dX6_gain_57 : decode cX6_gain 57 = .ok (.ireturn, 1) := by decide +kernel
set_option maxRecDepth 20000 in
theorem ggX6_kept_X6_canPlan : GoodIn wsX6_kept wsX6_canPlan := goodIn_r _ [5, 6, 7, 4, 8] (by decide +kernel) (by decide +kernel)
set_option maxRecDepth 20000 in
theorem gX6_kept_X6_canPlan : GoodIn wsX6_kept (va_wsS RX6 225 yX6_canPlan wsX6_canPlan) := goodIn_app (goodIn_of _ (by decide +kernel)) ggX6_kept_X6_canPlan
set_option maxRecDepth 20000 in
theorem ggX6_kept_X2_setsToBuy : GoodIn wsX6_kept wsX2_setsToBuy := goodIn_r _ [12, 13, 14, 15, 10, 16, 17, 18, 19, 20, 21, 22, 23, 24, 25, 26, 40, 41] (by decide +kernel) (by decide +kernel)
set_option maxRecDepth 20000 in
theorem gX6_kept_X2_setsToBuy_n228 : GoodIn wsX6_kept (wsX2_setsToBuy) := ggX6_kept_X2_setsToBuy
set_option maxRecDepth 20000 in
theorem ggX6_kept_X6_within : GoodIn wsX6_kept wsX6_within := goodIn_r _ [8] (by decide +kernel) (by decide +kernel)
set_option maxRecDepth 20000 in
theorem gX6_kept_X6_within : GoodIn wsX6_kept (va_wsS RX6 64 yX6_within wsX6_within) := goodIn_app (goodIn_of _ (by decide +kernel)) ggX6_kept_X6_within
set_option maxRecDepth 20000 in
theorem ggX6_kept_X2_weeksOf : GoodIn wsX6_kept wsX2_weeksOf := goodIn_r _ [29, 17, 13, 14, 15, 10, 16, 18, 19, 20, 21, 22, 23, 24, 25, 26, 40, 41] (by decide +kernel) (by decide +kernel)
set_option maxRecDepth 20000 in
theorem gX6_kept_X2_weeksOf_n234 : GoodIn wsX6_kept (wsX2_weeksOf) := ggX6_kept_X2_weeksOf
theorem dX6_kept_0 : decode cX6_kept 0 = .ok (.iload_n 1, 1) := by decide +kernel
theorem dX6_kept_1 : decode cX6_kept 1 = .ok (.iload_n 2, 1) := by decide +kernel
theorem dX6_kept_2 : decode cX6_kept 2 = .ok (.invokestatic 225, 3) := by decide +kernel
theorem dX6_kept_5 : decode cX6_kept 5 = .ok (.ifCond .eq 22, 3) := by decide +kernel
theorem dX6_kept_8 : decode cX6_kept 8 = .ok (.iload_n 3, 1) := by decide +kernel
theorem dX6_kept_9 : decode cX6_kept 9 = .ok (.iconst 0, 1) := by decide +kernel
theorem dX6_kept_10 : decode cX6_kept 10 = .ok (.aload_n 0, 1) := by decide +kernel
theorem dX6_kept_11 : decode cX6_kept 11 = .ok (.getfield 47, 3) := by decide +kernel
theorem dX6_kept_14 : decode cX6_kept 14 = .ok (.iload_n 1, 1) := by decide +kernel
theorem dX6_kept_15 : decode cX6_kept 15 = .ok (.iload_n 2, 1) := by decide +kernel
theorem dX6_kept_16 : decode cX6_kept 16 = .ok (.invokevirtual 228, 3) := by decide +kernel
theorem dX6_kept_19 : decode cX6_kept 19 = .ok (.iconst 1, 1) := by decide +kernel
theorem dX6_kept_20 : decode cX6_kept 20 = .ok (.isub, 1) := by decide +kernel
theorem dX6_kept_21 : decode cX6_kept 21 = .ok (.invokestatic 64, 3) := by decide +kernel
theorem dX6_kept_24 : decode cX6_kept 24 = .ok (.ifCond .ne 5, 3) := by decide +kernel
theorem dX6_kept_27 : decode cX6_kept 27 = .ok (.iconst (-1), 1) := by decide +kernel
theorem dX6_kept_28 : decode cX6_kept 28 = .ok (.ireturn, 1) := by decide +kernel
theorem dX6_kept_29 : decode cX6_kept 29 = .ok (.aload_n 0, 1) := by decide +kernel
theorem dX6_kept_30 : decode cX6_kept 30 = .ok (.getfield 47, 3) := by decide +kernel
theorem dX6_kept_33 : decode cX6_kept 33 = .ok (.iload_n 1, 1) := by decide +kernel
theorem dX6_kept_34 : decode cX6_kept 34 = .ok (.iload_n 3, 1) := by decide +kernel
theorem dX6_kept_35 : decode cX6_kept 35 = .ok (.invokevirtual 234, 3) := by decide +kernel
theorem dX6_kept_38 : decode cX6_kept 38 = .ok (.ireturn, 1) := by decide +kernel
theorem dX6_count_0 : decode cX6_count 0 = .ok (.iload_n 1, 1) := by decide +kernel
theorem dX6_count_1 : decode cX6_count 1 = .ok (.tableswitch 111 0 8 #[51, 56, 64, 72, 80, 88, 93, 98, 103], 51) := by decide +kernel
theorem dX6_count_52 : decode cX6_count 52 = .ok (.aload_n 0, 1) := by decide +kernel
theorem dX6_count_53 : decode cX6_count 53 = .ok (.getfield 51, 3) := by decide +kernel
theorem dX6_count_56 : decode cX6_count 56 = .ok (.ireturn, 1) := by decide +kernel
theorem dX6_count_57 : decode cX6_count 57 = .ok (.aload_n 0, 1) := by decide +kernel
theorem dX6_count_58 : decode cX6_count 58 = .ok (.getfield 10, 3) := by decide +kernel
theorem dX6_count_61 : decode cX6_count 61 = .ok (.getfield 68, 3) := by decide +kernel
theorem dX6_count_64 : decode cX6_count 64 = .ok (.ireturn, 1) := by decide +kernel
theorem dX6_count_65 : decode cX6_count 65 = .ok (.aload_n 0, 1) := by decide +kernel
theorem dX6_count_66 : decode cX6_count 66 = .ok (.getfield 26, 3) := by decide +kernel
theorem dX6_count_69 : decode cX6_count 69 = .ok (.getfield 86, 3) := by decide +kernel
theorem dX6_count_72 : decode cX6_count 72 = .ok (.ireturn, 1) := by decide +kernel
theorem dX6_count_73 : decode cX6_count 73 = .ok (.aload_n 0, 1) := by decide +kernel
theorem dX6_count_74 : decode cX6_count 74 = .ok (.getfield 33, 3) := by decide +kernel
theorem dX6_count_77 : decode cX6_count 77 = .ok (.getfield 105, 3) := by decide +kernel
theorem dX6_count_80 : decode cX6_count 80 = .ok (.ireturn, 1) := by decide +kernel
theorem dX6_count_81 : decode cX6_count 81 = .ok (.aload_n 0, 1) := by decide +kernel
theorem dX6_count_82 : decode cX6_count 82 = .ok (.getfield 40, 3) := by decide +kernel
theorem dX6_count_85 : decode cX6_count 85 = .ok (.getfield 114, 3) := by decide +kernel
theorem dX6_count_88 : decode cX6_count 88 = .ok (.ireturn, 1) := by decide +kernel
theorem dX6_count_89 : decode cX6_count 89 = .ok (.aload_n 0, 1) := by decide +kernel
theorem dX6_count_90 : decode cX6_count 90 = .ok (.getfield 55, 3) := by decide +kernel
theorem dX6_count_93 : decode cX6_count 93 = .ok (.ireturn, 1) := by decide +kernel
theorem dX6_count_94 : decode cX6_count 94 = .ok (.aload_n 0, 1) := by decide +kernel
theorem dX6_count_95 : decode cX6_count 95 = .ok (.getfield 58, 3) := by decide +kernel
theorem dX6_count_98 : decode cX6_count 98 = .ok (.ireturn, 1) := by decide +kernel
theorem dX6_count_99 : decode cX6_count 99 = .ok (.aload_n 0, 1) := by decide +kernel
theorem dX6_count_100 : decode cX6_count 100 = .ok (.getfield 61, 3) := by decide +kernel
theorem dX6_count_103 : decode cX6_count 103 = .ok (.ireturn, 1) := by decide +kernel
theorem dX6_count_104 : decode cX6_count 104 = .ok (.aload_n 0, 1) := by decide +kernel
theorem dX6_count_105 : decode cX6_count 105 = .ok (.getfield 26, 3) := by decide +kernel
theorem dX6_count_108 : decode cX6_count 108 = .ok (.getfield 237, 3) := by decide +kernel
theorem dX6_count_111 : decode cX6_count 111 = .ok (.ireturn, 1) := by decide +kernel
theorem dX6_count_112 : decode cX6_count 112 = .ok (.iconst (-1), 1) := by decide +kernel
theorem dX6_count_113 : decode cX6_count 113 = .ok (.ireturn, 1) := by decide +kernel
