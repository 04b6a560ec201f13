set_option maxRecDepth 20000 in
theorem ggX7_renew_X7_isReader : GoodIn wsX7_renew wsX7_isReader := goodIn_r _ [6, 7, 8, 9, 5, 10, 11, 12, 13, 14, 15, 16, 17, 18, 19, 20, 21, 22, 23, 24, 25, 26, 27, 28, 29, 30, 31, 32, 33, 34, 35, 36, 37, 38, 39, 40, 41, 42, 43, 44, 45] (by decide +kernel) (by decide +kernel)
set_option maxRecDepth 20000 in
theorem gX7_renew_X7_isReader : GoodIn wsX7_renew (wsV RX7 128 RX7 yX7_isReader wsX7_isReader) := goodIn_app (goodIn_of _ (by decide +kernel)) ggX7_renew_X7_isReader
set_option maxRecDepth 20000 in
theorem ggX7_renew_X7_in : GoodIn wsX7_renew wsX7_in := goodIn_r _ [10] (by decide +kernel) (by decide +kernel)
set_option maxRecDepth 20000 in
theorem gX7_renew_X7_in : GoodIn wsX7_renew (va_wsS RX7 92 yX7_in wsX7_in) := goodIn_app (goodIn_of _ (by decide +kernel)) ggX7_renew_X7_in
theorem dX7_renew_0 : decode cX7_renew 0 = .ok (.aload_n 0, 1) := by decide +kernel
theorem dX7_renew_1 : decode cX7_renew 1 = .ok (.iload_n 1, 1) := by decide +kernel
theorem dX7_renew_2 : decode cX7_renew 2 = .ok (.invokevirtual 128, 3) := by decide +kernel
theorem dX7_renew_5 : decode cX7_renew 5 = .ok (.ifCond .eq 14, 3) := by decide +kernel
theorem dX7_renew_8 : decode cX7_renew 8 = .ok (.iload_n 2, 1) := by decide +kernel
theorem dX7_renew_9 : decode cX7_renew 9 = .ok (.iconst 0, 1) := by decide +kernel
theorem dX7_renew_10 : decode cX7_renew 10 = .ok (.sipush 5000, 3) := by decide +kernel
theorem dX7_renew_13 : decode cX7_renew 13 = .ok (.invokestatic 92, 3) := by decide +kernel
theorem dX7_renew_16 : decode cX7_renew 16 = .ok (.ifCond .ne 5, 3) := by decide +kernel
theorem dX7_renew_19 : decode cX7_renew 19 = .ok (.iconst 0, 1) := by decide +kernel
theorem dX7_renew_20 : decode cX7_renew 20 = .ok (.ireturn, 1) := by decide +kernel
theorem dX7_renew_21 : decode cX7_renew 21 = .ok (.aload_n 0, 1) := by decide +kernel
theorem dX7_renew_22 : decode cX7_renew 22 = .ok (.getfield 46, 3) := by decide +kernel
theorem dX7_renew_25 : decode cX7_renew 25 = .ok (.iload_n 1, 1) := by decide +kernel
theorem dX7_renew_26 : decode cX7_renew 26 = .ok (.iload_n 2, 1) := by decide +kernel
theorem dX7_renew_27 : decode cX7_renew 27 = .ok (.iastore, 1) := by decide +kernel
theorem dX7_renew_28 : decode cX7_renew 28 = .ok (.iconst 1, 1) := by decide +kernel
theorem dX7_renew_29 : decode cX7_renew 29 = .ok (.ireturn, 1) := by decide +kernel
set_option maxRecDepth 20000 in
theorem ggX7_wish_X7_isReader : GoodIn wsX7_wish wsX7_isReader := goodIn_r _ [11, 12, 13, 14, 10, 15, 21, 22, 23, 24, 25, 26, 27, 28, 29, 30, 31, 32, 33, 34, 35, 36, 37, 38, 39, 40, 41, 42, 43, 44, 45, 46, 47, 48, 49, 50, 51, 52, 53, 54, 55] (by decide +kernel) (by decide +kernel)
set_option maxRecDepth 20000 in
theorem gX7_wish_X7_isReader : GoodIn wsX7_wish (wsV RX7 128 RX7 yX7_isReader wsX7_isReader) := goodIn_app (goodIn_of _ (by decide +kernel)) ggX7_wish_X7_isReader
set_option maxRecDepth 20000 in
theorem ggX7_wish_X7_isTitle : GoodIn wsX7_wish wsX7_isTitle := goodIn_r _ [19, 20, 13, 14, 10, 15, 21, 22, 23, 24, 25, 26, 27, 28, 29, 30, 31, 32, 33, 34, 35, 36, 37, 38, 39, 40, 41, 42, 43, 44, 45, 46, 47, 48, 49, 50, 51, 52, 53, 54, 55] (by decide +kernel) (by decide +kernel)
set_option maxRecDepth 20000 in
theorem gX7_wish_X7_isTitle : GoodIn wsX7_wish (wsV RX7 105 RX7 yX7_isTitle wsX7_isTitle) := goodIn_app (goodIn_of _ (by decide +kernel)) ggX7_wish_X7_isTitle
theorem dX7_wish_0 : decode cX7_wish 0 = .ok (.aload_n 0, 1) := by decide +kernel
theorem dX7_wish_1 : decode cX7_wish 1 = .ok (.iload_n 1, 1) := by decide +kernel
theorem dX7_wish_2 : decode cX7_wish 2 = .ok (.invokevirtual 128, 3) := by decide +kernel
theorem dX7_wish_5 : decode cX7_wish 5 = .ok (.ifCond .eq 20, 3) := by decide +kernel
theorem dX7_wish_8 : decode cX7_wish 8 = .ok (.aload_n 0, 1) := by decide +kernel
theorem dX7_wish_9 : decode cX7_wish 9 = .ok (.iload_n 2, 1) := by decide +kernel
theorem dX7_wish_10 : decode cX7_wish 10 = .ok (.invokevirtual 105, 3) := by decide +kernel
theorem dX7_wish_13 : decode cX7_wish 13 = .ok (.ifCond .eq 12, 3) := by decide +kernel
theorem dX7_wish_16 : decode cX7_wish 16 = .ok (.aload_n 0, 1) := by decide +kernel
theorem dX7_wish_17 : decode cX7_wish 17 = .ok (.getfield 102, 3) := by decide +kernel
theorem dX7_wish_20 : decode cX7_wish 20 = .ok (.bipush 100, 2) := by decide +kernel
theorem dX7_wish_22 : decode cX7_wish 22 = .ok (.if_icmp .ne 5, 3) := by decide +kernel
theorem dX7_wish_25 : decode cX7_wish 25 = .ok (.iconst (-1), 1) := by decide +kernel
theorem dX7_wish_26 : decode cX7_wish 26 = .ok (.ireturn, 1) := by decide +kernel
theorem dX7_wish_27 : decode cX7_wish 27 = .ok (.iconst 0, 1) := by decide +kernel
theorem dX7_wish_28 : decode cX7_wish 28 = .ok (.istore_n 3, 1) := by decide +kernel
theorem dX7_wish_29 : decode cX7_wish 29 = .ok (.iload_n 3, 1) := by decide +kernel
theorem dX7_wish_30 : decode cX7_wish 30 = .ok (.aload_n 0, 1) := by decide +kernel
theorem dX7_wish_31 : decode cX7_wish 31 = .ok (.getfield 102, 3) := by decide +kernel
theorem dX7_wish_34 : decode cX7_wish 34 = .ok (.if_icmp .ge 40, 3) := by decide +kernel
theorem dX7_wish_37 : decode cX7_wish 37 = .ok (.aload_n 0, 1) := by decide +kernel
theorem dX7_wish_38 : decode cX7_wish 38 = .ok (.getfield 52, 3) := by decide +kernel
theorem dX7_wish_41 : decode cX7_wish 41 = .ok (.iload_n 3, 1) := by decide +kernel
theorem dX7_wish_42 : decode cX7_wish 42 = .ok (.iaload, 1) := by decide +kernel
theorem dX7_wish_43 : decode cX7_wish 43 = .ok (.iload_n 1, 1) := by decide +kernel
theorem dX7_wish_44 : decode cX7_wish 44 = .ok (.if_icmp .ne 24, 3) := by decide +kernel
theorem dX7_wish_47 : decode cX7_wish 47 = .ok (.aload_n 0, 1) := by decide +kernel
theorem dX7_wish_48 : decode cX7_wish 48 = .ok (.getfield 55, 3) := by decide +kernel
theorem dX7_wish_51 : decode cX7_wish 51 = .ok (.iload_n 3, 1) := by decide +kernel
theorem dX7_wish_52 : decode cX7_wish 52 = .ok (.iaload, 1) := by decide +kernel
theorem dX7_wish_53 : decode cX7_wish 53 = .ok (.iload_n 2, 1) := by decide +kernel
theorem dX7_wish_54 : decode cX7_wish 54 = .ok (.if_icmp .ne 14, 3) := by decide +kernel
theorem dX7_wish_57 : decode cX7_wish 57 = .ok (.aload_n 0, 1) := by decide +kernel
theorem dX7_wish_58 : decode cX7_wish 58 = .ok (.getfield 58, 3) := by decide +kernel
theorem dX7_wish_61 : decode cX7_wish 61 = .ok (.iload_n 3, 1) := by decide +kernel
theorem dX7_wish_62 : decode cX7_wish 62 = .ok (.iaload, 1) := by decide +kernel
theorem dX7_wish_63 : decode cX7_wish 63 = .ok (.ifCond .ne 5, 3) := by decide +kernel
theorem dX7_wish_66 : decode cX7_wish 66 = .ok (.iconst (-1), 1) := by decide +kernel
theorem dX7_wish_67 : decode cX7_wish 67 = .ok (.ireturn, 1) := by decide +kernel
theorem dX7_wish_68 : decode cX7_wish 68 = .ok (.iinc 3 1, 3) := by decide +kernel
theorem dX7_wish_71 : decode cX7_wish 71 = .ok (.goto (-42), 3) := by decide +kernel
theorem dX7_wish_74 : decode cX7_wish 74 = .ok (.aload_n 0, 1) := by decide +kernel
theorem dX7_wish_75 : decode cX7_wish 75 = .ok (.getfield 52, 3) := by decide +kernel
theorem dX7_wish_78 : decode cX7_wish 78 = .ok (.aload_n 0, 1) := by decide +kernel
theorem dX7_wish_79 : decode cX7_wish 79 = .ok (.getfield 102, 3) := by decide +kernel
theorem dX7_wish_82 : decode cX7_wish 82 = .ok (.iload_n 1, 1) := by decide +kernel
theorem dX7_wish_83 : decode cX7_wish 83 = .ok (.iastore, 1) := by decide +kernel
theorem dX7_wish_84 : decode cX7_wish 84 = .ok (.aload_n 0, 1) := by decide +kernel
theorem dX7_wish_85 : decode cX7_wish 85 = .ok (.getfield 55, 3) := by decide +kernel
theorem dX7_wish_88 : decode cX7_wish 88 = .ok (.aload_n 0, 1) := by decide +kernel
theorem dX7_wish_89 : decode cX7_wish 89 = .ok (.getfield 102, 3) := by decide +kernel
theorem dX7_wish_92 : decode cX7_wish 92 = .ok (.iload_n 2, 1) := by decide +kernel
theorem dX7_wish_93 : decode cX7_wish 93 = .ok (.iastore, 1) := by decide +kernel
theorem dX7_wish_94 : decode cX7_wish 94 = .ok (.aload_n 0, 1) := by decide +kernel
theorem dX7_wish_95 : decode cX7_wish 95 = .ok (.getfield 64, 3) := by decide +kernel
theorem dX7_wish_98 : decode cX7_wish 98 = .ok (.aload_n 0, 1) := by decide +kernel
theorem dX7_wish_99 : decode cX7_wish 99 = .ok (.getfield 102, 3) := by decide +kernel
theorem dX7_wish_102 : decode cX7_wish 102 = .ok (.aload_n 0, 1) := by decide +kernel
theorem dX7_wish_103 : decode cX7_wish 103 = .ok (.getfield 112, 3) := by decide +kernel
theorem dX7_wish_106 : decode cX7_wish 106 = .ok (.iastore, 1) := by decide +kernel
theorem dX7_wish_107 : decode cX7_wish 107 = .ok (.aload_n 0, 1) := by decide +kernel
theorem dX7_wish_108 : decode cX7_wish 108 = .ok (.dup, 1) := by decide +kernel
theorem dX7_wish_109 : decode cX7_wish 109 = .ok (.getfield 102, 3) := by decide +kernel
theorem dX7_wish_112 : decode cX7_wish 112 = .ok (.iconst 1, 1) := by decide +kernel
theorem dX7_wish_113 : decode cX7_wish 113 = .ok (.iadd, 1) := by decide +kernel
theorem dX7_wish_114 : decode cX7_wish 114 = .ok (.putfield 102, 3) := by decide +kernel
theorem dX7_wish_117 : decode cX7_wish 117 = .ok (.aload_n 0, 1) := by decide +kernel
theorem dX7_wish_118 : decode cX7_wish 118 = .ok (.getfield 102, 3) := by decide +kernel
theorem dX7_wish_121 : decode cX7_wish 121 = .ok (.iconst 1, 1) := by decide +kernel
theorem dX7_wish_122 : decode cX7_wish 122 = .ok (.isub, 1) := by decide +kernel
theorem dX7_wish_123 : decode cX7_wish 123 = .ok (.ireturn, 1) := by decide +kernel
set_option maxRecDepth 20000 in
theorem ggX7_unwish_X7_isWish : GoodIn wsX7_unwish wsX7_isWish := goodIn_r _ [6, 7, 8, 9, 5, 10, 11, 12, 13, 14, 15, 16, 17, 18, 19, 20, 21, 22, 23, 24, 25, 26, 27, 28, 29, 30, 31, 32, 33, 34, 35, 36, 37, 38, 39, 40, 41, 42, 43, 44, 45] (by decide +kernel) (by decide +kernel)
set_option maxRecDepth 20000 in
theorem gX7_unwish_X7_isWish : GoodIn wsX7_unwish (wsV RX7 131 RX7 yX7_isWish wsX7_isWish) := goodIn_app (goodIn_of _ (by decide +kernel)) ggX7_unwish_X7_isWish
theorem dX7_unwish_0 : decode cX7_unwish 0 = .ok (.aload_n 0, 1) := by decide +kernel
theorem dX7_unwish_1 : decode cX7_unwish 1 = .ok (.iload_n 1, 1) := by decide +kernel
theorem dX7_unwish_2 : decode cX7_unwish 2 = .ok (.invokevirtual 131, 3) := by decide +kernel
theorem dX7_unwish_5 : decode cX7_unwish 5 = .ok (.ifCond .eq 12, 3) := by decide +kernel
theorem dX7_unwish_8 : decode cX7_unwish 8 = .ok (.aload_n 0, 1) := by decide +kernel
theorem dX7_unwish_9 : decode cX7_unwish 9 = .ok (.getfield 58, 3) := by decide +kernel
theorem dX7_unwish_12 : decode cX7_unwish 12 = .ok (.iload_n 1, 1) := by decide +kernel
theorem dX7_unwish_13 : decode cX7_unwish 13 = .ok (.iaload, 1) := by decide +kernel
theorem dX7_unwish_14 : decode cX7_unwish 14 = .ok (.ifCond .eq 5, 3) := by decide +kernel
theorem dX7_unwish_17 : decode cX7_unwish 17 = .ok (.iconst 0, 1) := by decide +kernel
theorem dX7_unwish_18 : decode cX7_unwish 18 = .ok (.ireturn, 1) := by decide +kernel
theorem dX7_unwish_19 : decode cX7_unwish 19 = .ok (.aload_n 0, 1) := by decide +kernel
theorem dX7_unwish_20 : decode cX7_unwish 20 = .ok (.getfield 58, 3) := by decide +kernel
theorem dX7_unwish_23 : decode cX7_unwish 23 = .ok (.iload_n 1, 1) := by decide +kernel
theorem dX7_unwish_24 : decode cX7_unwish 24 = .ok (.iconst 2, 1) := by decide +kernel
theorem dX7_unwish_25 : decode cX7_unwish 25 = .ok (.iastore, 1) := by decide +kernel
theorem dX7_unwish_26 : decode cX7_unwish 26 = .ok (.iconst 1, 1) := by decide +kernel
theorem dX7_unwish_27 : decode cX7_unwish 27 = .ok (.ireturn, 1) := by decide +kernel
theorem dX7_copyOf_0 : decode cX7_copyOf 0 = .ok (.iconst 0, 1) := by decide +kernel
theorem dX7_copyOf_1 : decode cX7_copyOf 1 = .ok (.istore_n 2, 1) := by decide +kernel
theorem dX7_copyOf_2 : decode cX7_copyOf 2 = .ok (.iload_n 2, 1) := by decide +kernel
theorem dX7_copyOf_3 : decode cX7_copyOf 3 = .ok (.aload_n 0, 1) := by decide +kernel
theorem dX7_copyOf_4 : decode cX7_copyOf 4 = .ok (.getfield 99, 3) := by decide +kernel
theorem dX7_copyOf_7 : decode cX7_copyOf 7 = .ok (.if_icmp .ge 21, 3) := by decide +kernel
theorem dX7_copyOf_10 : decode cX7_copyOf 10 = .ok (.aload_n 0, 1) := by decide +kernel
theorem dX7_copyOf_11 : decode cX7_copyOf 11 = .ok (.getfield 28, 3) := by decide +kernel
theorem dX7_copyOf_14 : decode cX7_copyOf 14 = .ok (.iload_n 2, 1) := by decide +kernel
theorem dX7_copyOf_15 : decode cX7_copyOf 15 = .ok (.iaload, 1) := by decide +kernel
theorem dX7_copyOf_16 : decode cX7_copyOf 16 = .ok (.iload_n 1, 1) := by decide +kernel
theorem dX7_copyOf_17 : decode cX7_copyOf 17 = .ok (.if_icmp .ne 5, 3) := by decide +kernel
theorem dX7_copyOf_20 : decode cX7_copyOf 20 = .ok (.iload_n 2, 1) := by decide +kernel
theorem dX7_copyOf_21 : decode cX7_copyOf 21 = .ok (.ireturn, 1) := by decide +kernel
theorem dX7_copyOf_22 : decode cX7_copyOf 22 = .ok (.iinc 2 1, 3) := by decide +kernel
theorem dX7_copyOf_25 : decode cX7_copyOf 25 = .ok (.goto (-23), 3) := by decide +kernel
theorem dX7_copyOf_28 : decode cX7_copyOf 28 = .ok (.iconst (-1), 1) := by decide +kernel
theorem dX7_copyOf_29 : decode cX7_copyOf 29 = .ok (.ireturn, 1) := by decide +kernel
set_option maxRecDepth 20000 in
theorem ggX7_waits_X7_copyOf : GoodIn wsX7_waits wsX7_copyOf := goodIn_r _ [6, 7, 8, 9, 10, 11, 12, 13, 14, 15, 16, 17, 18, 19, 20, 21, 22, 23, 24, 25, 26, 27, 28, 29, 30, 31, 32, 33, 34, 35, 36, 37, 38, 39, 40, 41, 42, 43] (by decide +kernel) (by decide +kernel)
set_option maxRecDepth 20000 in
theorem gX7_waits_X7_copyOf : GoodIn wsX7_waits (wsV RX7 134 RX7 yX7_copyOf wsX7_copyOf) := goodIn_app (goodIn_of _ (by decide +kernel)) ggX7_waits_X7_copyOf
theorem dX7_waits_0 : decode cX7_waits 0 = .ok (.aload_n 0, 1) := by decide +kernel
theorem dX7_waits_1 : decode cX7_waits 1 = .ok (.getfield 58, 3) := by decide +kernel
theorem dX7_waits_4 : decode cX7_waits 4 = .ok (.iload_n 1, 1) := by decide +kernel
theorem dX7_waits_5 : decode cX7_waits 5 = .ok (.iaload, 1) := by decide +kernel
theorem dX7_waits_6 : decode cX7_waits 6 = .ok (.ifCond .ne 16, 3) := by decide +kernel
theorem dX7_waits_9 : decode cX7_waits 9 = .ok (.aload_n 0, 1) := by decide +kernel
theorem dX7_waits_10 : decode cX7_waits 10 = .ok (.iload_n 1, 1) := by decide +kernel
theorem dX7_waits_11 : decode cX7_waits 11 = .ok (.invokevirtual 134, 3) := by decide +kernel
theorem dX7_waits_14 : decode cX7_waits 14 = .ok (.iconst (-1), 1) := by decide +kernel
theorem dX7_waits_15 : decode cX7_waits 15 = .ok (.if_icmp .ne 7, 3) := by decide +kernel
theorem dX7_waits_18 : decode cX7_waits 18 = .ok (.iconst 1, 1) := by decide +kernel
theorem dX7_waits_19 : decode cX7_waits 19 = .ok (.goto 4, 3) := by decide +kernel
theorem dX7_waits_22 : decode cX7_waits 22 = .ok (.iconst 0, 1) := by decide +kernel
theorem dX7_waits_23 : decode cX7_waits 23 = .ok (.ireturn, 1) := by decide +kernel
theorem dX7_holds_0 : decode cX7_holds 0 = .ok (.iconst 0, 1) := by decide +kernel
theorem dX7_holds_1 : decode cX7_holds 1 = .ok (.istore_n 3, 1) := by decide +kernel
theorem dX7_holds_2 : decode cX7_holds 2 = .ok (.iconst 0, 1) := by decide +kernel
theorem dX7_holds_3 : decode cX7_holds 3 = .ok (.istore 4, 2) := by decide +kernel
theorem dX7_holds_5 : decode cX7_holds 5 = .ok (.iload 4, 2) := by decide +kernel
theorem dX7_holds_7 : decode cX7_holds 7 = .ok (.aload_n 0, 1) := by decide +kernel
theorem dX7_holds_8 : decode cX7_holds 8 = .ok (.getfield 99, 3) := by decide +kernel
theorem dX7_holds_11 : decode cX7_holds 11 = .ok (.if_icmp .ge 39, 3) := by decide +kernel
theorem dX7_holds_14 : decode cX7_holds 14 = .ok (.iload_n 3, 1) := by decide +kernel
theorem dX7_holds_15 : decode cX7_holds 15 = .ok (.aload_n 0, 1) := by decide +kernel
theorem dX7_holds_16 : decode cX7_holds 16 = .ok (.getfield 25, 3) := by decide +kernel
theorem dX7_holds_19 : decode cX7_holds 19 = .ok (.iload 4, 2) := by decide +kernel
theorem dX7_holds_21 : decode cX7_holds 21 = .ok (.iaload, 1) := by decide +kernel
theorem dX7_holds_22 : decode cX7_holds 22 = .ok (.iload_n 1, 1) := by decide +kernel
theorem dX7_holds_23 : decode cX7_holds 23 = .ok (.if_icmp .ne 18, 3) := by decide +kernel
theorem dX7_holds_26 : decode cX7_holds 26 = .ok (.aload_n 0, 1) := by decide +kernel
theorem dX7_holds_27 : decode cX7_holds 27 = .ok (.getfield 22, 3) := by decide +kernel
theorem dX7_holds_30 : decode cX7_holds 30 = .ok (.iload 4, 2) := by decide +kernel
theorem dX7_holds_32 : decode cX7_holds 32 = .ok (.iaload, 1) := by decide +kernel
theorem dX7_holds_33 : decode cX7_holds 33 = .ok (.iload_n 2, 1) := by decide +kernel
theorem dX7_holds_34 : decode cX7_holds 34 = .ok (.if_icmp .ne 7, 3) := by decide +kernel
theorem dX7_holds_37 : decode cX7_holds 37 = .ok (.iconst 1, 1) := by decide +kernel
theorem dX7_holds_38 : decode cX7_holds 38 = .ok (.goto 4, 3) := by decide +kernel
theorem dX7_holds_41 : decode cX7_holds 41 = .ok (.iconst 0, 1) := by decide +kernel
theorem dX7_holds_42 : decode cX7_holds 42 = .ok (.iadd, 1) := by decide +kernel
theorem dX7_holds_43 : decode cX7_holds 43 = .ok (.istore_n 3, 1) := by decide +kernel
theorem dX7_holds_44 : decode cX7_holds 44 = .ok (.iinc 4 1, 3) := by decide +kernel
theorem dX7_holds_47 : decode cX7_holds 47 = .ok (.goto (-42), 3) := by decide +kernel
theorem dX7_holds_50 : decode cX7_holds 50 = .ok (.iload_n 3, 1) := by decide +kernel
theorem dX7_holds_51 : decode cX7_holds 51 = .ok (.ireturn, 1) := by decide +kernel
theorem dX7_most_0 : decode cX7_most 0 = .ok (.aload_n 0, 1) := by decide +kernel
theorem dX7_most_1 : decode cX7_most 1 = .ok (.getfield 40, 3) := by decide +kernel
theorem dX7_most_4 : decode cX7_most 4 = .ok (.iload_n 1, 1) := by decide +kernel
theorem dX7_most_5 : decode cX7_most 5 = .ok (.iaload, 1) := by decide +kernel
theorem dX7_most_6 : decode cX7_most 6 = .ok (.ifCond .ne 7, 3) := by decide +kernel
theorem dX7_most_9 : decode cX7_most 9 = .ok (.iconst 1, 1) := by decide +kernel
theorem dX7_most_10 : decode cX7_most 10 = .ok (.goto 19, 3) := by decide +kernel
theorem dX7_most_13 : decode cX7_most 13 = .ok (.aload_n 0, 1) := by decide +kernel
theorem dX7_most_14 : decode cX7_most 14 = .ok (.getfield 40, 3) := by decide +kernel
theorem dX7_most_17 : decode cX7_most 17 = .ok (.iload_n 1, 1) := by decide +kernel
theorem dX7_most_18 : decode cX7_most 18 = .ok (.iaload, 1) := by decide +kernel
theorem dX7_most_19 : decode cX7_most 19 = .ok (.iconst 1, 1) := by decide +kernel
theorem dX7_most_20 : decode cX7_most 20 = .ok (.if_icmp .ne 7, 3) := by decide +kernel
theorem dX7_most_23 : decode cX7_most 23 = .ok (.iconst 3, 1) := by decide +kernel
theorem dX7_most_24 : decode cX7_most 24 = .ok (.goto 5, 3) := by decide +kernel
theorem dX7_most_27 : decode cX7_most 27 = .ok (.bipush 6, 2) := by decide +kernel
theorem dX7_most_29 : decode cX7_most 29 = .ok (.ireturn, 1) := by decide +kernel
theorem dX7_term_0 : decode cX7_term 0 = .ok (.iload_n 0, 1) := by decide +kernel
theorem dX7_term_1 : decode cX7_term 1 = .ok (.ifCond .ne 8, 3) := by decide +kernel
theorem dX7_term_4 : decode cX7_term 4 = .ok (.bipush 7, 2) := by decide +kernel
theorem dX7_term_6 : decode cX7_term 6 = .ok (.goto 15, 3) := by decide +kernel
theorem dX7_term_9 : decode cX7_term 9 = .ok (.iload_n 0, 1) := by decide +kernel
theorem dX7_term_10 : decode cX7_term 10 = .ok (.iconst 1, 1) := by decide +kernel
theorem dX7_term_11 : decode cX7_term 11 = .ok (.if_icmp .ne 8, 3) := by decide +kernel
theorem dX7_term_14 : decode cX7_term 14 = .ok (.bipush 14, 2) := by decide +kernel
theorem dX7_term_16 : decode cX7_term 16 = .ok (.goto 5, 3) := by decide +kernel
theorem dX7_term_19 : decode cX7_term 19 = .ok (.bipush 28, 2) := by decide +kernel
theorem dX7_term_21 : decode cX7_term 21 = .ok (.ireturn, 1) := by decide +kernel
theorem dX7_boxes_0 : decode cX7_boxes 0 = .ok (.iconst 0, 1) := by decide +kernel
theorem dX7_boxes_1 : decode cX7_boxes 1 = .ok (.istore_n 1, 1) := by decide +kernel
theorem dX7_boxes_2 : decode cX7_boxes 2 = .ok (.iload_n 1, 1) := by decide +kernel
theorem dX7_boxes_3 : decode cX7_boxes 3 = .ok (.aload_n 0, 1) := by decide +kernel
theorem dX7_boxes_4 : decode cX7_boxes 4 = .ok (.getfield 99, 3) := by decide +kernel
theorem dX7_boxes_7 : decode cX7_boxes 7 = .ok (.if_icmp .ge 98, 3) := by decide +kernel
theorem dX7_boxes_10 : decode cX7_boxes 10 = .ok (.aload_n 0, 1) := by decide +kernel
theorem dX7_boxes_11 : decode cX7_boxes 11 = .ok (.getfield 22, 3) := by decide +kernel
theorem dX7_boxes_14 : decode cX7_boxes 14 = .ok (.iload_n 1, 1) := by decide +kernel
theorem dX7_boxes_15 : decode cX7_boxes 15 = .ok (.iaload, 1) := by decide +kernel
theorem dX7_boxes_16 : decode cX7_boxes 16 = .ok (.iconst 2, 1) := by decide +kernel
theorem dX7_boxes_17 : decode cX7_boxes 17 = .ok (.if_icmp .eq 16, 3) := by decide +kernel
theorem dX7_boxes_20 : decode cX7_boxes 20 = .ok (.aload_n 0, 1) := by decide +kernel
theorem dX7_boxes_21 : decode cX7_boxes 21 = .ok (.getfield 22, 3) := by decide +kernel
theorem dX7_boxes_24 : decode cX7_boxes 24 = .ok (.iload_n 1, 1) := by decide +kernel
theorem dX7_boxes_25 : decode cX7_boxes 25 = .ok (.iaload, 1) := by decide +kernel
theorem dX7_boxes_26 : decode cX7_boxes 26 = .ok (.iconst 3, 1) := by decide +kernel
theorem dX7_boxes_27 : decode cX7_boxes 27 = .ok (.if_icmp .eq 6, 3) := by decide +kernel
theorem dX7_boxes_30 : decode cX7_boxes 30 = .ok (.goto 69, 3) := by decide +kernel
theorem dX7_boxes_33 : decode cX7_boxes 33 = .ok (.aload_n 0, 1) := by decide +kernel
theorem dX7_boxes_34 : decode cX7_boxes 34 = .ok (.getfield 34, 3) := by decide +kernel
theorem dX7_boxes_37 : decode cX7_boxes 37 = .ok (.iload_n 1, 1) := by decide +kernel
theorem dX7_boxes_38 : decode cX7_boxes 38 = .ok (.dup2, 1) := by decide +kernel
theorem dX7_boxes_39 : decode cX7_boxes 39 = .ok (.iaload, 1) := by decide +kernel
theorem dX7_boxes_40 : decode cX7_boxes 40 = .ok (.iconst 1, 1) := by decide +kernel
theorem dX7_boxes_41 : decode cX7_boxes 41 = .ok (.isub, 1) := by decide +kernel
theorem dX7_boxes_42 : decode cX7_boxes 42 = .ok (.iastore, 1) := by decide +kernel
theorem dX7_boxes_43 : decode cX7_boxes 43 = .ok (.aload_n 0, 1) := by decide +kernel
theorem dX7_boxes_44 : decode cX7_boxes 44 = .ok (.getfield 34, 3) := by decide +kernel
theorem dX7_boxes_47 : decode cX7_boxes 47 = .ok (.iload_n 1, 1) := by decide +kernel
theorem dX7_boxes_48 : decode cX7_boxes 48 = .ok (.iaload, 1) := by decide +kernel
theorem dX7_boxes_49 : decode cX7_boxes 49 = .ok (.ifCond .le 6, 3) := by decide +kernel
theorem dX7_boxes_52 : decode cX7_boxes 52 = .ok (.goto 47, 3) := by decide +kernel
theorem dX7_boxes_55 : decode cX7_boxes 55 = .ok (.aload_n 0, 1) := by decide +kernel
theorem dX7_boxes_56 : decode cX7_boxes 56 = .ok (.getfield 22, 3) := by decide +kernel
theorem dX7_boxes_59 : decode cX7_boxes 59 = .ok (.iload_n 1, 1) := by decide +kernel
theorem dX7_boxes_60 : decode cX7_boxes 60 = .ok (.iaload, 1) := by decide +kernel
theorem dX7_boxes_61 : decode cX7_boxes 61 = .ok (.iconst 2, 1) := by decide +kernel
theorem dX7_boxes_62 : decode cX7_boxes 62 = .ok (.if_icmp .ne 23, 3) := by decide +kernel
theorem dX7_boxes_65 : decode cX7_boxes 65 = .ok (.aload_n 0, 1) := by decide +kernel
theorem dX7_boxes_66 : decode cX7_boxes 66 = .ok (.getfield 22, 3) := by decide +kernel
theorem dX7_boxes_69 : decode cX7_boxes 69 = .ok (.iload_n 1, 1) := by decide +kernel
theorem dX7_boxes_70 : decode cX7_boxes 70 = .ok (.iconst 1, 1) := by decide +kernel
theorem dX7_boxes_71 : decode cX7_boxes 71 = .ok (.iastore, 1) := by decide +kernel
theorem dX7_boxes_72 : decode cX7_boxes 72 = .ok (.aload_n 0, 1) := by decide +kernel
theorem dX7_boxes_73 : decode cX7_boxes 73 = .ok (.getfield 31, 3) := by decide +kernel
theorem dX7_boxes_76 : decode cX7_boxes 76 = .ok (.iload_n 1, 1) := by decide +kernel
theorem dX7_boxes_77 : decode cX7_boxes 77 = .ok (.aload_n 0, 1) := by decide +kernel
theorem dX7_boxes_78 : decode cX7_boxes 78 = .ok (.getfield 112, 3) := by decide +kernel
theorem dX7_boxes_81 : decode cX7_boxes 81 = .ok (.iastore, 1) := by decide +kernel
theorem dX7_boxes_82 : decode cX7_boxes 82 = .ok (.goto 17, 3) := by decide +kernel
theorem dX7_boxes_85 : decode cX7_boxes 85 = .ok (.aload_n 0, 1) := by decide +kernel
theorem dX7_boxes_86 : decode cX7_boxes 86 = .ok (.getfield 22, 3) := by decide +kernel
theorem dX7_boxes_89 : decode cX7_boxes 89 = .ok (.iload_n 1, 1) := by decide +kernel
theorem dX7_boxes_90 : decode cX7_boxes 90 = .ok (.iconst 0, 1) := by decide +kernel
theorem dX7_boxes_91 : decode cX7_boxes 91 = .ok (.iastore, 1) := by decide +kernel
theorem dX7_boxes_92 : decode cX7_boxes 92 = .ok (.aload_n 0, 1) := by decide +kernel
theorem dX7_boxes_93 : decode cX7_boxes 93 = .ok (.getfield 25, 3) := by decide +kernel
theorem dX7_boxes_96 : decode cX7_boxes 96 = .ok (.iload_n 1, 1) := by decide +kernel
theorem dX7_boxes_97 : decode cX7_boxes 97 = .ok (.iconst (-1), 1) := by decide +kernel
theorem dX7_boxes_98 : decode cX7_boxes 98 = .ok (.iastore, 1) := by decide +kernel
theorem dX7_boxes_99 : decode cX7_boxes 99 = .ok (.iinc 1 1, 3) := by decide +kernel
theorem dX7_boxes_102 : decode cX7_boxes 102 = .ok (.goto (-100), 3) := by decide +kernel
theorem dX7_boxes_105 : decode cX7_boxes 105 = .ok (.return_, 1) := by decide +kernel
theorem dX7_shelved_0 : decode cX7_shelved 0 = .ok (.iconst 0, 1) := by decide +kernel
theorem dX7_shelved_1 : decode cX7_shelved 1 = .ok (.istore_n 3, 1) := by decide +kernel
theorem dX7_shelved_2 : decode cX7_shelved 2 = .ok (.iload_n 3, 1) := by decide +kernel
theorem dX7_shelved_3 : decode cX7_shelved 3 = .ok (.aload_n 0, 1) := by decide +kernel
theorem dX7_shelved_4 : decode cX7_shelved 4 = .ok (.getfield 99, 3) := by decide +kernel
theorem dX7_shelved_7 : decode cX7_shelved 7 = .ok (.if_icmp .ge 40, 3) := by decide +kernel
theorem dX7_shelved_10 : decode cX7_shelved 10 = .ok (.aload_n 0, 1) := by decide +kernel
theorem dX7_shelved_11 : decode cX7_shelved 11 = .ok (.getfield 13, 3) := by decide +kernel
theorem dX7_shelved_14 : decode cX7_shelved 14 = .ok (.iload_n 3, 1) := by decide +kernel
theorem dX7_shelved_15 : decode cX7_shelved 15 = .ok (.iaload, 1) := by decide +kernel
theorem dX7_shelved_16 : decode cX7_shelved 16 = .ok (.iload_n 1, 1) := by decide +kernel
theorem dX7_shelved_17 : decode cX7_shelved 17 = .ok (.if_icmp .ne 24, 3) := by decide +kernel
theorem dX7_shelved_20 : decode cX7_shelved 20 = .ok (.aload_n 0, 1) := by decide +kernel
theorem dX7_shelved_21 : decode cX7_shelved 21 = .ok (.getfield 16, 3) := by decide +kernel
theorem dX7_shelved_24 : decode cX7_shelved 24 = .ok (.iload_n 3, 1) := by decide +kernel
theorem dX7_shelved_25 : decode cX7_shelved 25 = .ok (.iaload, 1) := by decide +kernel
theorem dX7_shelved_26 : decode cX7_shelved 26 = .ok (.iload_n 2, 1) := by decide +kernel
theorem dX7_shelved_27 : decode cX7_shelved 27 = .ok (.if_icmp .ne 14, 3) := by decide +kernel
theorem dX7_shelved_30 : decode cX7_shelved 30 = .ok (.aload_n 0, 1) := by decide +kernel
theorem dX7_shelved_31 : decode cX7_shelved 31 = .ok (.getfield 22, 3) := by decide +kernel
theorem dX7_shelved_34 : decode cX7_shelved 34 = .ok (.iload_n 3, 1) := by decide +kernel
theorem dX7_shelved_35 : decode cX7_shelved 35 = .ok (.iaload, 1) := by decide +kernel
theorem dX7_shelved_36 : decode cX7_shelved 36 = .ok (.ifCond .ne 5, 3) := by decide +kernel
theorem dX7_shelved_39 : decode cX7_shelved 39 = .ok (.iload_n 3, 1) := by decide +kernel
theorem dX7_shelved_40 : decode cX7_shelved 40 = .ok (.ireturn, 1) := by decide +kernel
theorem dX7_shelved_41 : decode cX7_shelved 41 = .ok (.iinc 3 1, 3) := by decide +kernel
theorem dX7_shelved_44 : decode cX7_shelved 44 = .ok (.goto (-42), 3) := by decide +kernel
theorem dX7_shelved_47 : decode cX7_shelved 47 = .ok (.iconst (-1), 1) := by decide +kernel
theorem dX7_shelved_48 : decode cX7_shelved 48 = .ok (.ireturn, 1) := by decide +kernel
set_option maxRecDepth 20000 in
theorem ggX7_canHave_X7_waits : GoodIn wsX7_canHave wsX7_waits := goodIn_r _ [10, 11, 12, 13, 14, 9, 15, 16, 17, 35, 36, 37, 38, 39, 40, 41, 42, 43, 44, 45, 46, 47, 48, 49, 50, 51, 52, 53, 54, 55, 56, 57, 58, 59, 60, 61, 62, 63, 64, 65, 66, 67, 68, 69] (by decide +kernel) (by decide +kernel)
set_option maxRecDepth 20000 in
theorem gX7_canHave_X7_waits : GoodIn wsX7_canHave (wsV RX7 137 RX7 yX7_waits wsX7_waits) := goodIn_app (goodIn_of _ (by decide +kernel)) ggX7_canHave_X7_waits
set_option maxRecDepth 20000 in
theorem ggX7_canHave_X7_shelved : GoodIn wsX7_canHave wsX7_shelved := goodIn_r _ [21, 16, 22, 23, 24, 35, 36, 37, 38, 39, 40, 41, 42, 43, 44, 45, 46, 47, 48, 49, 50, 51, 52, 53, 54, 55, 56, 57, 58, 59, 60, 61, 62, 63, 64, 65, 66, 67, 68, 69] (by decide +kernel) (by decide +kernel)
set_option maxRecDepth 20000 in
theorem gX7_canHave_X7_shelved : GoodIn wsX7_canHave (wsV RX7 140 RX7 yX7_shelved wsX7_shelved) := goodIn_app (goodIn_of _ (by decide +kernel)) ggX7_canHave_X7_shelved
set_option maxRecDepth 20000 in
theorem ggX7_canHave_X7_holds : GoodIn wsX7_canHave wsX7_holds := goodIn_r _ [28, 16, 29, 24, 35, 36, 37, 38, 39, 40, 41, 42, 43, 44, 45, 46, 47, 48, 49, 50, 51, 52, 53, 54, 55, 56, 57, 58, 59, 60, 61, 62, 63, 64, 65, 66, 67, 68, 69] (by decide +kernel) (by decide +kernel)
set_option maxRecDepth 20000 in
theorem gX7_canHave_X7_holds : GoodIn wsX7_canHave (wsV RX7 144 RX7 yX7_holds wsX7_holds) := goodIn_app (goodIn_of _ (by decide +kernel)) ggX7_canHave_X7_holds
set_option maxRecDepth 20000 in
theorem ggX7_canHave_X7_most : GoodIn wsX7_canHave wsX7_most := goodIn_r _ [33, 34, 35, 36, 37, 38, 39, 40, 41, 42, 43, 44, 45, 46, 47, 48, 49, 50, 51, 52, 53, 54, 55, 56, 57, 58, 59, 60, 61, 62, 63, 64, 65, 66, 67, 68, 69] (by decide +kernel) (by decide +kernel)
set_option maxRecDepth 20000 in
theorem gX7_canHave_X7_most : GoodIn wsX7_canHave (wsV RX7 147 RX7 yX7_most wsX7_most) := goodIn_app (goodIn_of _ (by decide +kernel)) ggX7_canHave_X7_most
theorem dX7_canHave_0 : decode cX7_canHave 0 = .ok (.aload_n 0, 1) := by decide +kernel
theorem dX7_canHave_1 : decode cX7_canHave 1 = .ok (.getfield 52, 3) := by decide +kernel
theorem dX7_canHave_4 : decode cX7_canHave 4 = .ok (.iload_n 1, 1) := by decide +kernel
theorem dX7_canHave_5 : decode cX7_canHave 5 = .ok (.iaload, 1) := by decide +kernel
theorem dX7_canHave_6 : decode cX7_canHave 6 = .ok (.istore_n 2, 1) := by decide +kernel
theorem dX7_canHave_7 : decode cX7_canHave 7 = .ok (.aload_n 0, 1) := by decide +kernel
theorem dX7_canHave_8 : decode cX7_canHave 8 = .ok (.iload_n 1, 1) := by decide +kernel
theorem dX7_canHave_9 : decode cX7_canHave 9 = .ok (.invokevirtual 137, 3) := by decide +kernel
theorem dX7_canHave_12 : decode cX7_canHave 12 = .ok (.ifCond .eq 36, 3) := by decide +kernel
theorem dX7_canHave_15 : decode cX7_canHave 15 = .ok (.aload_n 0, 1) := by decide +kernel
theorem dX7_canHave_16 : decode cX7_canHave 16 = .ok (.getfield 46, 3) := by decide +kernel
theorem dX7_canHave_19 : decode cX7_canHave 19 = .ok (.iload_n 2, 1) := by decide +kernel
theorem dX7_canHave_20 : decode cX7_canHave 20 = .ok (.iaload, 1) := by decide +kernel
theorem dX7_canHave_21 : decode cX7_canHave 21 = .ok (.aload_n 0, 1) := by decide +kernel
theorem dX7_canHave_22 : decode cX7_canHave 22 = .ok (.getfield 112, 3) := by decide +kernel
theorem dX7_canHave_25 : decode cX7_canHave 25 = .ok (.if_icmp .lt 23, 3) := by decide +kernel
theorem dX7_canHave_28 : decode cX7_canHave 28 = .ok (.aload_n 0, 1) := by decide +kernel
theorem dX7_canHave_29 : decode cX7_canHave 29 = .ok (.aload_n 0, 1) := by decide +kernel
theorem dX7_canHave_30 : decode cX7_canHave 30 = .ok (.getfield 55, 3) := by decide +kernel
theorem dX7_canHave_33 : decode cX7_canHave 33 = .ok (.iload_n 1, 1) := by decide +kernel
theorem dX7_canHave_34 : decode cX7_canHave 34 = .ok (.iaload, 1) := by decide +kernel
theorem dX7_canHave_35 : decode cX7_canHave 35 = .ok (.aload_n 0, 1) := by decide +kernel
theorem dX7_canHave_36 : decode cX7_canHave 36 = .ok (.getfield 61, 3) := by decide +kernel
theorem dX7_canHave_39 : decode cX7_canHave 39 = .ok (.iload_n 1, 1) := by decide +kernel
theorem dX7_canHave_40 : decode cX7_canHave 40 = .ok (.iaload, 1) := by decide +kernel
theorem dX7_canHave_41 : decode cX7_canHave 41 = .ok (.invokevirtual 140, 3) := by decide +kernel
theorem dX7_canHave_44 : decode cX7_canHave 44 = .ok (.iconst (-1), 1) := by decide +kernel
theorem dX7_canHave_45 : decode cX7_canHave 45 = .ok (.if_icmp .ne 5, 3) := by decide +kernel
theorem dX7_canHave_48 : decode cX7_canHave 48 = .ok (.iconst 0, 1) := by decide +kernel
theorem dX7_canHave_49 : decode cX7_canHave 49 = .ok (.ireturn, 1) := by decide +kernel
theorem dX7_canHave_50 : decode cX7_canHave 50 = .ok (.aload_n 0, 1) := by decide +kernel
theorem dX7_canHave_51 : decode cX7_canHave 51 = .ok (.iload_n 2, 1) := by decide +kernel
theorem dX7_canHave_52 : decode cX7_canHave 52 = .ok (.iconst 1, 1) := by decide +kernel
theorem dX7_canHave_53 : decode cX7_canHave 53 = .ok (.invokevirtual 144, 3) := by decide +kernel
theorem dX7_canHave_56 : decode cX7_canHave 56 = .ok (.aload_n 0, 1) := by decide +kernel
theorem dX7_canHave_57 : decode cX7_canHave 57 = .ok (.iload_n 2, 1) := by decide +kernel
theorem dX7_canHave_58 : decode cX7_canHave 58 = .ok (.iconst 2, 1) := by decide +kernel
theorem dX7_canHave_59 : decode cX7_canHave 59 = .ok (.invokevirtual 144, 3) := by decide +kernel
theorem dX7_canHave_62 : decode cX7_canHave 62 = .ok (.iadd, 1) := by decide +kernel
theorem dX7_canHave_63 : decode cX7_canHave 63 = .ok (.aload_n 0, 1) := by decide +kernel
theorem dX7_canHave_64 : decode cX7_canHave 64 = .ok (.iload_n 2, 1) := by decide +kernel
theorem dX7_canHave_65 : decode cX7_canHave 65 = .ok (.iconst 3, 1) := by decide +kernel
theorem dX7_canHave_66 : decode cX7_canHave 66 = .ok (.invokevirtual 144, 3) := by decide +kernel
theorem dX7_canHave_69 : decode cX7_canHave 69 = .ok (.iadd, 1) := by decide +kernel
theorem dX7_canHave_70 : decode cX7_canHave 70 = .ok (.aload_n 0, 1) := by decide +kernel
theorem dX7_canHave_71 : decode cX7_canHave 71 = .ok (.iload_n 2, 1) := by decide +kernel
theorem dX7_canHave_72 : decode cX7_canHave 72 = .ok (.invokevirtual 147, 3) := by decide +kernel
theorem dX7_canHave_75 : decode cX7_canHave 75 = .ok (.if_icmp .ge 7, 3) := by decide +kernel
theorem dX7_canHave_78 : decode cX7_canHave 78 = .ok (.iconst 1, 1) := by decide +kernel
theorem dX7_canHave_79 : decode cX7_canHave 79 = .ok (.goto 4, 3) := by decide +kernel
theorem dX7_canHave_82 : decode cX7_canHave 82 = .ok (.iconst 0, 1) := by decide +kernel
theorem dX7_canHave_83 : decode cX7_canHave 83 = .ok (.ireturn, 1) := by decide +kernel
set_option maxRecDepth 20000 in
theorem ggX7_turns_X7_canHave : GoodIn wsX7_turns wsX7_canHave := goodIn_r _ [9, 3, 10, 11, 12, 13, 14, 15, 16, 8, 17, 18, 19, 20, 21, 22, 23, 24, 25, 26, 27, 28, 29, 30, 31, 32, 33, 34, 35, 36, 37, 38, 39, 40, 2, 49, 50, 51, 52, 53, 54, 55, 56, 57, 58, 59, 60, 61, 62, 63, 64, 65, 66, 67, 68, 69, 70, 71, 72, 73, 74, 75, 76, 77, 78, 79, 80, 81, 82, 83] (by decide +kernel) (by decide +kernel)
set_option maxRecDepth 20000 in
theorem gX7_turns_X7_canHave : GoodIn wsX7_turns (wsV RX7 150 RX7 yX7_canHave wsX7_canHave) := goodIn_app (goodIn_of _ (by decide +kernel)) ggX7_turns_X7_canHave
set_option maxRecDepth 20000 in
theorem ggX7_turns_X7_gets : GoodIn wsX7_turns wsX7_gets := goodIn_r _ [44, 3, 12, 13, 36, 24, 45, 46, 47, 31, 48, 11, 25, 26, 27, 8, 28, 23, 29, 30, 49, 50, 51, 52, 53, 54, 55, 56, 57, 58, 59, 60, 61, 62, 63, 64, 65, 66, 67, 68, 69, 70, 71, 72, 73, 74, 75, 76, 77, 78, 79, 80, 81, 82, 83] (by decide +kernel) (by decide +kernel)
set_option maxRecDepth 20000 in
theorem gX7_turns_X7_gets : GoodIn wsX7_turns (wsV RX7 153 RX7 yX7_gets wsX7_gets) := goodIn_app (goodIn_of _ (by decide +kernel)) ggX7_turns_X7_gets
theorem dX7_turns_0 : decode cX7_turns 0 = .ok (.iconst 0, 1) := by decide +kernel
theorem dX7_turns_1 : decode cX7_turns 1 = .ok (.istore_n 1, 1) := by decide +kernel
theorem dX7_turns_2 : decode cX7_turns 2 = .ok (.iload_n 1, 1) := by decide +kernel
theorem dX7_turns_3 : decode cX7_turns 3 = .ok (.iconst (-1), 1) := by decide +kernel
theorem dX7_turns_4 : decode cX7_turns 4 = .ok (.if_icmp .eq 117, 3) := by decide +kernel
theorem dX7_turns_7 : decode cX7_turns 7 = .ok (.iconst (-1), 1) := by decide +kernel
theorem dX7_turns_8 : decode cX7_turns 8 = .ok (.istore_n 1, 1) := by decide +kernel
theorem dX7_turns_9 : decode cX7_turns 9 = .ok (.iconst 0, 1) := by decide +kernel
theorem dX7_turns_10 : decode cX7_turns 10 = .ok (.istore_n 2, 1) := by decide +kernel
theorem dX7_turns_11 : decode cX7_turns 11 = .ok (.iload_n 2, 1) := by decide +kernel
theorem dX7_turns_12 : decode cX7_turns 12 = .ok (.aload_n 0, 1) := by decide +kernel
theorem dX7_turns_13 : decode cX7_turns 13 = .ok (.getfield 102, 3) := by decide +kernel
theorem dX7_turns_16 : decode cX7_turns 16 = .ok (.if_icmp .ge 92, 3) := by decide +kernel
theorem dX7_turns_19 : decode cX7_turns 19 = .ok (.aload_n 0, 1) := by decide +kernel
theorem dX7_turns_20 : decode cX7_turns 20 = .ok (.iload_n 2, 1) := by decide +kernel
theorem dX7_turns_21 : decode cX7_turns 21 = .ok (.invokevirtual 150, 3) := by decide +kernel
theorem dX7_turns_24 : decode cX7_turns 24 = .ok (.ifCond .ne 6, 3) := by decide +kernel
theorem dX7_turns_27 : decode cX7_turns 27 = .ok (.goto 75, 3) := by decide +kernel
theorem dX7_turns_30 : decode cX7_turns 30 = .ok (.iload_n 1, 1) := by decide +kernel
theorem dX7_turns_31 : decode cX7_turns 31 = .ok (.iconst (-1), 1) := by decide +kernel
theorem dX7_turns_32 : decode cX7_turns 32 = .ok (.if_icmp .eq 68, 3) := by decide +kernel
theorem dX7_turns_35 : decode cX7_turns 35 = .ok (.aload_n 0, 1) := by decide +kernel
theorem dX7_turns_36 : decode cX7_turns 36 = .ok (.getfield 40, 3) := by decide +kernel
theorem dX7_turns_39 : decode cX7_turns 39 = .ok (.aload_n 0, 1) := by decide +kernel
theorem dX7_turns_40 : decode cX7_turns 40 = .ok (.getfield 52, 3) := by decide +kernel
theorem dX7_turns_43 : decode cX7_turns 43 = .ok (.iload_n 2, 1) := by decide +kernel
theorem dX7_turns_44 : decode cX7_turns 44 = .ok (.iaload, 1) := by decide +kernel
theorem dX7_turns_45 : decode cX7_turns 45 = .ok (.iaload, 1) := by decide +kernel
theorem dX7_turns_46 : decode cX7_turns 46 = .ok (.aload_n 0, 1) := by decide +kernel
theorem dX7_turns_47 : decode cX7_turns 47 = .ok (.getfield 40, 3) := by decide +kernel
theorem dX7_turns_50 : decode cX7_turns 50 = .ok (.aload_n 0, 1) := by decide +kernel
theorem dX7_turns_51 : decode cX7_turns 51 = .ok (.getfield 52, 3) := by decide +kernel
theorem dX7_turns_54 : decode cX7_turns 54 = .ok (.iload_n 1, 1) := by decide +kernel
theorem dX7_turns_55 : decode cX7_turns 55 = .ok (.iaload, 1) := by decide +kernel
theorem dX7_turns_56 : decode cX7_turns 56 = .ok (.iaload, 1) := by decide +kernel
theorem dX7_turns_57 : decode cX7_turns 57 = .ok (.if_icmp .gt 43, 3) := by decide +kernel
theorem dX7_turns_60 : decode cX7_turns 60 = .ok (.aload_n 0, 1) := by decide +kernel
theorem dX7_turns_61 : decode cX7_turns 61 = .ok (.getfield 40, 3) := by decide +kernel
theorem dX7_turns_64 : decode cX7_turns 64 = .ok (.aload_n 0, 1) := by decide +kernel
theorem dX7_turns_65 : decode cX7_turns 65 = .ok (.getfield 52, 3) := by decide +kernel
theorem dX7_turns_68 : decode cX7_turns 68 = .ok (.iload_n 2, 1) := by decide +kernel
theorem dX7_turns_69 : decode cX7_turns 69 = .ok (.iaload, 1) := by decide +kernel
theorem dX7_turns_70 : decode cX7_turns 70 = .ok (.iaload, 1) := by decide +kernel
theorem dX7_turns_71 : decode cX7_turns 71 = .ok (.aload_n 0, 1) := by decide +kernel
theorem dX7_turns_72 : decode cX7_turns 72 = .ok (.getfield 40, 3) := by decide +kernel
theorem dX7_turns_75 : decode cX7_turns 75 = .ok (.aload_n 0, 1) := by decide +kernel
theorem dX7_turns_76 : decode cX7_turns 76 = .ok (.getfield 52, 3) := by decide +kernel
theorem dX7_turns_79 : decode cX7_turns 79 = .ok (.iload_n 1, 1) := by decide +kernel
theorem dX7_turns_80 : decode cX7_turns 80 = .ok (.iaload, 1) := by decide +kernel
theorem dX7_turns_81 : decode cX7_turns 81 = .ok (.iaload, 1) := by decide +kernel
theorem dX7_turns_82 : decode cX7_turns 82 = .ok (.if_icmp .ne 20, 3) := by decide +kernel
theorem dX7_turns_85 : decode cX7_turns 85 = .ok (.aload_n 0, 1) := by decide +kernel
theorem dX7_turns_86 : decode cX7_turns 86 = .ok (.getfield 64, 3) := by decide +kernel
theorem dX7_turns_89 : decode cX7_turns 89 = .ok (.iload_n 2, 1) := by decide +kernel
theorem dX7_turns_90 : decode cX7_turns 90 = .ok (.iaload, 1) := by decide +kernel
theorem dX7_turns_91 : decode cX7_turns 91 = .ok (.aload_n 0, 1) := by decide +kernel
theorem dX7_turns_92 : decode cX7_turns 92 = .ok (.getfield 64, 3) := by decide +kernel
theorem dX7_turns_95 : decode cX7_turns 95 = .ok (.iload_n 1, 1) := by decide +kernel
theorem dX7_turns_96 : decode cX7_turns 96 = .ok (.iaload, 1) := by decide +kernel
theorem dX7_turns_97 : decode cX7_turns 97 = .ok (.if_icmp .ge 5, 3) := by decide +kernel
theorem dX7_turns_100 : decode cX7_turns 100 = .ok (.iload_n 2, 1) := by decide +kernel
theorem dX7_turns_101 : decode cX7_turns 101 = .ok (.istore_n 1, 1) := by decide +kernel
theorem dX7_turns_102 : decode cX7_turns 102 = .ok (.iinc 2 1, 3) := by decide +kernel
theorem dX7_turns_105 : decode cX7_turns 105 = .ok (.goto (-94), 3) := by decide +kernel
theorem dX7_turns_108 : decode cX7_turns 108 = .ok (.iload_n 1, 1) := by decide +kernel
theorem dX7_turns_109 : decode cX7_turns 109 = .ok (.iconst (-1), 1) := by decide +kernel
theorem dX7_turns_110 : decode cX7_turns 110 = .ok (.if_icmp .eq (-108), 3) := by decide +kernel
theorem dX7_turns_113 : decode cX7_turns 113 = .ok (.aload_n 0, 1) := by decide +kernel
theorem dX7_turns_114 : decode cX7_turns 114 = .ok (.iload_n 1, 1) := by decide +kernel
theorem dX7_turns_115 : decode cX7_turns 115 = .ok (.invokevirtual 153, 3) := by decide +kernel
theorem dX7_turns_118 : decode cX7_turns 118 = .ok (.goto (-116), 3) := by decide +kernel
theorem dX7_turns_121 : decode cX7_turns 121 = .ok (.return_, 1) := by decide +kernel
set_option maxRecDepth 20000 in
theorem ggX7_gets_X7_shelved : GoodIn wsX7_gets wsX7_shelved := goodIn_r _ [16, 17, 18, 19, 9, 20, 21, 22, 23, 24, 25, 26, 27, 28, 29, 30, 31, 32, 33, 34, 35, 36, 37, 38, 39, 40, 41, 42, 43, 44, 45, 46, 47, 48, 49, 50, 51, 52, 53, 54] (by decide +kernel) (by decide +kernel)
set_option maxRecDepth 20000 in
theorem gX7_gets_X7_shelved : GoodIn wsX7_gets (wsV RX7 140 RX7 yX7_shelved wsX7_shelved) := goodIn_app (goodIn_of _ (by decide +kernel)) ggX7_gets_X7_shelved
theorem dX7_gets_0 : decode cX7_gets 0 = .ok (.aload_n 0, 1) := by decide +kernel
theorem dX7_gets_1 : decode cX7_gets 1 = .ok (.getfield 52, 3) := by decide +kernel
theorem dX7_gets_4 : decode cX7_gets 4 = .ok (.iload_n 1, 1) := by decide +kernel
theorem dX7_gets_5 : decode cX7_gets 5 = .ok (.iaload, 1) := by decide +kernel
theorem dX7_gets_6 : decode cX7_gets 6 = .ok (.istore_n 2, 1) := by decide +kernel
theorem dX7_gets_7 : decode cX7_gets 7 = .ok (.aload_n 0, 1) := by decide +kernel
theorem dX7_gets_8 : decode cX7_gets 8 = .ok (.aload_n 0, 1) := by decide +kernel
theorem dX7_gets_9 : decode cX7_gets 9 = .ok (.getfield 55, 3) := by decide +kernel
theorem dX7_gets_12 : decode cX7_gets 12 = .ok (.iload_n 1, 1) := by decide +kernel
theorem dX7_gets_13 : decode cX7_gets 13 = .ok (.iaload, 1) := by decide +kernel
theorem dX7_gets_14 : decode cX7_gets 14 = .ok (.aload_n 0, 1) := by decide +kernel
theorem dX7_gets_15 : decode cX7_gets 15 = .ok (.getfield 61, 3) := by decide +kernel
theorem dX7_gets_18 : decode cX7_gets 18 = .ok (.iload_n 1, 1) := by decide +kernel
theorem dX7_gets_19 : decode cX7_gets 19 = .ok (.iaload, 1) := by decide +kernel
theorem dX7_gets_20 : decode cX7_gets 20 = .ok (.invokevirtual 140, 3) := by decide +kernel
theorem dX7_gets_23 : decode cX7_gets 23 = .ok (.istore_n 3, 1) := by decide +kernel
theorem dX7_gets_24 : decode cX7_gets 24 = .ok (.aload_n 0, 1) := by decide +kernel
theorem dX7_gets_25 : decode cX7_gets 25 = .ok (.getfield 25, 3) := by decide +kernel
theorem dX7_gets_28 : decode cX7_gets 28 = .ok (.iload_n 3, 1) := by decide +kernel
theorem dX7_gets_29 : decode cX7_gets 29 = .ok (.iload_n 2, 1) := by decide +kernel
theorem dX7_gets_30 : decode cX7_gets 30 = .ok (.iastore, 1) := by decide +kernel
theorem dX7_gets_31 : decode cX7_gets 31 = .ok (.aload_n 0, 1) := by decide +kernel
theorem dX7_gets_32 : decode cX7_gets 32 = .ok (.getfield 28, 3) := by decide +kernel
theorem dX7_gets_35 : decode cX7_gets 35 = .ok (.iload_n 3, 1) := by decide +kernel
theorem dX7_gets_36 : decode cX7_gets 36 = .ok (.iload_n 1, 1) := by decide +kernel
theorem dX7_gets_37 : decode cX7_gets 37 = .ok (.iastore, 1) := by decide +kernel
theorem dX7_gets_38 : decode cX7_gets 38 = .ok (.aload_n 0, 1) := by decide +kernel
theorem dX7_gets_39 : decode cX7_gets 39 = .ok (.getfield 37, 3) := by decide +kernel
theorem dX7_gets_42 : decode cX7_gets 42 = .ok (.iload_n 3, 1) := by decide +kernel
theorem dX7_gets_43 : decode cX7_gets 43 = .ok (.dup2, 1) := by decide +kernel
theorem dX7_gets_44 : decode cX7_gets 44 = .ok (.iaload, 1) := by decide +kernel
theorem dX7_gets_45 : decode cX7_gets 45 = .ok (.iconst 1, 1) := by decide +kernel
theorem dX7_gets_46 : decode cX7_gets 46 = .ok (.iadd, 1) := by decide +kernel
theorem dX7_gets_47 : decode cX7_gets 47 = .ok (.iastore, 1) := by decide +kernel
theorem dX7_gets_48 : decode cX7_gets 48 = .ok (.aload_n 0, 1) := by decide +kernel
theorem dX7_gets_49 : decode cX7_gets 49 = .ok (.getfield 34, 3) := by decide +kernel
theorem dX7_gets_52 : decode cX7_gets 52 = .ok (.iload_n 3, 1) := by decide +kernel
theorem dX7_gets_53 : decode cX7_gets 53 = .ok (.aload_n 0, 1) := by decide +kernel
theorem dX7_gets_54 : decode cX7_gets 54 = .ok (.getfield 43, 3) := by decide +kernel
theorem dX7_gets_57 : decode cX7_gets 57 = .ok (.iload_n 2, 1) := by decide +kernel
theorem dX7_gets_58 : decode cX7_gets 58 = .ok (.iaload, 1) := by decide +kernel
theorem dX7_gets_59 : decode cX7_gets 59 = .ok (.iastore, 1) := by decide +kernel
theorem dX7_gets_60 : decode cX7_gets 60 = .ok (.aload_n 0, 1) := by decide +kernel
theorem dX7_gets_61 : decode cX7_gets 61 = .ok (.getfield 22, 3) := by decide +kernel
theorem dX7_gets_64 : decode cX7_gets 64 = .ok (.iload_n 3, 1) := by decide +kernel
theorem dX7_gets_65 : decode cX7_gets 65 = .ok (.aload_n 0, 1) := by decide +kernel
theorem dX7_gets_66 : decode cX7_gets 66 = .ok (.getfield 43, 3) := by decide +kernel
theorem dX7_gets_69 : decode cX7_gets 69 = .ok (.iload_n 2, 1) := by decide +kernel
theorem dX7_gets_70 : decode cX7_gets 70 = .ok (.iaload, 1) := by decide +kernel
theorem dX7_gets_71 : decode cX7_gets 71 = .ok (.ifCond .le 7, 3) := by decide +kernel
theorem dX7_gets_74 : decode cX7_gets 74 = .ok (.iconst 2, 1) := by decide +kernel
theorem dX7_gets_75 : decode cX7_gets 75 = .ok (.goto 4, 3) := by decide +kernel
theorem dX7_gets_78 : decode cX7_gets 78 = .ok (.iconst 1, 1) := by decide +kernel
theorem dX7_gets_79 : decode cX7_gets 79 = .ok (.iastore, 1) := by decide +kernel
theorem dX7_gets_80 : decode cX7_gets 80 = .ok (.aload_n 0, 1) := by decide +kernel
theorem dX7_gets_81 : decode cX7_gets 81 = .ok (.getfield 31, 3) := by decide +kernel
theorem dX7_gets_84 : decode cX7_gets 84 = .ok (.iload_n 3, 1) := by decide +kernel
theorem dX7_gets_85 : decode cX7_gets 85 = .ok (.aload_n 0, 1) := by decide +kernel
theorem dX7_gets_86 : decode cX7_gets 86 = .ok (.getfield 43, 3) := by decide +kernel
theorem dX7_gets_89 : decode cX7_gets 89 = .ok (.iload_n 2, 1) := by decide +kernel
theorem dX7_gets_90 : decode cX7_gets 90 = .ok (.iaload, 1) := by decide +kernel
theorem dX7_gets_91 : decode cX7_gets 91 = .ok (.ifCond .le 7, 3) := by decide +kernel
theorem dX7_gets_94 : decode cX7_gets 94 = .ok (.iconst (-1), 1) := by decide +kernel
theorem dX7_gets_95 : decode cX7_gets 95 = .ok (.goto 7, 3) := by decide +kernel
theorem dX7_gets_98 : decode cX7_gets 98 = .ok (.aload_n 0, 1) := by decide +kernel
theorem dX7_gets_99 : decode cX7_gets 99 = .ok (.getfield 112, 3) := by decide +kernel
theorem dX7_gets_102 : decode cX7_gets 102 = .ok (.iastore, 1) := by decide +kernel
theorem dX7_gets_103 : decode cX7_gets 103 = .ok (.return_, 1) := by decide +kernel
