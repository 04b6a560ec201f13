set_option maxRecDepth 20000 in
theorem ggX7_go_X7_in : GoodIn wsX7_go wsX7_in := goodIn_r _ [5] (by decide +kernel) (by decide +kernel)
set_option maxRecDepth 20000 in
theorem gX7_go_X7_in : GoodIn wsX7_go (va_wsS RX7 92 yX7_in wsX7_in) := goodIn_app (goodIn_of _ (by decide +kernel)) ggX7_go_X7_in
set_option maxRecDepth 20000 in
theorem ggX7_go_X7_boxes : GoodIn wsX7_go wsX7_boxes := goodIn_r _ [9, 10, 11, 12, 13, 1, 14, 60, 61, 62, 63, 64, 65, 66, 67, 68, 69, 70, 71, 72, 73, 74, 75, 76, 77, 78, 79, 80, 81, 82, 83, 84, 85, 86, 87, 88, 89, 90, 91, 92, 93, 94] (by decide +kernel) (by decide +kernel)
set_option maxRecDepth 20000 in
theorem gX7_go_X7_boxes : GoodIn wsX7_go (wsV RX7 157 RX7 yX7_boxes wsX7_boxes) := goodIn_app (goodIn_of _ (by decide +kernel)) ggX7_go_X7_boxes
set_option maxRecDepth 20000 in
theorem ggX7_go_X7_turns : GoodIn wsX7_go wsX7_turns := goodIn_r _ [18, 19, 20, 21, 22, 23, 24, 25, 4, 26, 27, 1, 28, 29, 30, 31, 32, 33, 34, 35, 36, 37, 38, 10, 39, 40, 41, 42, 43, 44, 45, 11, 46, 47, 48, 49, 14, 50, 51, 52, 53, 54, 55, 56, 57, 58, 12, 59, 13, 60, 61, 62, 63, 64, 65, 66, 67, 68, 69, 70, 71, 72, 73, 74, 75, 76, 77, 78, 79, 80, 81, 82, 83, 84, 85, 86, 87, 88, 89, 90, 91, 92, 93, 94] (by decide +kernel) (by decide +kernel)
set_option maxRecDepth 20000 in
theorem gX7_go_X7_turns : GoodIn wsX7_go (wsV RX7 160 RX7 yX7_turns wsX7_turns) := goodIn_app (goodIn_of _ (by decide +kernel)) ggX7_go_X7_turns
theorem dX7_go_0 : decode cX7_go 0 = .ok (.iload_n 1, 1) := by decide +kernel
theorem dX7_go_1 : decode cX7_go 1 = .ok (.iconst 0, 1) := by decide +kernel
theorem dX7_go_2 : decode cX7_go 2 = .ok (.bipush 100, 2) := by decide +kernel
theorem dX7_go_4 : decode cX7_go 4 = .ok (.invokestatic 92, 3) := by decide +kernel
theorem dX7_go_7 : decode cX7_go 7 = .ok (.ifCond .ne 5, 3) := by decide +kernel
theorem dX7_go_10 : decode cX7_go 10 = .ok (.iconst (-1), 1) := by decide +kernel
theorem dX7_go_11 : decode cX7_go 11 = .ok (.ireturn, 1) := by decide +kernel
theorem dX7_go_12 : decode cX7_go 12 = .ok (.iconst 0, 1) := by decide +kernel
theorem dX7_go_13 : decode cX7_go 13 = .ok (.istore_n 2, 1) := by decide +kernel
theorem dX7_go_14 : decode cX7_go 14 = .ok (.iload_n 2, 1) := by decide +kernel
theorem dX7_go_15 : decode cX7_go 15 = .ok (.iload_n 1, 1) := by decide +kernel
theorem dX7_go_16 : decode cX7_go 16 = .ok (.if_icmp .ge 37, 3) := by decide +kernel
theorem dX7_go_19 : decode cX7_go 19 = .ok (.aload_n 0, 1) := by decide +kernel
theorem dX7_go_20 : decode cX7_go 20 = .ok (.getfield 112, 3) := by decide +kernel
theorem dX7_go_23 : decode cX7_go 23 = .ok (.sipush 5000, 3) := by decide +kernel
theorem dX7_go_26 : decode cX7_go 26 = .ok (.if_icmp .ge 27, 3) := by decide +kernel
theorem dX7_go_29 : decode cX7_go 29 = .ok (.aload_n 0, 1) := by decide +kernel
theorem dX7_go_30 : decode cX7_go 30 = .ok (.invokevirtual 157, 3) := by decide +kernel
theorem dX7_go_33 : decode cX7_go 33 = .ok (.aload_n 0, 1) := by decide +kernel
theorem dX7_go_34 : decode cX7_go 34 = .ok (.invokevirtual 160, 3) := by decide +kernel
theorem dX7_go_37 : decode cX7_go 37 = .ok (.aload_n 0, 1) := by decide +kernel
theorem dX7_go_38 : decode cX7_go 38 = .ok (.dup, 1) := by decide +kernel
theorem dX7_go_39 : decode cX7_go 39 = .ok (.getfield 112, 3) := by decide +kernel
theorem dX7_go_42 : decode cX7_go 42 = .ok (.iconst 1, 1) := by decide +kernel
theorem dX7_go_43 : decode cX7_go 43 = .ok (.iadd, 1) := by decide +kernel
theorem dX7_go_44 : decode cX7_go 44 = .ok (.putfield 112, 3) := by decide +kernel
theorem dX7_go_47 : decode cX7_go 47 = .ok (.iinc 2 1, 3) := by decide +kernel
theorem dX7_go_50 : decode cX7_go 50 = .ok (.goto (-36), 3) := by decide +kernel
theorem dX7_go_53 : decode cX7_go 53 = .ok (.aload_n 0, 1) := by decide +kernel
theorem dX7_go_54 : decode cX7_go 54 = .ok (.getfield 112, 3) := by decide +kernel
theorem dX7_go_57 : decode cX7_go 57 = .ok (.ireturn, 1) := by decide +kernel
theorem dX7_had_0 : decode cX7_had 0 = .ok (.aload_n 0, 1) := by decide +kernel
theorem dX7_had_1 : decode cX7_had 1 = .ok (.getfield 28, 3) := by decide +kernel
theorem dX7_had_4 : decode cX7_had 4 = .ok (.iload_n 1, 1) := by decide +kernel
theorem dX7_had_5 : decode cX7_had 5 = .ok (.iaload, 1) := by decide +kernel
theorem dX7_had_6 : decode cX7_had 6 = .ok (.istore_n 2, 1) := by decide +kernel
theorem dX7_had_7 : decode cX7_had 7 = .ok (.aload_n 0, 1) := by decide +kernel
theorem dX7_had_8 : decode cX7_had 8 = .ok (.getfield 28, 3) := by decide +kernel
theorem dX7_had_11 : decode cX7_had 11 = .ok (.iload_n 1, 1) := by decide +kernel
theorem dX7_had_12 : decode cX7_had 12 = .ok (.iconst (-1), 1) := by decide +kernel
theorem dX7_had_13 : decode cX7_had 13 = .ok (.iastore, 1) := by decide +kernel
theorem dX7_had_14 : decode cX7_had 14 = .ok (.iload_n 2, 1) := by decide +kernel
theorem dX7_had_15 : decode cX7_had 15 = .ok (.iconst (-1), 1) := by decide +kernel
theorem dX7_had_16 : decode cX7_had 16 = .ok (.if_icmp .ne 4, 3) := by decide +kernel
theorem dX7_had_19 : decode cX7_had 19 = .ok (.return_, 1) := by decide +kernel
theorem dX7_had_20 : decode cX7_had 20 = .ok (.aload_n 0, 1) := by decide +kernel
theorem dX7_had_21 : decode cX7_had 21 = .ok (.getfield 61, 3) := by decide +kernel
theorem dX7_had_24 : decode cX7_had 24 = .ok (.iload_n 2, 1) := by decide +kernel
theorem dX7_had_25 : decode cX7_had 25 = .ok (.dup2, 1) := by decide +kernel
theorem dX7_had_26 : decode cX7_had 26 = .ok (.iaload, 1) := by decide +kernel
theorem dX7_had_27 : decode cX7_had 27 = .ok (.iconst 1, 1) := by decide +kernel
theorem dX7_had_28 : decode cX7_had 28 = .ok (.iadd, 1) := by decide +kernel
theorem dX7_had_29 : decode cX7_had 29 = .ok (.iastore, 1) := by decide +kernel
theorem dX7_had_30 : decode cX7_had 30 = .ok (.aload_n 0, 1) := by decide +kernel
theorem dX7_had_31 : decode cX7_had 31 = .ok (.getfield 64, 3) := by decide +kernel
theorem dX7_had_34 : decode cX7_had 34 = .ok (.iload_n 2, 1) := by decide +kernel
theorem dX7_had_35 : decode cX7_had 35 = .ok (.aload_n 0, 1) := by decide +kernel
theorem dX7_had_36 : decode cX7_had 36 = .ok (.getfield 112, 3) := by decide +kernel
theorem dX7_had_39 : decode cX7_had 39 = .ok (.iastore, 1) := by decide +kernel
theorem dX7_had_40 : decode cX7_had 40 = .ok (.aload_n 0, 1) := by decide +kernel
theorem dX7_had_41 : decode cX7_had 41 = .ok (.getfield 58, 3) := by decide +kernel
theorem dX7_had_44 : decode cX7_had 44 = .ok (.iload_n 2, 1) := by decide +kernel
theorem dX7_had_45 : decode cX7_had 45 = .ok (.iaload, 1) := by decide +kernel
theorem dX7_had_46 : decode cX7_had 46 = .ok (.ifCond .ne 30, 3) := by decide +kernel
theorem dX7_had_49 : decode cX7_had 49 = .ok (.aload_n 0, 1) := by decide +kernel
theorem dX7_had_50 : decode cX7_had 50 = .ok (.getfield 61, 3) := by decide +kernel
theorem dX7_had_53 : decode cX7_had 53 = .ok (.iload_n 2, 1) := by decide +kernel
theorem dX7_had_54 : decode cX7_had 54 = .ok (.iaload, 1) := by decide +kernel
theorem dX7_had_55 : decode cX7_had 55 = .ok (.aload_n 0, 1) := by decide +kernel
theorem dX7_had_56 : decode cX7_had 56 = .ok (.getfield 9, 3) := by decide +kernel
theorem dX7_had_59 : decode cX7_had 59 = .ok (.aload_n 0, 1) := by decide +kernel
theorem dX7_had_60 : decode cX7_had 60 = .ok (.getfield 55, 3) := by decide +kernel
theorem dX7_had_63 : decode cX7_had 63 = .ok (.iload_n 2, 1) := by decide +kernel
theorem dX7_had_64 : decode cX7_had 64 = .ok (.iaload, 1) := by decide +kernel
theorem dX7_had_65 : decode cX7_had 65 = .ok (.iaload, 1) := by decide +kernel
theorem dX7_had_66 : decode cX7_had 66 = .ok (.if_icmp .ne 10, 3) := by decide +kernel
theorem dX7_had_69 : decode cX7_had 69 = .ok (.aload_n 0, 1) := by decide +kernel
theorem dX7_had_70 : decode cX7_had 70 = .ok (.getfield 58, 3) := by decide +kernel
theorem dX7_had_73 : decode cX7_had 73 = .ok (.iload_n 2, 1) := by decide +kernel
theorem dX7_had_74 : decode cX7_had 74 = .ok (.iconst 1, 1) := by decide +kernel
theorem dX7_had_75 : decode cX7_had 75 = .ok (.iastore, 1) := by decide +kernel
theorem dX7_had_76 : decode cX7_had 76 = .ok (.return_, 1) := by decide +kernel
set_option maxRecDepth 20000 in
theorem ggX7_late_X7_term : GoodIn wsX7_late wsX7_term := goodIn_r _ [8] (by decide +kernel) (by decide +kernel)
set_option maxRecDepth 20000 in
theorem gX7_late_X7_term : GoodIn wsX7_late (va_wsS RX7 163 yX7_term wsX7_term) := goodIn_app (goodIn_of _ (by decide +kernel)) ggX7_late_X7_term
theorem dX7_late_0 : decode cX7_late 0 = .ok (.aload_n 0, 1) := by decide +kernel
theorem dX7_late_1 : decode cX7_late 1 = .ok (.getfield 40, 3) := by decide +kernel
theorem dX7_late_4 : decode cX7_late 4 = .ok (.aload_n 0, 1) := by decide +kernel
theorem dX7_late_5 : decode cX7_late 5 = .ok (.getfield 25, 3) := by decide +kernel
theorem dX7_late_8 : decode cX7_late 8 = .ok (.iload_n 1, 1) := by decide +kernel
theorem dX7_late_9 : decode cX7_late 9 = .ok (.iaload, 1) := by decide +kernel
theorem dX7_late_10 : decode cX7_late 10 = .ok (.iaload, 1) := by decide +kernel
theorem dX7_late_11 : decode cX7_late 11 = .ok (.istore_n 2, 1) := by decide +kernel
theorem dX7_late_12 : decode cX7_late 12 = .ok (.aload_n 0, 1) := by decide +kernel
theorem dX7_late_13 : decode cX7_late 13 = .ok (.getfield 112, 3) := by decide +kernel
theorem dX7_late_16 : decode cX7_late 16 = .ok (.aload_n 0, 1) := by decide +kernel
theorem dX7_late_17 : decode cX7_late 17 = .ok (.getfield 31, 3) := by decide +kernel
theorem dX7_late_20 : decode cX7_late 20 = .ok (.iload_n 1, 1) := by decide +kernel
theorem dX7_late_21 : decode cX7_late 21 = .ok (.iaload, 1) := by decide +kernel
theorem dX7_late_22 : decode cX7_late 22 = .ok (.isub, 1) := by decide +kernel
theorem dX7_late_23 : decode cX7_late 23 = .ok (.iload_n 2, 1) := by decide +kernel
theorem dX7_late_24 : decode cX7_late 24 = .ok (.invokestatic 163, 3) := by decide +kernel
theorem dX7_late_27 : decode cX7_late 27 = .ok (.isub, 1) := by decide +kernel
theorem dX7_late_28 : decode cX7_late 28 = .ok (.istore_n 3, 1) := by decide +kernel
theorem dX7_late_29 : decode cX7_late 29 = .ok (.iload_n 3, 1) := by decide +kernel
theorem dX7_late_30 : decode cX7_late 30 = .ok (.ifCond .le 11, 3) := by decide +kernel
theorem dX7_late_33 : decode cX7_late 33 = .ok (.iload_n 3, 1) := by decide +kernel
theorem dX7_late_34 : decode cX7_late 34 = .ok (.iconst 3, 1) := by decide +kernel
theorem dX7_late_35 : decode cX7_late 35 = .ok (.iload_n 2, 1) := by decide +kernel
theorem dX7_late_36 : decode cX7_late 36 = .ok (.isub, 1) := by decide +kernel
theorem dX7_late_37 : decode cX7_late 37 = .ok (.imul, 1) := by decide +kernel
theorem dX7_late_38 : decode cX7_late 38 = .ok (.goto 4, 3) := by decide +kernel
theorem dX7_late_41 : decode cX7_late 41 = .ok (.iconst 0, 1) := by decide +kernel
theorem dX7_late_42 : decode cX7_late 42 = .ok (.ireturn, 1) := by decide +kernel
set_option maxRecDepth 20000 in
theorem ggX7_back_X7_isCopy : GoodIn wsX7_back wsX7_isCopy := goodIn_r _ [11, 12, 13, 14, 10, 15, 35, 36, 37, 38, 39, 40, 41, 42, 43, 44, 45, 46, 47, 48, 49, 50, 51, 52, 53, 54, 55, 56, 57, 58, 59, 60, 61, 62, 63, 64, 65, 66, 67, 68, 69] (by decide +kernel) (by decide +kernel)
set_option maxRecDepth 20000 in
theorem gX7_back_X7_isCopy : GoodIn wsX7_back (wsV RX7 122 RX7 yX7_isCopy wsX7_isCopy) := goodIn_app (goodIn_of _ (by decide +kernel)) ggX7_back_X7_isCopy
set_option maxRecDepth 20000 in
theorem ggX7_back_X7_late : GoodIn wsX7_back wsX7_late := goodIn_r _ [19, 20, 2, 21, 4, 22, 23, 10, 24, 35, 36, 37, 38, 39, 40, 41, 42, 43, 44, 45, 46, 47, 48, 49, 50, 51, 52, 53, 54, 55, 56, 57, 58, 59, 60, 61, 62, 63, 64, 65, 66, 67, 68, 69] (by decide +kernel) (by decide +kernel)
set_option maxRecDepth 20000 in
theorem gX7_back_X7_late : GoodIn wsX7_back (wsV RX7 166 RX7 yX7_late wsX7_late) := goodIn_app (goodIn_of _ (by decide +kernel)) ggX7_back_X7_late
set_option maxRecDepth 20000 in
theorem ggX7_back_X7_had : GoodIn wsX7_back wsX7_had := goodIn_r _ [28, 29, 30, 31, 21, 32, 33, 34, 35, 36, 37, 38, 39, 40, 41, 42, 43, 44, 45, 46, 47, 48, 49, 50, 51, 52, 53, 54, 55, 56, 57, 58, 59, 60, 61, 62, 63, 64, 65, 66, 67, 68, 69] (by decide +kernel) (by decide +kernel)
set_option maxRecDepth 20000 in
theorem gX7_back_X7_had : GoodIn wsX7_back (wsV RX7 169 RX7 yX7_had wsX7_had) := goodIn_app (goodIn_of _ (by decide +kernel)) ggX7_back_X7_had
theorem dX7_back_0 : decode cX7_back 0 = .ok (.aload_n 0, 1) := by decide +kernel
theorem dX7_back_1 : decode cX7_back 1 = .ok (.iload_n 1, 1) := by decide +kernel
theorem dX7_back_2 : decode cX7_back 2 = .ok (.invokevirtual 122, 3) := by decide +kernel
theorem dX7_back_5 : decode cX7_back 5 = .ok (.ifCond .eq 13, 3) := by decide +kernel
theorem dX7_back_8 : decode cX7_back 8 = .ok (.aload_n 0, 1) := by decide +kernel
theorem dX7_back_9 : decode cX7_back 9 = .ok (.getfield 22, 3) := by decide +kernel
theorem dX7_back_12 : decode cX7_back 12 = .ok (.iload_n 1, 1) := by decide +kernel
theorem dX7_back_13 : decode cX7_back 13 = .ok (.iaload, 1) := by decide +kernel
theorem dX7_back_14 : decode cX7_back 14 = .ok (.iconst 1, 1) := by decide +kernel
theorem dX7_back_15 : decode cX7_back 15 = .ok (.if_icmp .eq 5, 3) := by decide +kernel
theorem dX7_back_18 : decode cX7_back 18 = .ok (.iconst (-1), 1) := by decide +kernel
theorem dX7_back_19 : decode cX7_back 19 = .ok (.ireturn, 1) := by decide +kernel
theorem dX7_back_20 : decode cX7_back 20 = .ok (.aload_n 0, 1) := by decide +kernel
theorem dX7_back_21 : decode cX7_back 21 = .ok (.getfield 25, 3) := by decide +kernel
theorem dX7_back_24 : decode cX7_back 24 = .ok (.iload_n 1, 1) := by decide +kernel
theorem dX7_back_25 : decode cX7_back 25 = .ok (.iaload, 1) := by decide +kernel
theorem dX7_back_26 : decode cX7_back 26 = .ok (.istore_n 2, 1) := by decide +kernel
theorem dX7_back_27 : decode cX7_back 27 = .ok (.aload_n 0, 1) := by decide +kernel
theorem dX7_back_28 : decode cX7_back 28 = .ok (.iload_n 1, 1) := by decide +kernel
theorem dX7_back_29 : decode cX7_back 29 = .ok (.invokevirtual 166, 3) := by decide +kernel
theorem dX7_back_32 : decode cX7_back 32 = .ok (.istore_n 3, 1) := by decide +kernel
theorem dX7_back_33 : decode cX7_back 33 = .ok (.aload_n 0, 1) := by decide +kernel
theorem dX7_back_34 : decode cX7_back 34 = .ok (.getfield 49, 3) := by decide +kernel
theorem dX7_back_37 : decode cX7_back 37 = .ok (.iload_n 2, 1) := by decide +kernel
theorem dX7_back_38 : decode cX7_back 38 = .ok (.dup2, 1) := by decide +kernel
theorem dX7_back_39 : decode cX7_back 39 = .ok (.iaload, 1) := by decide +kernel
theorem dX7_back_40 : decode cX7_back 40 = .ok (.iload_n 3, 1) := by decide +kernel
theorem dX7_back_41 : decode cX7_back 41 = .ok (.iadd, 1) := by decide +kernel
theorem dX7_back_42 : decode cX7_back 42 = .ok (.iastore, 1) := by decide +kernel
theorem dX7_back_43 : decode cX7_back 43 = .ok (.aload_n 0, 1) := by decide +kernel
theorem dX7_back_44 : decode cX7_back 44 = .ok (.iload_n 1, 1) := by decide +kernel
theorem dX7_back_45 : decode cX7_back 45 = .ok (.invokevirtual 169, 3) := by decide +kernel
theorem dX7_back_48 : decode cX7_back 48 = .ok (.aload_n 0, 1) := by decide +kernel
theorem dX7_back_49 : decode cX7_back 49 = .ok (.getfield 31, 3) := by decide +kernel
theorem dX7_back_52 : decode cX7_back 52 = .ok (.iload_n 1, 1) := by decide +kernel
theorem dX7_back_53 : decode cX7_back 53 = .ok (.iconst (-1), 1) := by decide +kernel
theorem dX7_back_54 : decode cX7_back 54 = .ok (.iastore, 1) := by decide +kernel
theorem dX7_back_55 : decode cX7_back 55 = .ok (.aload_n 0, 1) := by decide +kernel
theorem dX7_back_56 : decode cX7_back 56 = .ok (.getfield 34, 3) := by decide +kernel
theorem dX7_back_59 : decode cX7_back 59 = .ok (.iload_n 1, 1) := by decide +kernel
theorem dX7_back_60 : decode cX7_back 60 = .ok (.aload_n 0, 1) := by decide +kernel
theorem dX7_back_61 : decode cX7_back 61 = .ok (.getfield 43, 3) := by decide +kernel
theorem dX7_back_64 : decode cX7_back 64 = .ok (.iload_n 2, 1) := by decide +kernel
theorem dX7_back_65 : decode cX7_back 65 = .ok (.iaload, 1) := by decide +kernel
theorem dX7_back_66 : decode cX7_back 66 = .ok (.iastore, 1) := by decide +kernel
theorem dX7_back_67 : decode cX7_back 67 = .ok (.aload_n 0, 1) := by decide +kernel
theorem dX7_back_68 : decode cX7_back 68 = .ok (.getfield 22, 3) := by decide +kernel
theorem dX7_back_71 : decode cX7_back 71 = .ok (.iload_n 1, 1) := by decide +kernel
theorem dX7_back_72 : decode cX7_back 72 = .ok (.aload_n 0, 1) := by decide +kernel
theorem dX7_back_73 : decode cX7_back 73 = .ok (.getfield 43, 3) := by decide +kernel
theorem dX7_back_76 : decode cX7_back 76 = .ok (.iload_n 2, 1) := by decide +kernel
theorem dX7_back_77 : decode cX7_back 77 = .ok (.iaload, 1) := by decide +kernel
theorem dX7_back_78 : decode cX7_back 78 = .ok (.ifCond .le 7, 3) := by decide +kernel
theorem dX7_back_81 : decode cX7_back 81 = .ok (.iconst 3, 1) := by decide +kernel
theorem dX7_back_82 : decode cX7_back 82 = .ok (.goto 4, 3) := by decide +kernel
theorem dX7_back_85 : decode cX7_back 85 = .ok (.iconst 0, 1) := by decide +kernel
theorem dX7_back_86 : decode cX7_back 86 = .ok (.iastore, 1) := by decide +kernel
theorem dX7_back_87 : decode cX7_back 87 = .ok (.aload_n 0, 1) := by decide +kernel
theorem dX7_back_88 : decode cX7_back 88 = .ok (.getfield 43, 3) := by decide +kernel
theorem dX7_back_91 : decode cX7_back 91 = .ok (.iload_n 2, 1) := by decide +kernel
theorem dX7_back_92 : decode cX7_back 92 = .ok (.iaload, 1) := by decide +kernel
theorem dX7_back_93 : decode cX7_back 93 = .ok (.ifCond .ne 10, 3) := by decide +kernel
theorem dX7_back_96 : decode cX7_back 96 = .ok (.aload_n 0, 1) := by decide +kernel
theorem dX7_back_97 : decode cX7_back 97 = .ok (.getfield 25, 3) := by decide +kernel
theorem dX7_back_100 : decode cX7_back 100 = .ok (.iload_n 1, 1) := by decide +kernel
theorem dX7_back_101 : decode cX7_back 101 = .ok (.iconst (-1), 1) := by decide +kernel
theorem dX7_back_102 : decode cX7_back 102 = .ok (.iastore, 1) := by decide +kernel
theorem dX7_back_103 : decode cX7_back 103 = .ok (.iload_n 3, 1) := by decide +kernel
theorem dX7_back_104 : decode cX7_back 104 = .ok (.ireturn, 1) := by decide +kernel
set_option maxRecDepth 20000 in
theorem ggX7_lose_X7_isCopy : GoodIn wsX7_lose wsX7_isCopy := goodIn_r _ [11, 12, 13, 14, 10, 15, 35, 36, 37, 38, 39, 40, 41, 42, 43, 44, 45, 46, 47, 48, 49, 50, 51, 52, 53, 54, 55, 56, 57, 58, 59, 60, 61, 62, 63, 64, 65, 66, 67, 68, 69] (by decide +kernel) (by decide +kernel)
set_option maxRecDepth 20000 in
theorem gX7_lose_X7_isCopy : GoodIn wsX7_lose (wsV RX7 122 RX7 yX7_isCopy wsX7_isCopy) := goodIn_app (goodIn_of _ (by decide +kernel)) ggX7_lose_X7_isCopy
set_option maxRecDepth 20000 in
theorem ggX7_lose_X7_late : GoodIn wsX7_lose wsX7_late := goodIn_r _ [19, 20, 4, 21, 5, 22, 23, 10, 24, 35, 36, 37, 38, 39, 40, 41, 42, 43, 44, 45, 46, 47, 48, 49, 50, 51, 52, 53, 54, 55, 56, 57, 58, 59, 60, 61, 62, 63, 64, 65, 66, 67, 68, 69] (by decide +kernel) (by decide +kernel)
set_option maxRecDepth 20000 in
theorem gX7_lose_X7_late : GoodIn wsX7_lose (wsV RX7 166 RX7 yX7_late wsX7_late) := goodIn_app (goodIn_of _ (by decide +kernel)) ggX7_lose_X7_late
set_option maxRecDepth 20000 in
theorem ggX7_lose_X7_had : GoodIn wsX7_lose wsX7_had := goodIn_r _ [28, 29, 30, 31, 21, 32, 33, 34, 35, 36, 37, 38, 39, 40, 41, 42, 43, 44, 45, 46, 47, 48, 49, 50, 51, 52, 53, 54, 55, 56, 57, 58, 59, 60, 61, 62, 63, 64, 65, 66, 67, 68, 69] (by decide +kernel) (by decide +kernel)
set_option maxRecDepth 20000 in
theorem gX7_lose_X7_had : GoodIn wsX7_lose (wsV RX7 169 RX7 yX7_had wsX7_had) := goodIn_app (goodIn_of _ (by decide +kernel)) ggX7_lose_X7_had
theorem dX7_lose_0 : decode cX7_lose 0 = .ok (.aload_n 0, 1) := by decide +kernel
theorem dX7_lose_1 : decode cX7_lose 1 = .ok (.iload_n 1, 1) := by decide +kernel
theorem dX7_lose_2 : decode cX7_lose 2 = .ok (.invokevirtual 122, 3) := by decide +kernel
theorem dX7_lose_5 : decode cX7_lose 5 = .ok (.ifCond .eq 13, 3) := by decide +kernel
theorem dX7_lose_8 : decode cX7_lose 8 = .ok (.aload_n 0, 1) := by decide +kernel
theorem dX7_lose_9 : decode cX7_lose 9 = .ok (.getfield 22, 3) := by decide +kernel
theorem dX7_lose_12 : decode cX7_lose 12 = .ok (.iload_n 1, 1) := by decide +kernel
theorem dX7_lose_13 : decode cX7_lose 13 = .ok (.iaload, 1) := by decide +kernel
theorem dX7_lose_14 : decode cX7_lose 14 = .ok (.iconst 4, 1) := by decide +kernel
theorem dX7_lose_15 : decode cX7_lose 15 = .ok (.if_icmp .lt 5, 3) := by decide +kernel
theorem dX7_lose_18 : decode cX7_lose 18 = .ok (.iconst (-1), 1) := by decide +kernel
theorem dX7_lose_19 : decode cX7_lose 19 = .ok (.ireturn, 1) := by decide +kernel
theorem dX7_lose_20 : decode cX7_lose 20 = .ok (.iconst 0, 1) := by decide +kernel
theorem dX7_lose_21 : decode cX7_lose 21 = .ok (.istore_n 2, 1) := by decide +kernel
theorem dX7_lose_22 : decode cX7_lose 22 = .ok (.aload_n 0, 1) := by decide +kernel
theorem dX7_lose_23 : decode cX7_lose 23 = .ok (.getfield 22, 3) := by decide +kernel
theorem dX7_lose_26 : decode cX7_lose 26 = .ok (.iload_n 1, 1) := by decide +kernel
theorem dX7_lose_27 : decode cX7_lose 27 = .ok (.iaload, 1) := by decide +kernel
theorem dX7_lose_28 : decode cX7_lose 28 = .ok (.ifCond .eq 50, 3) := by decide +kernel
theorem dX7_lose_31 : decode cX7_lose 31 = .ok (.aload_n 0, 1) := by decide +kernel
theorem dX7_lose_32 : decode cX7_lose 32 = .ok (.getfield 19, 3) := by decide +kernel
theorem dX7_lose_35 : decode cX7_lose 35 = .ok (.iload_n 1, 1) := by decide +kernel
theorem dX7_lose_36 : decode cX7_lose 36 = .ok (.iaload, 1) := by decide +kernel
theorem dX7_lose_37 : decode cX7_lose 37 = .ok (.aload_n 0, 1) := by decide +kernel
theorem dX7_lose_38 : decode cX7_lose 38 = .ok (.getfield 22, 3) := by decide +kernel
theorem dX7_lose_41 : decode cX7_lose 41 = .ok (.iload_n 1, 1) := by decide +kernel
theorem dX7_lose_42 : decode cX7_lose 42 = .ok (.iaload, 1) := by decide +kernel
theorem dX7_lose_43 : decode cX7_lose 43 = .ok (.iconst 1, 1) := by decide +kernel
theorem dX7_lose_44 : decode cX7_lose 44 = .ok (.if_icmp .ne 11, 3) := by decide +kernel
theorem dX7_lose_47 : decode cX7_lose 47 = .ok (.aload_n 0, 1) := by decide +kernel
theorem dX7_lose_48 : decode cX7_lose 48 = .ok (.iload_n 1, 1) := by decide +kernel
theorem dX7_lose_49 : decode cX7_lose 49 = .ok (.invokevirtual 166, 3) := by decide +kernel
theorem dX7_lose_52 : decode cX7_lose 52 = .ok (.goto 4, 3) := by decide +kernel
theorem dX7_lose_55 : decode cX7_lose 55 = .ok (.iconst 0, 1) := by decide +kernel
theorem dX7_lose_56 : decode cX7_lose 56 = .ok (.iadd, 1) := by decide +kernel
theorem dX7_lose_57 : decode cX7_lose 57 = .ok (.istore_n 2, 1) := by decide +kernel
theorem dX7_lose_58 : decode cX7_lose 58 = .ok (.aload_n 0, 1) := by decide +kernel
theorem dX7_lose_59 : decode cX7_lose 59 = .ok (.getfield 49, 3) := by decide +kernel
theorem dX7_lose_62 : decode cX7_lose 62 = .ok (.aload_n 0, 1) := by decide +kernel
theorem dX7_lose_63 : decode cX7_lose 63 = .ok (.getfield 25, 3) := by decide +kernel
theorem dX7_lose_66 : decode cX7_lose 66 = .ok (.iload_n 1, 1) := by decide +kernel
theorem dX7_lose_67 : decode cX7_lose 67 = .ok (.iaload, 1) := by decide +kernel
theorem dX7_lose_68 : decode cX7_lose 68 = .ok (.dup2, 1) := by decide +kernel
theorem dX7_lose_69 : decode cX7_lose 69 = .ok (.iaload, 1) := by decide +kernel
theorem dX7_lose_70 : decode cX7_lose 70 = .ok (.iload_n 2, 1) := by decide +kernel
theorem dX7_lose_71 : decode cX7_lose 71 = .ok (.iadd, 1) := by decide +kernel
theorem dX7_lose_72 : decode cX7_lose 72 = .ok (.iastore, 1) := by decide +kernel
theorem dX7_lose_73 : decode cX7_lose 73 = .ok (.aload_n 0, 1) := by decide +kernel
theorem dX7_lose_74 : decode cX7_lose 74 = .ok (.iload_n 1, 1) := by decide +kernel
theorem dX7_lose_75 : decode cX7_lose 75 = .ok (.invokevirtual 169, 3) := by decide +kernel
theorem dX7_lose_78 : decode cX7_lose 78 = .ok (.aload_n 0, 1) := by decide +kernel
theorem dX7_lose_79 : decode cX7_lose 79 = .ok (.getfield 22, 3) := by decide +kernel
theorem dX7_lose_82 : decode cX7_lose 82 = .ok (.iload_n 1, 1) := by decide +kernel
theorem dX7_lose_83 : decode cX7_lose 83 = .ok (.iconst 5, 1) := by decide +kernel
theorem dX7_lose_84 : decode cX7_lose 84 = .ok (.iastore, 1) := by decide +kernel
theorem dX7_lose_85 : decode cX7_lose 85 = .ok (.aload_n 0, 1) := by decide +kernel
theorem dX7_lose_86 : decode cX7_lose 86 = .ok (.getfield 25, 3) := by decide +kernel
theorem dX7_lose_89 : decode cX7_lose 89 = .ok (.iload_n 1, 1) := by decide +kernel
theorem dX7_lose_90 : decode cX7_lose 90 = .ok (.iconst (-1), 1) := by decide +kernel
theorem dX7_lose_91 : decode cX7_lose 91 = .ok (.iastore, 1) := by decide +kernel
theorem dX7_lose_92 : decode cX7_lose 92 = .ok (.aload_n 0, 1) := by decide +kernel
theorem dX7_lose_93 : decode cX7_lose 93 = .ok (.getfield 31, 3) := by decide +kernel
theorem dX7_lose_96 : decode cX7_lose 96 = .ok (.iload_n 1, 1) := by decide +kernel
theorem dX7_lose_97 : decode cX7_lose 97 = .ok (.iconst (-1), 1) := by decide +kernel
theorem dX7_lose_98 : decode cX7_lose 98 = .ok (.iastore, 1) := by decide +kernel
theorem dX7_lose_99 : decode cX7_lose 99 = .ok (.aload_n 0, 1) := by decide +kernel
theorem dX7_lose_100 : decode cX7_lose 100 = .ok (.getfield 34, 3) := by decide +kernel
theorem dX7_lose_103 : decode cX7_lose 103 = .ok (.iload_n 1, 1) := by decide +kernel
theorem dX7_lose_104 : decode cX7_lose 104 = .ok (.iconst 0, 1) := by decide +kernel
theorem dX7_lose_105 : decode cX7_lose 105 = .ok (.iastore, 1) := by decide +kernel
theorem dX7_lose_106 : decode cX7_lose 106 = .ok (.iload_n 2, 1) := by decide +kernel
theorem dX7_lose_107 : decode cX7_lose 107 = .ok (.ireturn, 1) := by decide +kernel
set_option maxRecDepth 20000 in
theorem ggX7_pay_X7_isReader : GoodIn wsX7_pay wsX7_isReader := goodIn_r _ [7, 8, 9, 10, 6, 11, 12, 13, 14, 15, 16, 17, 18, 19, 20, 21, 22, 23, 24, 25, 26, 27, 28, 29, 30, 31, 32, 33, 34, 35, 36, 37, 38, 39, 40, 41, 42, 43, 44, 45, 46] (by decide +kernel) (by decide +kernel)
set_option maxRecDepth 20000 in
theorem gX7_pay_X7_isReader : GoodIn wsX7_pay (wsV RX7 128 RX7 yX7_isReader wsX7_isReader) := goodIn_app (goodIn_of _ (by decide +kernel)) ggX7_pay_X7_isReader
set_option maxRecDepth 20000 in
theorem ggX7_pay_X7_in : GoodIn wsX7_pay wsX7_in := goodIn_r _ [11] (by decide +kernel) (by decide +kernel)
set_option maxRecDepth 20000 in
theorem gX7_pay_X7_in : GoodIn wsX7_pay (va_wsS RX7 92 yX7_in wsX7_in) := goodIn_app (goodIn_of _ (by decide +kernel)) ggX7_pay_X7_in
theorem dX7_pay_0 : decode cX7_pay 0 = .ok (.aload_n 0, 1) := by decide +kernel
theorem dX7_pay_1 : decode cX7_pay 1 = .ok (.iload_n 1, 1) := by decide +kernel
theorem dX7_pay_2 : decode cX7_pay 2 = .ok (.invokevirtual 128, 3) := by decide +kernel
theorem dX7_pay_5 : decode cX7_pay 5 = .ok (.ifCond .eq 17, 3) := by decide +kernel
theorem dX7_pay_8 : decode cX7_pay 8 = .ok (.iload_n 2, 1) := by decide +kernel
theorem dX7_pay_9 : decode cX7_pay 9 = .ok (.iconst 1, 1) := by decide +kernel
theorem dX7_pay_10 : decode cX7_pay 10 = .ok (.aload_n 0, 1) := by decide +kernel
theorem dX7_pay_11 : decode cX7_pay 11 = .ok (.getfield 49, 3) := by decide +kernel
theorem dX7_pay_14 : decode cX7_pay 14 = .ok (.iload_n 1, 1) := by decide +kernel
theorem dX7_pay_15 : decode cX7_pay 15 = .ok (.iaload, 1) := by decide +kernel
theorem dX7_pay_16 : decode cX7_pay 16 = .ok (.invokestatic 92, 3) := by decide +kernel
theorem dX7_pay_19 : decode cX7_pay 19 = .ok (.ifCond .ne 5, 3) := by decide +kernel
theorem dX7_pay_22 : decode cX7_pay 22 = .ok (.iconst (-1), 1) := by decide +kernel
theorem dX7_pay_23 : decode cX7_pay 23 = .ok (.ireturn, 1) := by decide +kernel
theorem dX7_pay_24 : decode cX7_pay 24 = .ok (.aload_n 0, 1) := by decide +kernel
theorem dX7_pay_25 : decode cX7_pay 25 = .ok (.getfield 49, 3) := by decide +kernel
theorem dX7_pay_28 : decode cX7_pay 28 = .ok (.iload_n 1, 1) := by decide +kernel
theorem dX7_pay_29 : decode cX7_pay 29 = .ok (.dup2, 1) := by decide +kernel
theorem dX7_pay_30 : decode cX7_pay 30 = .ok (.iaload, 1) := by decide +kernel
theorem dX7_pay_31 : decode cX7_pay 31 = .ok (.iload_n 2, 1) := by decide +kernel
theorem dX7_pay_32 : decode cX7_pay 32 = .ok (.isub, 1) := by decide +kernel
theorem dX7_pay_33 : decode cX7_pay 33 = .ok (.iastore, 1) := by decide +kernel
theorem dX7_pay_34 : decode cX7_pay 34 = .ok (.aload_n 0, 1) := by decide +kernel
theorem dX7_pay_35 : decode cX7_pay 35 = .ok (.dup, 1) := by decide +kernel
theorem dX7_pay_36 : decode cX7_pay 36 = .ok (.getfield 171, 3) := by decide +kernel
theorem dX7_pay_39 : decode cX7_pay 39 = .ok (.iload_n 2, 1) := by decide +kernel
theorem dX7_pay_40 : decode cX7_pay 40 = .ok (.iadd, 1) := by decide +kernel
theorem dX7_pay_41 : decode cX7_pay 41 = .ok (.putfield 171, 3) := by decide +kernel
theorem dX7_pay_44 : decode cX7_pay 44 = .ok (.aload_n 0, 1) := by decide +kernel
theorem dX7_pay_45 : decode cX7_pay 45 = .ok (.getfield 49, 3) := by decide +kernel
theorem dX7_pay_48 : decode cX7_pay 48 = .ok (.iload_n 1, 1) := by decide +kernel
theorem dX7_pay_49 : decode cX7_pay 49 = .ok (.iaload, 1) := by decide +kernel
theorem dX7_pay_50 : decode cX7_pay 50 = .ok (.ireturn, 1) := by decide +kernel
set_option maxRecDepth 20000 in
theorem ggX7_copy_X7_isCopy : GoodIn wsX7_copy wsX7_isCopy := goodIn_r _ [13, 14, 15, 16, 12, 17, 18, 19, 20, 21, 22, 23, 24, 25, 26, 27, 28, 29, 30, 31, 32, 33, 34, 35, 36, 37, 38, 39, 40, 41, 42, 43, 44, 45, 46, 47, 48, 49, 50, 51, 52] (by decide +kernel) (by decide +kernel)
set_option maxRecDepth 20000 in
theorem gX7_copy_X7_isCopy : GoodIn wsX7_copy (wsV RX7 122 RX7 yX7_isCopy wsX7_isCopy) := goodIn_app (goodIn_of _ (by decide +kernel)) ggX7_copy_X7_isCopy
theorem dX7_copy_0 : decode cX7_copy 0 = .ok (.aload_n 0, 1) := by decide +kernel
theorem dX7_copy_1 : decode cX7_copy 1 = .ok (.iload_n 1, 1) := by decide +kernel
theorem dX7_copy_2 : decode cX7_copy 2 = .ok (.invokevirtual 122, 3) := by decide +kernel
theorem dX7_copy_5 : decode cX7_copy 5 = .ok (.ifCond .ne 5, 3) := by decide +kernel
theorem dX7_copy_8 : decode cX7_copy 8 = .ok (.iconst (-1), 1) := by decide +kernel
theorem dX7_copy_9 : decode cX7_copy 9 = .ok (.ireturn, 1) := by decide +kernel
theorem dX7_copy_10 : decode cX7_copy 10 = .ok (.iload_n 2, 1) := by decide +kernel
theorem dX7_copy_11 : decode cX7_copy 11 = .ok (.tableswitch 125 0 7 #[45, 52, 59, 66, 73, 80, 87, 118], 45) := by decide +kernel
theorem dX7_copy_56 : decode cX7_copy 56 = .ok (.aload_n 0, 1) := by decide +kernel
theorem dX7_copy_57 : decode cX7_copy 57 = .ok (.getfield 22, 3) := by decide +kernel
theorem dX7_copy_60 : decode cX7_copy 60 = .ok (.iload_n 1, 1) := by decide +kernel
theorem dX7_copy_61 : decode cX7_copy 61 = .ok (.iaload, 1) := by decide +kernel
theorem dX7_copy_62 : decode cX7_copy 62 = .ok (.ireturn, 1) := by decide +kernel
theorem dX7_copy_63 : decode cX7_copy 63 = .ok (.aload_n 0, 1) := by decide +kernel
theorem dX7_copy_64 : decode cX7_copy 64 = .ok (.getfield 13, 3) := by decide +kernel
theorem dX7_copy_67 : decode cX7_copy 67 = .ok (.iload_n 1, 1) := by decide +kernel
theorem dX7_copy_68 : decode cX7_copy 68 = .ok (.iaload, 1) := by decide +kernel
theorem dX7_copy_69 : decode cX7_copy 69 = .ok (.ireturn, 1) := by decide +kernel
theorem dX7_copy_70 : decode cX7_copy 70 = .ok (.aload_n 0, 1) := by decide +kernel
theorem dX7_copy_71 : decode cX7_copy 71 = .ok (.getfield 16, 3) := by decide +kernel
theorem dX7_copy_74 : decode cX7_copy 74 = .ok (.iload_n 1, 1) := by decide +kernel
theorem dX7_copy_75 : decode cX7_copy 75 = .ok (.iaload, 1) := by decide +kernel
theorem dX7_copy_76 : decode cX7_copy 76 = .ok (.ireturn, 1) := by decide +kernel
theorem dX7_copy_77 : decode cX7_copy 77 = .ok (.aload_n 0, 1) := by decide +kernel
theorem dX7_copy_78 : decode cX7_copy 78 = .ok (.getfield 19, 3) := by decide +kernel
theorem dX7_copy_81 : decode cX7_copy 81 = .ok (.iload_n 1, 1) := by decide +kernel
theorem dX7_copy_82 : decode cX7_copy 82 = .ok (.iaload, 1) := by decide +kernel
theorem dX7_copy_83 : decode cX7_copy 83 = .ok (.ireturn, 1) := by decide +kernel
theorem dX7_copy_84 : decode cX7_copy 84 = .ok (.aload_n 0, 1) := by decide +kernel
theorem dX7_copy_85 : decode cX7_copy 85 = .ok (.getfield 25, 3) := by decide +kernel
theorem dX7_copy_88 : decode cX7_copy 88 = .ok (.iload_n 1, 1) := by decide +kernel
theorem dX7_copy_89 : decode cX7_copy 89 = .ok (.iaload, 1) := by decide +kernel
theorem dX7_copy_90 : decode cX7_copy 90 = .ok (.ireturn, 1) := by decide +kernel
theorem dX7_copy_91 : decode cX7_copy 91 = .ok (.aload_n 0, 1) := by decide +kernel
theorem dX7_copy_92 : decode cX7_copy 92 = .ok (.getfield 31, 3) := by decide +kernel
theorem dX7_copy_95 : decode cX7_copy 95 = .ok (.iload_n 1, 1) := by decide +kernel
theorem dX7_copy_96 : decode cX7_copy 96 = .ok (.iaload, 1) := by decide +kernel
theorem dX7_copy_97 : decode cX7_copy 97 = .ok (.ireturn, 1) := by decide +kernel
theorem dX7_copy_98 : decode cX7_copy 98 = .ok (.aload_n 0, 1) := by decide +kernel
theorem dX7_copy_99 : decode cX7_copy 99 = .ok (.getfield 22, 3) := by decide +kernel
theorem dX7_copy_102 : decode cX7_copy 102 = .ok (.iload_n 1, 1) := by decide +kernel
theorem dX7_copy_103 : decode cX7_copy 103 = .ok (.iaload, 1) := by decide +kernel
theorem dX7_copy_104 : decode cX7_copy 104 = .ok (.iconst 2, 1) := by decide +kernel
theorem dX7_copy_105 : decode cX7_copy 105 = .ok (.if_icmp .eq 13, 3) := by decide +kernel
theorem dX7_copy_108 : decode cX7_copy 108 = .ok (.aload_n 0, 1) := by decide +kernel
theorem dX7_copy_109 : decode cX7_copy 109 = .ok (.getfield 22, 3) := by decide +kernel
theorem dX7_copy_112 : decode cX7_copy 112 = .ok (.iload_n 1, 1) := by decide +kernel
theorem dX7_copy_113 : decode cX7_copy 113 = .ok (.iaload, 1) := by decide +kernel
theorem dX7_copy_114 : decode cX7_copy 114 = .ok (.iconst 3, 1) := by decide +kernel
theorem dX7_copy_115 : decode cX7_copy 115 = .ok (.if_icmp .ne 12, 3) := by decide +kernel
theorem dX7_copy_118 : decode cX7_copy 118 = .ok (.aload_n 0, 1) := by decide +kernel
theorem dX7_copy_119 : decode cX7_copy 119 = .ok (.getfield 34, 3) := by decide +kernel
theorem dX7_copy_122 : decode cX7_copy 122 = .ok (.iload_n 1, 1) := by decide +kernel
theorem dX7_copy_123 : decode cX7_copy 123 = .ok (.iaload, 1) := by decide +kernel
theorem dX7_copy_124 : decode cX7_copy 124 = .ok (.goto 4, 3) := by decide +kernel
theorem dX7_copy_127 : decode cX7_copy 127 = .ok (.iconst 0, 1) := by decide +kernel
theorem dX7_copy_128 : decode cX7_copy 128 = .ok (.ireturn, 1) := by decide +kernel
theorem dX7_copy_129 : decode cX7_copy 129 = .ok (.aload_n 0, 1) := by decide +kernel
theorem dX7_copy_130 : decode cX7_copy 130 = .ok (.getfield 37, 3) := by decide +kernel
theorem dX7_copy_133 : decode cX7_copy 133 = .ok (.iload_n 1, 1) := by decide +kernel
theorem dX7_copy_134 : decode cX7_copy 134 = .ok (.iaload, 1) := by decide +kernel
theorem dX7_copy_135 : decode cX7_copy 135 = .ok (.ireturn, 1) := by decide +kernel
theorem dX7_copy_136 : decode cX7_copy 136 = .ok (.iconst (-1), 1) := by decide +kernel
theorem dX7_copy_137 : decode cX7_copy 137 = .ok (.ireturn, 1) := by decide +kernel
set_option maxRecDepth 20000 in
theorem ggX7_told_X7_isReader : GoodIn wsX7_told wsX7_isReader := goodIn_r _ [11, 12, 13, 14, 10, 15, 23, 24, 25, 26, 27, 28, 29, 30, 31, 32, 33, 34, 35, 36, 37, 38, 39, 40, 41, 42, 43, 44, 45, 46, 47, 48, 49, 50, 51, 52, 53, 54, 55, 56, 57] (by decide +kernel) (by decide +kernel)
set_option maxRecDepth 20000 in
theorem gX7_told_X7_isReader : GoodIn wsX7_told (wsV RX7 128 RX7 yX7_isReader wsX7_isReader) := goodIn_app (goodIn_of _ (by decide +kernel)) ggX7_told_X7_isReader
set_option maxRecDepth 20000 in
theorem ggX7_told_X7_holds : GoodIn wsX7_told wsX7_holds := goodIn_r _ [19, 20, 21, 22, 23, 24, 25, 26, 27, 28, 29, 30, 31, 32, 33, 34, 35, 36, 37, 38, 39, 40, 41, 42, 43, 44, 45, 46, 47, 48, 49, 50, 51, 52, 53, 54, 55, 56, 57] (by decide +kernel) (by decide +kernel)
set_option maxRecDepth 20000 in
theorem gX7_told_X7_holds : GoodIn wsX7_told (wsV RX7 144 RX7 yX7_holds wsX7_holds) := goodIn_app (goodIn_of _ (by decide +kernel)) ggX7_told_X7_holds
theorem dX7_told_0 : decode cX7_told 0 = .ok (.aload_n 0, 1) := by decide +kernel
theorem dX7_told_1 : decode cX7_told 1 = .ok (.iload_n 1, 1) := by decide +kernel
theorem dX7_told_2 : decode cX7_told 2 = .ok (.invokevirtual 128, 3) := by decide +kernel
theorem dX7_told_5 : decode cX7_told 5 = .ok (.ifCond .ne 5, 3) := by decide +kernel
theorem dX7_told_8 : decode cX7_told 8 = .ok (.iconst (-1), 1) := by decide +kernel
theorem dX7_told_9 : decode cX7_told 9 = .ok (.ireturn, 1) := by decide +kernel
theorem dX7_told_10 : decode cX7_told 10 = .ok (.iconst 0, 1) := by decide +kernel
theorem dX7_told_11 : decode cX7_told 11 = .ok (.istore_n 3, 1) := by decide +kernel
theorem dX7_told_12 : decode cX7_told 12 = .ok (.iload_n 2, 1) := by decide +kernel
theorem dX7_told_13 : decode cX7_told 13 = .ok (.tableswitch 130 0 5 #[39, 46, 53, 67, 74, 123], 39) := by decide +kernel
theorem dX7_told_52 : decode cX7_told 52 = .ok (.aload_n 0, 1) := by decide +kernel
theorem dX7_told_53 : decode cX7_told 53 = .ok (.getfield 40, 3) := by decide +kernel
theorem dX7_told_56 : decode cX7_told 56 = .ok (.iload_n 1, 1) := by decide +kernel
theorem dX7_told_57 : decode cX7_told 57 = .ok (.iaload, 1) := by decide +kernel
theorem dX7_told_58 : decode cX7_told 58 = .ok (.ireturn, 1) := by decide +kernel
theorem dX7_told_59 : decode cX7_told 59 = .ok (.aload_n 0, 1) := by decide +kernel
theorem dX7_told_60 : decode cX7_told 60 = .ok (.iload_n 1, 1) := by decide +kernel
theorem dX7_told_61 : decode cX7_told 61 = .ok (.iconst 1, 1) := by decide +kernel
theorem dX7_told_62 : decode cX7_told 62 = .ok (.invokevirtual 144, 3) := by decide +kernel
theorem dX7_told_65 : decode cX7_told 65 = .ok (.ireturn, 1) := by decide +kernel
theorem dX7_told_66 : decode cX7_told 66 = .ok (.aload_n 0, 1) := by decide +kernel
theorem dX7_told_67 : decode cX7_told 67 = .ok (.iload_n 1, 1) := by decide +kernel
theorem dX7_told_68 : decode cX7_told 68 = .ok (.iconst 2, 1) := by decide +kernel
theorem dX7_told_69 : decode cX7_told 69 = .ok (.invokevirtual 144, 3) := by decide +kernel
theorem dX7_told_72 : decode cX7_told 72 = .ok (.aload_n 0, 1) := by decide +kernel
theorem dX7_told_73 : decode cX7_told 73 = .ok (.iload_n 1, 1) := by decide +kernel
theorem dX7_told_74 : decode cX7_told 74 = .ok (.iconst 3, 1) := by decide +kernel
theorem dX7_told_75 : decode cX7_told 75 = .ok (.invokevirtual 144, 3) := by decide +kernel
theorem dX7_told_78 : decode cX7_told 78 = .ok (.iadd, 1) := by decide +kernel
theorem dX7_told_79 : decode cX7_told 79 = .ok (.ireturn, 1) := by decide +kernel
theorem dX7_told_80 : decode cX7_told 80 = .ok (.aload_n 0, 1) := by decide +kernel
theorem dX7_told_81 : decode cX7_told 81 = .ok (.getfield 49, 3) := by decide +kernel
theorem dX7_told_84 : decode cX7_told 84 = .ok (.iload_n 1, 1) := by decide +kernel
theorem dX7_told_85 : decode cX7_told 85 = .ok (.iaload, 1) := by decide +kernel
theorem dX7_told_86 : decode cX7_told 86 = .ok (.ireturn, 1) := by decide +kernel
theorem dX7_told_87 : decode cX7_told 87 = .ok (.iconst 0, 1) := by decide +kernel
theorem dX7_told_88 : decode cX7_told 88 = .ok (.istore 4, 2) := by decide +kernel
theorem dX7_told_90 : decode cX7_told 90 = .ok (.iload 4, 2) := by decide +kernel
theorem dX7_told_92 : decode cX7_told 92 = .ok (.aload_n 0, 1) := by decide +kernel
theorem dX7_told_93 : decode cX7_told 93 = .ok (.getfield 102, 3) := by decide +kernel
theorem dX7_told_96 : decode cX7_told 96 = .ok (.if_icmp .ge 38, 3) := by decide +kernel
theorem dX7_told_99 : decode cX7_told 99 = .ok (.iload_n 3, 1) := by decide +kernel
theorem dX7_told_100 : decode cX7_told 100 = .ok (.aload_n 0, 1) := by decide +kernel
theorem dX7_told_101 : decode cX7_told 101 = .ok (.getfield 52, 3) := by decide +kernel
theorem dX7_told_104 : decode cX7_told 104 = .ok (.iload 4, 2) := by decide +kernel
theorem dX7_told_106 : decode cX7_told 106 = .ok (.iaload, 1) := by decide +kernel
theorem dX7_told_107 : decode cX7_told 107 = .ok (.iload_n 1, 1) := by decide +kernel
theorem dX7_told_108 : decode cX7_told 108 = .ok (.if_icmp .ne 17, 3) := by decide +kernel
theorem dX7_told_111 : decode cX7_told 111 = .ok (.aload_n 0, 1) := by decide +kernel
theorem dX7_told_112 : decode cX7_told 112 = .ok (.getfield 58, 3) := by decide +kernel
theorem dX7_told_115 : decode cX7_told 115 = .ok (.iload 4, 2) := by decide +kernel
theorem dX7_told_117 : decode cX7_told 117 = .ok (.iaload, 1) := by decide +kernel
theorem dX7_told_118 : decode cX7_told 118 = .ok (.ifCond .ne 7, 3) := by decide +kernel
theorem dX7_told_121 : decode cX7_told 121 = .ok (.iconst 1, 1) := by decide +kernel
theorem dX7_told_122 : decode cX7_told 122 = .ok (.goto 4, 3) := by decide +kernel
theorem dX7_told_125 : decode cX7_told 125 = .ok (.iconst 0, 1) := by decide +kernel
theorem dX7_told_126 : decode cX7_told 126 = .ok (.iadd, 1) := by decide +kernel
theorem dX7_told_127 : decode cX7_told 127 = .ok (.istore_n 3, 1) := by decide +kernel
theorem dX7_told_128 : decode cX7_told 128 = .ok (.iinc 4 1, 3) := by decide +kernel
theorem dX7_told_131 : decode cX7_told 131 = .ok (.goto (-41), 3) := by decide +kernel
theorem dX7_told_134 : decode cX7_told 134 = .ok (.iload_n 3, 1) := by decide +kernel
theorem dX7_told_135 : decode cX7_told 135 = .ok (.ireturn, 1) := by decide +kernel
theorem dX7_told_136 : decode cX7_told 136 = .ok (.aload_n 0, 1) := by decide +kernel
theorem dX7_told_137 : decode cX7_told 137 = .ok (.getfield 46, 3) := by decide +kernel
theorem dX7_told_140 : decode cX7_told 140 = .ok (.iload_n 1, 1) := by decide +kernel
theorem dX7_told_141 : decode cX7_told 141 = .ok (.iaload, 1) := by decide +kernel
theorem dX7_told_142 : decode cX7_told 142 = .ok (.ireturn, 1) := by decide +kernel
theorem dX7_told_143 : decode cX7_told 143 = .ok (.iconst (-1), 1) := by decide +kernel
theorem dX7_told_144 : decode cX7_told 144 = .ok (.ireturn, 1) := by decide +kernel
set_option maxRecDepth 20000 in
theorem ggX7_wished_X7_isWish : GoodIn wsX7_wished wsX7_isWish := goodIn_r _ [8, 9, 10, 11, 7, 12, 23, 24, 25, 26, 27, 28, 29, 30, 31, 32, 33, 34, 35, 36, 37, 38, 39, 40, 41, 42, 43, 44, 45, 46, 47, 48, 49, 50, 51, 52, 53, 54, 55, 56, 57] (by decide +kernel) (by decide +kernel)
set_option maxRecDepth 20000 in
theorem gX7_wished_X7_isWish : GoodIn wsX7_wished (wsV RX7 131 RX7 yX7_isWish wsX7_isWish) := goodIn_app (goodIn_of _ (by decide +kernel)) ggX7_wished_X7_isWish
set_option maxRecDepth 20000 in
theorem ggX7_wished_X7_copyOf : GoodIn wsX7_wished wsX7_copyOf := goodIn_r _ [16, 17, 18, 23, 24, 25, 26, 27, 28, 29, 30, 31, 32, 33, 34, 35, 36, 37, 38, 39, 40, 41, 42, 43, 44, 45, 46, 47, 48, 49, 50, 51, 52, 53, 54, 55, 56, 57] (by decide +kernel) (by decide +kernel)
set_option maxRecDepth 20000 in
theorem gX7_wished_X7_copyOf : GoodIn wsX7_wished (wsV RX7 134 RX7 yX7_copyOf wsX7_copyOf) := goodIn_app (goodIn_of _ (by decide +kernel)) ggX7_wished_X7_copyOf
set_option maxRecDepth 20000 in
theorem ggX7_wished_X7_waits : GoodIn wsX7_wished wsX7_waits := goodIn_r _ [22, 1, 13, 14, 15, 7, 16, 17, 18, 23, 24, 25, 26, 27, 28, 29, 30, 31, 32, 33, 34, 35, 36, 37, 38, 39, 40, 41, 42, 43, 44, 45, 46, 47, 48, 49, 50, 51, 52, 53, 54, 55, 56, 57] (by decide +kernel) (by decide +kernel)
set_option maxRecDepth 20000 in
theorem gX7_wished_X7_waits : GoodIn wsX7_wished (wsV RX7 137 RX7 yX7_waits wsX7_waits) := goodIn_app (goodIn_of _ (by decide +kernel)) ggX7_wished_X7_waits
theorem dX7_wished_0 : decode cX7_wished 0 = .ok (.aload_n 0, 1) := by decide +kernel
theorem dX7_wished_1 : decode cX7_wished 1 = .ok (.iload_n 1, 1) := by decide +kernel
theorem dX7_wished_2 : decode cX7_wished 2 = .ok (.invokevirtual 131, 3) := by decide +kernel
theorem dX7_wished_5 : decode cX7_wished 5 = .ok (.ifCond .ne 5, 3) := by decide +kernel
theorem dX7_wished_8 : decode cX7_wished 8 = .ok (.iconst (-1), 1) := by decide +kernel
theorem dX7_wished_9 : decode cX7_wished 9 = .ok (.ireturn, 1) := by decide +kernel
theorem dX7_wished_10 : decode cX7_wished 10 = .ok (.iload_n 2, 1) := by decide +kernel
theorem dX7_wished_11 : decode cX7_wished 11 = .ok (.tableswitch 68 0 3 #[29, 36, 43, 49], 29) := by decide +kernel
theorem dX7_wished_40 : decode cX7_wished 40 = .ok (.aload_n 0, 1) := by decide +kernel
theorem dX7_wished_41 : decode cX7_wished 41 = .ok (.getfield 58, 3) := by decide +kernel
theorem dX7_wished_44 : decode cX7_wished 44 = .ok (.iload_n 1, 1) := by decide +kernel
theorem dX7_wished_45 : decode cX7_wished 45 = .ok (.iaload, 1) := by decide +kernel
theorem dX7_wished_46 : decode cX7_wished 46 = .ok (.ireturn, 1) := by decide +kernel
theorem dX7_wished_47 : decode cX7_wished 47 = .ok (.aload_n 0, 1) := by decide +kernel
theorem dX7_wished_48 : decode cX7_wished 48 = .ok (.getfield 61, 3) := by decide +kernel
theorem dX7_wished_51 : decode cX7_wished 51 = .ok (.iload_n 1, 1) := by decide +kernel
theorem dX7_wished_52 : decode cX7_wished 52 = .ok (.iaload, 1) := by decide +kernel
theorem dX7_wished_53 : decode cX7_wished 53 = .ok (.ireturn, 1) := by decide +kernel
theorem dX7_wished_54 : decode cX7_wished 54 = .ok (.aload_n 0, 1) := by decide +kernel
theorem dX7_wished_55 : decode cX7_wished 55 = .ok (.iload_n 1, 1) := by decide +kernel
theorem dX7_wished_56 : decode cX7_wished 56 = .ok (.invokevirtual 134, 3) := by decide +kernel
theorem dX7_wished_59 : decode cX7_wished 59 = .ok (.ireturn, 1) := by decide +kernel
theorem dX7_wished_60 : decode cX7_wished 60 = .ok (.aload_n 0, 1) := by decide +kernel
theorem dX7_wished_61 : decode cX7_wished 61 = .ok (.iload_n 1, 1) := by decide +kernel
theorem dX7_wished_62 : decode cX7_wished 62 = .ok (.invokevirtual 137, 3) := by decide +kernel
theorem dX7_wished_65 : decode cX7_wished 65 = .ok (.ifCond .eq 12, 3) := by decide +kernel
theorem dX7_wished_68 : decode cX7_wished 68 = .ok (.aload_n 0, 1) := by decide +kernel
theorem dX7_wished_69 : decode cX7_wished 69 = .ok (.getfield 64, 3) := by decide +kernel
theorem dX7_wished_72 : decode cX7_wished 72 = .ok (.iload_n 1, 1) := by decide +kernel
theorem dX7_wished_73 : decode cX7_wished 73 = .ok (.iaload, 1) := by decide +kernel
theorem dX7_wished_74 : decode cX7_wished 74 = .ok (.goto 4, 3) := by decide +kernel
theorem dX7_wished_77 : decode cX7_wished 77 = .ok (.iconst (-1), 1) := by decide +kernel
theorem dX7_wished_78 : decode cX7_wished 78 = .ok (.ireturn, 1) := by decide +kernel
theorem dX7_wished_79 : decode cX7_wished 79 = .ok (.iconst (-1), 1) := by decide +kernel
theorem dX7_wished_80 : decode cX7_wished 80 = .ok (.ireturn, 1) := by decide +kernel
