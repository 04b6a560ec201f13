set_option maxRecDepth 20000 in
theorem ggX6_init_X4_init : GoodIn wsX6_init wsX4_init := goodIn_r _ [33, 34, 2, 3, 35, 36, 37, 88, 89] (by decide +kernel) (by decide +kernel)
set_option maxRecDepth 20000 in
theorem gX6_init_X4_init_n9 : GoodIn wsX6_init (wsX4_init) := ggX6_init_X4_init
set_option maxRecDepth 20000 in
theorem ggX6_init_X0_init : GoodIn wsX6_init wsX0_init := goodIn_r _ [39, 40, 2, 3, 35, 41, 42, 43, 44, 45, 46, 100, 101, 102, 103, 104, 105] (by decide +kernel) (by decide +kernel)
set_option maxRecDepth 20000 in
theorem gX6_init_X0_init_n18 : GoodIn wsX6_init (wsX0_init) := ggX6_init_X0_init
set_option maxRecDepth 20000 in
theorem ggX6_init_X1_init : GoodIn wsX6_init wsX1_init := goodIn_r _ [48, 49, 2, 3, 35, 50, 51, 52, 53, 54, 55, 56, 57, 58, 59, 60, 61, 62, 106, 107, 108, 109, 110, 111, 112, 113, 114, 115, 116, 117, 118] (by decide +kernel) (by decide +kernel)
set_option maxRecDepth 20000 in
theorem gX6_init_X1_init_n25 : GoodIn wsX6_init (wsX1_init) := ggX6_init_X1_init
set_option maxRecDepth 20000 in
theorem ggX6_init_X3_init : GoodIn wsX6_init wsX3_init := goodIn_r _ [64, 65, 2, 3, 35, 66, 67, 68, 69, 70, 71, 72, 119, 120, 121, 122, 123, 124, 125] (by decide +kernel) (by decide +kernel)
set_option maxRecDepth 20000 in
theorem gX6_init_X3_init_n32 : GoodIn wsX6_init (wsX3_init) := ggX6_init_X3_init
set_option maxRecDepth 20000 in
theorem ggX6_init_X5_init : GoodIn wsX6_init wsX5_init := goodIn_r _ [74, 75, 2, 3, 35, 76, 77, 78, 79, 80, 81, 82, 126, 127, 128, 129, 130, 131, 132] (by decide +kernel) (by decide +kernel)
set_option maxRecDepth 20000 in
theorem gX6_init_X5_init_n39 : GoodIn wsX6_init (wsX5_init) := ggX6_init_X5_init
set_option maxRecDepth 20000 in
theorem ggX6_init_X2_init : GoodIn wsX6_init wsX2_init := goodIn_r _ [84, 85, 2, 3, 35, 86, 87, 133, 134] (by decide +kernel) (by decide +kernel)
set_option maxRecDepth 20000 in
theorem gX6_init_X2_init_n46 : GoodIn wsX6_init (wsX2_init) := ggX6_init_X2_init
theorem dX6_init_0 : decode cX6_init 0 = .ok (.aload_n 0, 1) := by decide +kernel
theorem dX6_init_1 : decode cX6_init 1 = .ok (.invokespecial 1, 3) := by decide +kernel
theorem dX6_init_4 : decode cX6_init 4 = .ok (.aload_n 0, 1) := by decide +kernel
theorem dX6_init_5 : decode cX6_init 5 = .ok (.new 7, 3) := by decide +kernel
theorem dX6_init_8 : decode cX6_init 8 = .ok (.dup, 1) := by decide +kernel
theorem dX6_init_9 : decode cX6_init 9 = .ok (.invokespecial 9, 3) := by decide +kernel
theorem dX6_init_12 : decode cX6_init 12 = .ok (.putfield 10, 3) := by decide +kernel
theorem dX6_init_15 : decode cX6_init 15 = .ok (.aload_n 0, 1) := by decide +kernel
theorem dX6_init_16 : decode cX6_init 16 = .ok (.new 16, 3) := by decide +kernel
theorem dX6_init_19 : decode cX6_init 19 = .ok (.dup, 1) := by decide +kernel
theorem dX6_init_20 : decode cX6_init 20 = .ok (.invokespecial 18, 3) := by decide +kernel
theorem dX6_init_23 : decode cX6_init 23 = .ok (.putfield 19, 3) := by decide +kernel
theorem dX6_init_26 : decode cX6_init 26 = .ok (.aload_n 0, 1) := by decide +kernel
theorem dX6_init_27 : decode cX6_init 27 = .ok (.new 23, 3) := by decide +kernel
theorem dX6_init_30 : decode cX6_init 30 = .ok (.dup, 1) := by decide +kernel
theorem dX6_init_31 : decode cX6_init 31 = .ok (.invokespecial 25, 3) := by decide +kernel
theorem dX6_init_34 : decode cX6_init 34 = .ok (.putfield 26, 3) := by decide +kernel
theorem dX6_init_37 : decode cX6_init 37 = .ok (.aload_n 0, 1) := by decide +kernel
theorem dX6_init_38 : decode cX6_init 38 = .ok (.new 30, 3) := by decide +kernel
theorem dX6_init_41 : decode cX6_init 41 = .ok (.dup, 1) := by decide +kernel
theorem dX6_init_42 : decode cX6_init 42 = .ok (.invokespecial 32, 3) := by decide +kernel
theorem dX6_init_45 : decode cX6_init 45 = .ok (.putfield 33, 3) := by decide +kernel
theorem dX6_init_48 : decode cX6_init 48 = .ok (.aload_n 0, 1) := by decide +kernel
theorem dX6_init_49 : decode cX6_init 49 = .ok (.new 37, 3) := by decide +kernel
theorem dX6_init_52 : decode cX6_init 52 = .ok (.dup, 1) := by decide +kernel
theorem dX6_init_53 : decode cX6_init 53 = .ok (.invokespecial 39, 3) := by decide +kernel
theorem dX6_init_56 : decode cX6_init 56 = .ok (.putfield 40, 3) := by decide +kernel
theorem dX6_init_59 : decode cX6_init 59 = .ok (.aload_n 0, 1) := by decide +kernel
theorem dX6_init_60 : decode cX6_init 60 = .ok (.new 44, 3) := by decide +kernel
theorem dX6_init_63 : decode cX6_init 63 = .ok (.dup, 1) := by decide +kernel
theorem dX6_init_64 : decode cX6_init 64 = .ok (.invokespecial 46, 3) := by decide +kernel
theorem dX6_init_67 : decode cX6_init 67 = .ok (.putfield 47, 3) := by decide +kernel
theorem dX6_init_70 : decode cX6_init 70 = .ok (.aload_n 0, 1) := by decide +kernel
theorem dX6_init_71 : decode cX6_init 71 = .ok (.iconst 0, 1) := by decide +kernel
theorem dX6_init_72 : decode cX6_init 72 = .ok (.putfield 51, 3) := by decide +kernel
theorem dX6_init_75 : decode cX6_init 75 = .ok (.aload_n 0, 1) := by decide +kernel
theorem dX6_init_76 : decode cX6_init 76 = .ok (.iconst 0, 1) := by decide +kernel
theorem dX6_init_77 : decode cX6_init 77 = .ok (.putfield 55, 3) := by decide +kernel
theorem dX6_init_80 : decode cX6_init 80 = .ok (.aload_n 0, 1) := by decide +kernel
theorem dX6_init_81 : decode cX6_init 81 = .ok (.iconst 0, 1) := by decide +kernel
theorem dX6_init_82 : decode cX6_init 82 = .ok (.putfield 58, 3) := by decide +kernel
theorem dX6_init_85 : decode cX6_init 85 = .ok (.aload_n 0, 1) := by decide +kernel
theorem dX6_init_86 : decode cX6_init 86 = .ok (.iconst 0, 1) := by decide +kernel
theorem dX6_init_87 : decode cX6_init 87 = .ok (.putfield 61, 3) := by decide +kernel
theorem dX6_init_90 : decode cX6_init 90 = .ok (.return_, 1) := by decide +kernel
set_option maxRecDepth 20000 in
theorem ggX6_title_X6_within : GoodIn wsX6_title wsX6_within := goodIn_r _ [5] (by decide +kernel) (by decide +kernel)
set_option maxRecDepth 20000 in
theorem gX6_title_X6_within : GoodIn wsX6_title (va_wsS RX6 64 yX6_within wsX6_within) := goodIn_app (goodIn_of _ (by decide +kernel)) ggX6_title_X6_within
set_option maxRecDepth 20000 in
theorem ggX6_title_X4_add : GoodIn wsX6_title wsX4_add := goodIn_r _ [9, 10, 11, 22, 23] (by decide +kernel) (by decide +kernel)
set_option maxRecDepth 20000 in
theorem gX6_title_X4_add_n71 : GoodIn wsX6_title (wsX4_add) := ggX6_title_X4_add
theorem dX6_title_0 : decode cX6_title 0 = .ok (.iload_n 1, 1) := by decide +kernel
theorem dX6_title_1 : decode cX6_title 1 = .ok (.iconst 1, 1) := by decide +kernel
theorem dX6_title_2 : decode cX6_title 2 = .ok (.iconst 4, 1) := by decide +kernel
theorem dX6_title_3 : decode cX6_title 3 = .ok (.invokestatic 64, 3) := by decide +kernel
theorem dX6_title_6 : decode cX6_title 6 = .ok (.ifCond .eq 15, 3) := by decide +kernel
theorem dX6_title_9 : decode cX6_title 9 = .ok (.aload_n 0, 1) := by decide +kernel
theorem dX6_title_10 : decode cX6_title 10 = .ok (.getfield 10, 3) := by decide +kernel
theorem dX6_title_13 : decode cX6_title 13 = .ok (.getfield 68, 3) := by decide +kernel
theorem dX6_title_16 : decode cX6_title 16 = .ok (.bipush 12, 2) := by decide +kernel
theorem dX6_title_18 : decode cX6_title 18 = .ok (.if_icmp .lt 5, 3) := by decide +kernel
theorem dX6_title_21 : decode cX6_title 21 = .ok (.iconst (-1), 1) := by decide +kernel
theorem dX6_title_22 : decode cX6_title 22 = .ok (.ireturn, 1) := by decide +kernel
theorem dX6_title_23 : decode cX6_title 23 = .ok (.aload_n 0, 1) := by decide +kernel
theorem dX6_title_24 : decode cX6_title 24 = .ok (.getfield 10, 3) := by decide +kernel
theorem dX6_title_27 : decode cX6_title 27 = .ok (.iload_n 1, 1) := by decide +kernel
theorem dX6_title_28 : decode cX6_title 28 = .ok (.invokevirtual 71, 3) := by decide +kernel
theorem dX6_title_31 : decode cX6_title 31 = .ok (.ireturn, 1) := by decide +kernel
set_option maxRecDepth 20000 in
theorem ggX6_bargain_X4_has : GoodIn wsX6_bargain wsX4_has := goodIn_r _ [6, 7, 38, 39] (by decide +kernel) (by decide +kernel)
set_option maxRecDepth 20000 in
theorem gX6_bargain_X4_has_n75 : GoodIn wsX6_bargain (wsX4_has) := ggX6_bargain_X4_has
set_option maxRecDepth 20000 in
theorem ggX6_bargain_X6_within : GoodIn wsX6_bargain wsX6_within := goodIn_r _ [11] (by decide +kernel) (by decide +kernel)
set_option maxRecDepth 20000 in
theorem gX6_bargain_X6_within : GoodIn wsX6_bargain (va_wsS RX6 64 yX6_within wsX6_within) := goodIn_app (goodIn_of _ (by decide +kernel)) ggX6_bargain_X6_within
set_option maxRecDepth 20000 in
theorem ggX6_bargain_X0_add : GoodIn wsX6_bargain wsX0_add := goodIn_r _ [15, 16, 17, 18, 19, 20, 21, 32, 33, 34, 35, 36, 37] (by decide +kernel) (by decide +kernel)
set_option maxRecDepth 20000 in
theorem gX6_bargain_X0_add_n80 : GoodIn wsX6_bargain (wsX0_add) := ggX6_bargain_X0_add
theorem dX6_bargain_0 : decode cX6_bargain 0 = .ok (.aload_n 0, 1) := by decide +kernel
theorem dX6_bargain_1 : decode cX6_bargain 1 = .ok (.getfield 10, 3) := by decide +kernel
theorem dX6_bargain_4 : decode cX6_bargain 4 = .ok (.iload_n 1, 1) := by decide +kernel
theorem dX6_bargain_5 : decode cX6_bargain 5 = .ok (.invokevirtual 75, 3) := by decide +kernel
theorem dX6_bargain_8 : decode cX6_bargain 8 = .ok (.ifCond .eq 25, 3) := by decide +kernel
theorem dX6_bargain_11 : decode cX6_bargain 11 = .ok (.iload_n 2, 1) := by decide +kernel
theorem dX6_bargain_12 : decode cX6_bargain 12 = .ok (.iconst 0, 1) := by decide +kernel
theorem dX6_bargain_13 : decode cX6_bargain 13 = .ok (.sipush 5000, 3) := by decide +kernel
theorem dX6_bargain_16 : decode cX6_bargain 16 = .ok (.invokestatic 64, 3) := by decide +kernel
theorem dX6_bargain_19 : decode cX6_bargain 19 = .ok (.ifCond .eq 14, 3) := by decide +kernel
theorem dX6_bargain_22 : decode cX6_bargain 22 = .ok (.iload_n 3, 1) := by decide +kernel
theorem dX6_bargain_23 : decode cX6_bargain 23 = .ok (.iconst 0, 1) := by decide +kernel
theorem dX6_bargain_24 : decode cX6_bargain 24 = .ok (.sipush 200, 3) := by decide +kernel
theorem dX6_bargain_27 : decode cX6_bargain 27 = .ok (.invokestatic 64, 3) := by decide +kernel
theorem dX6_bargain_30 : decode cX6_bargain 30 = .ok (.ifCond .ne 5, 3) := by decide +kernel
theorem dX6_bargain_33 : decode cX6_bargain 33 = .ok (.iconst 0, 1) := by decide +kernel
theorem dX6_bargain_34 : decode cX6_bargain 34 = .ok (.ireturn, 1) := by decide +kernel
theorem dX6_bargain_35 : decode cX6_bargain 35 = .ok (.iload 4, 2) := by decide +kernel
theorem dX6_bargain_37 : decode cX6_bargain 37 = .ok (.iconst 0, 1) := by decide +kernel
theorem dX6_bargain_38 : decode cX6_bargain 38 = .ok (.sipush 1000, 3) := by decide +kernel
theorem dX6_bargain_41 : decode cX6_bargain 41 = .ok (.invokestatic 64, 3) := by decide +kernel
theorem dX6_bargain_44 : decode cX6_bargain 44 = .ok (.ifCond .eq 15, 3) := by decide +kernel
theorem dX6_bargain_47 : decode cX6_bargain 47 = .ok (.iload 5, 2) := by decide +kernel
theorem dX6_bargain_49 : decode cX6_bargain 49 = .ok (.iconst 0, 1) := by decide +kernel
theorem dX6_bargain_50 : decode cX6_bargain 50 = .ok (.sipush 1000, 3) := by decide +kernel
theorem dX6_bargain_53 : decode cX6_bargain 53 = .ok (.invokestatic 64, 3) := by decide +kernel
theorem dX6_bargain_56 : decode cX6_bargain 56 = .ok (.ifCond .ne 5, 3) := by decide +kernel
theorem dX6_bargain_59 : decode cX6_bargain 59 = .ok (.iconst 0, 1) := by decide +kernel
theorem dX6_bargain_60 : decode cX6_bargain 60 = .ok (.ireturn, 1) := by decide +kernel
theorem dX6_bargain_61 : decode cX6_bargain 61 = .ok (.aload_n 0, 1) := by decide +kernel
theorem dX6_bargain_62 : decode cX6_bargain 62 = .ok (.getfield 19, 3) := by decide +kernel
theorem dX6_bargain_65 : decode cX6_bargain 65 = .ok (.getfield 79, 3) := by decide +kernel
theorem dX6_bargain_68 : decode cX6_bargain 68 = .ok (.bipush 40, 2) := by decide +kernel
theorem dX6_bargain_70 : decode cX6_bargain 70 = .ok (.if_icmp .lt 5, 3) := by decide +kernel
theorem dX6_bargain_73 : decode cX6_bargain 73 = .ok (.iconst 0, 1) := by decide +kernel
theorem dX6_bargain_74 : decode cX6_bargain 74 = .ok (.ireturn, 1) := by decide +kernel
theorem dX6_bargain_75 : decode cX6_bargain 75 = .ok (.aload_n 0, 1) := by decide +kernel
theorem dX6_bargain_76 : decode cX6_bargain 76 = .ok (.getfield 19, 3) := by decide +kernel
theorem dX6_bargain_79 : decode cX6_bargain 79 = .ok (.iload_n 1, 1) := by decide +kernel
theorem dX6_bargain_80 : decode cX6_bargain 80 = .ok (.iload_n 2, 1) := by decide +kernel
theorem dX6_bargain_81 : decode cX6_bargain 81 = .ok (.iload_n 3, 1) := by decide +kernel
theorem dX6_bargain_82 : decode cX6_bargain 82 = .ok (.iload 4, 2) := by decide +kernel
theorem dX6_bargain_84 : decode cX6_bargain 84 = .ok (.iload 5, 2) := by decide +kernel
theorem dX6_bargain_86 : decode cX6_bargain 86 = .ok (.invokevirtual 80, 3) := by decide +kernel
theorem dX6_bargain_89 : decode cX6_bargain 89 = .ok (.iconst 1, 1) := by decide +kernel
theorem dX6_bargain_90 : decode cX6_bargain 90 = .ok (.ireturn, 1) := by decide +kernel
set_option maxRecDepth 20000 in
theorem ggX6_buy_X4_has : GoodIn wsX6_buy wsX4_has := goodIn_r _ [9, 10, 97, 98] (by decide +kernel) (by decide +kernel)
set_option maxRecDepth 20000 in
theorem gX6_buy_X4_has_n75 : GoodIn wsX6_buy (wsX4_has) := ggX6_buy_X4_has
set_option maxRecDepth 20000 in
theorem ggX6_buy_X6_within : GoodIn wsX6_buy wsX6_within := goodIn_r _ [14] (by decide +kernel) (by decide +kernel)
set_option maxRecDepth 20000 in
theorem gX6_buy_X6_within : GoodIn wsX6_buy (va_wsS RX6 64 yX6_within wsX6_within) := goodIn_app (goodIn_of _ (by decide +kernel)) ggX6_buy_X6_within
set_option maxRecDepth 20000 in
theorem ggX6_buy_X4_volumesOf : GoodIn wsX6_buy wsX4_volumesOf := goodIn_r _ [17, 18, 19, 6, 8, 7, 9, 10, 97, 98] (by decide +kernel) (by decide +kernel)
set_option maxRecDepth 20000 in
theorem gX6_buy_X4_volumesOf_n83 : GoodIn wsX6_buy (wsX4_volumesOf) := ggX6_buy_X4_volumesOf
set_option maxRecDepth 20000 in
theorem ggX6_buy_X0_inForce : GoodIn wsX6_buy wsX0_inForce := goodIn_r _ [23, 24, 25, 26, 99, 100, 101, 102, 103, 104] (by decide +kernel) (by decide +kernel)
set_option maxRecDepth 20000 in
theorem gX6_buy_X0_inForce_n87 : GoodIn wsX6_buy (wsX0_inForce) := ggX6_buy_X0_inForce
set_option maxRecDepth 20000 in
theorem ggX6_buy_X0_priceAt : GoodIn wsX6_buy wsX0_priceAt := goodIn_r _ [29, 24, 30, 31, 32, 99, 100, 101, 102, 103, 104] (by decide +kernel) (by decide +kernel)
set_option maxRecDepth 20000 in
theorem gX6_buy_X0_priceAt_n91 : GoodIn wsX6_buy (wsX0_priceAt) := ggX6_buy_X0_priceAt
set_option maxRecDepth 20000 in
theorem ggX6_buy_X1_add : GoodIn wsX6_buy wsX1_add := goodIn_r _ [36, 37, 38, 39, 40, 41, 42, 43, 44, 45, 34, 46, 47, 48, 49, 50, 51, 52, 53, 54, 55, 56, 57, 58, 59, 60, 61, 62, 63, 64, 65, 66, 67, 68, 69, 70, 71, 72, 73, 84, 85, 86, 87, 88, 89, 90, 91, 92, 93, 94, 95, 96] (by decide +kernel) (by decide +kernel)
set_option maxRecDepth 20000 in
theorem gX6_buy_X1_add_n94 : GoodIn wsX6_buy (wsX1_add) := ggX6_buy_X1_add
theorem dX6_buy_0 : decode cX6_buy 0 = .ok (.aload_n 0, 1) := by decide +kernel
theorem dX6_buy_1 : decode cX6_buy 1 = .ok (.getfield 10, 3) := by decide +kernel
theorem dX6_buy_4 : decode cX6_buy 4 = .ok (.iload_n 1, 1) := by decide +kernel
theorem dX6_buy_5 : decode cX6_buy 5 = .ok (.invokevirtual 75, 3) := by decide +kernel
theorem dX6_buy_8 : decode cX6_buy 8 = .ok (.ifCond .eq 13, 3) := by decide +kernel
theorem dX6_buy_11 : decode cX6_buy 11 = .ok (.iload_n 2, 1) := by decide +kernel
theorem dX6_buy_12 : decode cX6_buy 12 = .ok (.iconst 1, 1) := by decide +kernel
theorem dX6_buy_13 : decode cX6_buy 13 = .ok (.bipush 20, 2) := by decide +kernel
theorem dX6_buy_15 : decode cX6_buy 15 = .ok (.invokestatic 64, 3) := by decide +kernel
theorem dX6_buy_18 : decode cX6_buy 18 = .ok (.ifCond .ne 5, 3) := by decide +kernel
theorem dX6_buy_21 : decode cX6_buy 21 = .ok (.iconst (-1), 1) := by decide +kernel
theorem dX6_buy_22 : decode cX6_buy 22 = .ok (.ireturn, 1) := by decide +kernel
theorem dX6_buy_23 : decode cX6_buy 23 = .ok (.iload_n 2, 1) := by decide +kernel
theorem dX6_buy_24 : decode cX6_buy 24 = .ok (.aload_n 0, 1) := by decide +kernel
theorem dX6_buy_25 : decode cX6_buy 25 = .ok (.getfield 10, 3) := by decide +kernel
theorem dX6_buy_28 : decode cX6_buy 28 = .ok (.iload_n 1, 1) := by decide +kernel
theorem dX6_buy_29 : decode cX6_buy 29 = .ok (.invokevirtual 83, 3) := by decide +kernel
theorem dX6_buy_32 : decode cX6_buy 32 = .ok (.imul, 1) := by decide +kernel
theorem dX6_buy_33 : decode cX6_buy 33 = .ok (.istore_n 3, 1) := by decide +kernel
theorem dX6_buy_34 : decode cX6_buy 34 = .ok (.aload_n 0, 1) := by decide +kernel
theorem dX6_buy_35 : decode cX6_buy 35 = .ok (.getfield 26, 3) := by decide +kernel
theorem dX6_buy_38 : decode cX6_buy 38 = .ok (.getfield 86, 3) := by decide +kernel
theorem dX6_buy_41 : decode cX6_buy 41 = .ok (.iload_n 3, 1) := by decide +kernel
theorem dX6_buy_42 : decode cX6_buy 42 = .ok (.iadd, 1) := by decide +kernel
theorem dX6_buy_43 : decode cX6_buy 43 = .ok (.sipush 200, 3) := by decide +kernel
theorem dX6_buy_46 : decode cX6_buy 46 = .ok (.if_icmp .le 5, 3) := by decide +kernel
theorem dX6_buy_49 : decode cX6_buy 49 = .ok (.iconst (-1), 1) := by decide +kernel
theorem dX6_buy_50 : decode cX6_buy 50 = .ok (.ireturn, 1) := by decide +kernel
theorem dX6_buy_51 : decode cX6_buy 51 = .ok (.aload_n 0, 1) := by decide +kernel
theorem dX6_buy_52 : decode cX6_buy 52 = .ok (.getfield 19, 3) := by decide +kernel
theorem dX6_buy_55 : decode cX6_buy 55 = .ok (.iload_n 1, 1) := by decide +kernel
theorem dX6_buy_56 : decode cX6_buy 56 = .ok (.aload_n 0, 1) := by decide +kernel
theorem dX6_buy_57 : decode cX6_buy 57 = .ok (.getfield 51, 3) := by decide +kernel
theorem dX6_buy_60 : decode cX6_buy 60 = .ok (.invokevirtual 87, 3) := by decide +kernel
theorem dX6_buy_63 : decode cX6_buy 63 = .ok (.istore 4, 2) := by decide +kernel
theorem dX6_buy_65 : decode cX6_buy 65 = .ok (.iconst 0, 1) := by decide +kernel
theorem dX6_buy_66 : decode cX6_buy 66 = .ok (.istore 5, 2) := by decide +kernel
theorem dX6_buy_68 : decode cX6_buy 68 = .ok (.iconst 0, 1) := by decide +kernel
theorem dX6_buy_69 : decode cX6_buy 69 = .ok (.istore 6, 2) := by decide +kernel
theorem dX6_buy_71 : decode cX6_buy 71 = .ok (.iload 6, 2) := by decide +kernel
theorem dX6_buy_73 : decode cX6_buy 73 = .ok (.iload_n 3, 1) := by decide +kernel
theorem dX6_buy_74 : decode cX6_buy 74 = .ok (.if_icmp .ge 43, 3) := by decide +kernel
theorem dX6_buy_77 : decode cX6_buy 77 = .ok (.aload_n 0, 1) := by decide +kernel
theorem dX6_buy_78 : decode cX6_buy 78 = .ok (.getfield 19, 3) := by decide +kernel
theorem dX6_buy_81 : decode cX6_buy 81 = .ok (.iload 4, 2) := by decide +kernel
theorem dX6_buy_83 : decode cX6_buy 83 = .ok (.iload 6, 2) := by decide +kernel
theorem dX6_buy_85 : decode cX6_buy 85 = .ok (.invokevirtual 91, 3) := by decide +kernel
theorem dX6_buy_88 : decode cX6_buy 88 = .ok (.istore 7, 2) := by decide +kernel
theorem dX6_buy_90 : decode cX6_buy 90 = .ok (.aload_n 0, 1) := by decide +kernel
theorem dX6_buy_91 : decode cX6_buy 91 = .ok (.getfield 26, 3) := by decide +kernel
theorem dX6_buy_94 : decode cX6_buy 94 = .ok (.iload_n 1, 1) := by decide +kernel
theorem dX6_buy_95 : decode cX6_buy 95 = .ok (.iload 6, 2) := by decide +kernel
theorem dX6_buy_97 : decode cX6_buy 97 = .ok (.iload_n 2, 1) := by decide +kernel
theorem dX6_buy_98 : decode cX6_buy 98 = .ok (.idiv, 1) := by decide +kernel
theorem dX6_buy_99 : decode cX6_buy 99 = .ok (.iload 7, 2) := by decide +kernel
theorem dX6_buy_101 : decode cX6_buy 101 = .ok (.invokevirtual 94, 3) := by decide +kernel
theorem dX6_buy_104 : decode cX6_buy 104 = .ok (.iload 5, 2) := by decide +kernel
theorem dX6_buy_106 : decode cX6_buy 106 = .ok (.iload 7, 2) := by decide +kernel
theorem dX6_buy_108 : decode cX6_buy 108 = .ok (.iadd, 1) := by decide +kernel
theorem dX6_buy_109 : decode cX6_buy 109 = .ok (.istore 5, 2) := by decide +kernel
theorem dX6_buy_111 : decode cX6_buy 111 = .ok (.iinc 6 1, 3) := by decide +kernel
theorem dX6_buy_114 : decode cX6_buy 114 = .ok (.goto (-43), 3) := by decide +kernel
theorem dX6_buy_117 : decode cX6_buy 117 = .ok (.aload_n 0, 1) := by decide +kernel
theorem dX6_buy_118 : decode cX6_buy 118 = .ok (.dup, 1) := by decide +kernel
theorem dX6_buy_119 : decode cX6_buy 119 = .ok (.getfield 55, 3) := by decide +kernel
theorem dX6_buy_122 : decode cX6_buy 122 = .ok (.iload 5, 2) := by decide +kernel
theorem dX6_buy_124 : decode cX6_buy 124 = .ok (.iadd, 1) := by decide +kernel
theorem dX6_buy_125 : decode cX6_buy 125 = .ok (.putfield 55, 3) := by decide +kernel
theorem dX6_buy_128 : decode cX6_buy 128 = .ok (.iload 5, 2) := by decide +kernel
theorem dX6_buy_130 : decode cX6_buy 130 = .ok (.ireturn, 1) := by decide +kernel
set_option maxRecDepth 20000 in
theorem ggX6_sell_X1_isAt : GoodIn wsX6_sell wsX1_isAt := goodIn_r _ [6, 7, 8, 9, 10, 4, 11, 12, 59, 60, 61, 62, 63, 64, 65, 66, 67, 68, 69, 70, 71] (by decide +kernel) (by decide +kernel)
set_option maxRecDepth 20000 in
theorem gX6_sell_X1_isAt_n97 : GoodIn wsX6_sell (wsX1_isAt) := ggX6_sell_X1_isAt
set_option maxRecDepth 20000 in
theorem ggX6_sell_X6_within : GoodIn wsX6_sell wsX6_within := goodIn_r _ [16] (by decide +kernel) (by decide +kernel)
set_option maxRecDepth 20000 in
theorem gX6_sell_X6_within : GoodIn wsX6_sell (va_wsS RX6 64 yX6_within wsX6_within) := goodIn_app (goodIn_of _ (by decide +kernel)) ggX6_sell_X6_within
set_option maxRecDepth 20000 in
theorem ggX6_sell_X1_leaveFor : GoodIn wsX6_sell wsX1_leaveFor := goodIn_r _ [19, 20, 21, 22, 4, 23, 7, 24, 25, 26, 27, 28, 29, 30, 31, 32, 33, 34, 35, 36, 37, 38, 39, 40, 41, 42, 43, 44, 45, 46, 47, 48, 59, 60, 61, 62, 63, 64, 65, 66, 67, 68, 69, 70, 71] (by decide +kernel) (by decide +kernel)
set_option maxRecDepth 20000 in
theorem gX6_sell_X1_leaveFor_n101 : GoodIn wsX6_sell (wsX1_leaveFor) := ggX6_sell_X1_leaveFor
theorem dX6_sell_0 : decode cX6_sell 0 = .ok (.aload_n 0, 1) := by decide +kernel
theorem dX6_sell_1 : decode cX6_sell 1 = .ok (.getfield 26, 3) := by decide +kernel
theorem dX6_sell_4 : decode cX6_sell 4 = .ok (.iload_n 1, 1) := by decide +kernel
theorem dX6_sell_5 : decode cX6_sell 5 = .ok (.iconst 0, 1) := by decide +kernel
theorem dX6_sell_6 : decode cX6_sell 6 = .ok (.invokevirtual 97, 3) := by decide +kernel
theorem dX6_sell_9 : decode cX6_sell 9 = .ok (.ifCond .eq 14, 3) := by decide +kernel
theorem dX6_sell_12 : decode cX6_sell 12 = .ok (.iload_n 2, 1) := by decide +kernel
theorem dX6_sell_13 : decode cX6_sell 13 = .ok (.iconst 0, 1) := by decide +kernel
theorem dX6_sell_14 : decode cX6_sell 14 = .ok (.sipush 1000, 3) := by decide +kernel
theorem dX6_sell_17 : decode cX6_sell 17 = .ok (.invokestatic 64, 3) := by decide +kernel
theorem dX6_sell_20 : decode cX6_sell 20 = .ok (.ifCond .ne 5, 3) := by decide +kernel
theorem dX6_sell_23 : decode cX6_sell 23 = .ok (.iconst 0, 1) := by decide +kernel
theorem dX6_sell_24 : decode cX6_sell 24 = .ok (.ireturn, 1) := by decide +kernel
theorem dX6_sell_25 : decode cX6_sell 25 = .ok (.aload_n 0, 1) := by decide +kernel
theorem dX6_sell_26 : decode cX6_sell 26 = .ok (.getfield 26, 3) := by decide +kernel
theorem dX6_sell_29 : decode cX6_sell 29 = .ok (.iload_n 1, 1) := by decide +kernel
theorem dX6_sell_30 : decode cX6_sell 30 = .ok (.iconst 4, 1) := by decide +kernel
theorem dX6_sell_31 : decode cX6_sell 31 = .ok (.invokevirtual 101, 3) := by decide +kernel
theorem dX6_sell_34 : decode cX6_sell 34 = .ok (.aload_n 0, 1) := by decide +kernel
theorem dX6_sell_35 : decode cX6_sell 35 = .ok (.dup, 1) := by decide +kernel
theorem dX6_sell_36 : decode cX6_sell 36 = .ok (.getfield 58, 3) := by decide +kernel
theorem dX6_sell_39 : decode cX6_sell 39 = .ok (.iload_n 2, 1) := by decide +kernel
theorem dX6_sell_40 : decode cX6_sell 40 = .ok (.iadd, 1) := by decide +kernel
theorem dX6_sell_41 : decode cX6_sell 41 = .ok (.putfield 58, 3) := by decide +kernel
theorem dX6_sell_44 : decode cX6_sell 44 = .ok (.iconst 1, 1) := by decide +kernel
theorem dX6_sell_45 : decode cX6_sell 45 = .ok (.ireturn, 1) := by decide +kernel
set_option maxRecDepth 20000 in
theorem ggX6_reader_X6_within : GoodIn wsX6_reader wsX6_within := goodIn_r _ [5] (by decide +kernel) (by decide +kernel)
set_option maxRecDepth 20000 in
theorem gX6_reader_X6_within : GoodIn wsX6_reader (va_wsS RX6 64 yX6_within wsX6_within) := goodIn_app (goodIn_of _ (by decide +kernel)) ggX6_reader_X6_within
set_option maxRecDepth 20000 in
theorem ggX6_reader_X3_add : GoodIn wsX6_reader wsX3_add := goodIn_r _ [9, 10, 11, 12, 13, 24, 25, 26, 27, 28, 29, 30] (by decide +kernel) (by decide +kernel)
set_option maxRecDepth 20000 in
theorem gX6_reader_X3_add_n106 : GoodIn wsX6_reader (wsX3_add) := ggX6_reader_X3_add
theorem dX6_reader_0 : decode cX6_reader 0 = .ok (.iload_n 1, 1) := by decide +kernel
theorem dX6_reader_1 : decode cX6_reader 1 = .ok (.iconst 0, 1) := by decide +kernel
theorem dX6_reader_2 : decode cX6_reader 2 = .ok (.iconst 2, 1) := by decide +kernel
theorem dX6_reader_3 : decode cX6_reader 3 = .ok (.invokestatic 64, 3) := by decide +kernel
theorem dX6_reader_6 : decode cX6_reader 6 = .ok (.ifCond .eq 13, 3) := by decide +kernel
theorem dX6_reader_9 : decode cX6_reader 9 = .ok (.iload_n 2, 1) := by decide +kernel
theorem dX6_reader_10 : decode cX6_reader 10 = .ok (.iconst 0, 1) := by decide +kernel
theorem dX6_reader_11 : decode cX6_reader 11 = .ok (.bipush 9, 2) := by decide +kernel
theorem dX6_reader_13 : decode cX6_reader 13 = .ok (.invokestatic 64, 3) := by decide +kernel
theorem dX6_reader_16 : decode cX6_reader 16 = .ok (.ifCond .ne 5, 3) := by decide +kernel
theorem dX6_reader_19 : decode cX6_reader 19 = .ok (.iconst (-1), 1) := by decide +kernel
theorem dX6_reader_20 : decode cX6_reader 20 = .ok (.ireturn, 1) := by decide +kernel
theorem dX6_reader_21 : decode cX6_reader 21 = .ok (.iload_n 3, 1) := by decide +kernel
theorem dX6_reader_22 : decode cX6_reader 22 = .ok (.iconst 0, 1) := by decide +kernel
theorem dX6_reader_23 : decode cX6_reader 23 = .ok (.sipush 5000, 3) := by decide +kernel
theorem dX6_reader_26 : decode cX6_reader 26 = .ok (.invokestatic 64, 3) := by decide +kernel
theorem dX6_reader_29 : decode cX6_reader 29 = .ok (.ifCond .eq 15, 3) := by decide +kernel
theorem dX6_reader_32 : decode cX6_reader 32 = .ok (.aload_n 0, 1) := by decide +kernel
theorem dX6_reader_33 : decode cX6_reader 33 = .ok (.getfield 33, 3) := by decide +kernel
theorem dX6_reader_36 : decode cX6_reader 36 = .ok (.getfield 105, 3) := by decide +kernel
theorem dX6_reader_39 : decode cX6_reader 39 = .ok (.bipush 20, 2) := by decide +kernel
theorem dX6_reader_41 : decode cX6_reader 41 = .ok (.if_icmp .lt 5, 3) := by decide +kernel
theorem dX6_reader_44 : decode cX6_reader 44 = .ok (.iconst (-1), 1) := by decide +kernel
theorem dX6_reader_45 : decode cX6_reader 45 = .ok (.ireturn, 1) := by decide +kernel
theorem dX6_reader_46 : decode cX6_reader 46 = .ok (.aload_n 0, 1) := by decide +kernel
theorem dX6_reader_47 : decode cX6_reader 47 = .ok (.getfield 33, 3) := by decide +kernel
theorem dX6_reader_50 : decode cX6_reader 50 = .ok (.iload_n 1, 1) := by decide +kernel
theorem dX6_reader_51 : decode cX6_reader 51 = .ok (.iload_n 2, 1) := by decide +kernel
theorem dX6_reader_52 : decode cX6_reader 52 = .ok (.iload_n 3, 1) := by decide +kernel
theorem dX6_reader_53 : decode cX6_reader 53 = .ok (.invokevirtual 106, 3) := by decide +kernel
theorem dX6_reader_56 : decode cX6_reader 56 = .ok (.ireturn, 1) := by decide +kernel
set_option maxRecDepth 20000 in
theorem ggX6_renew_X3_has : GoodIn wsX6_renew wsX3_has := goodIn_r _ [5, 6, 21, 22, 23, 24, 25, 26, 27] (by decide +kernel) (by decide +kernel)
set_option maxRecDepth 20000 in
theorem gX6_renew_X3_has_n109 : GoodIn wsX6_renew (wsX3_has) := ggX6_renew_X3_has
set_option maxRecDepth 20000 in
theorem ggX6_renew_X6_within : GoodIn wsX6_renew wsX6_within := goodIn_r _ [10] (by decide +kernel) (by decide +kernel)
set_option maxRecDepth 20000 in
theorem gX6_renew_X6_within : GoodIn wsX6_renew (va_wsS RX6 64 yX6_within wsX6_within) := goodIn_app (goodIn_of _ (by decide +kernel)) ggX6_renew_X6_within
theorem dX6_renew_0 : decode cX6_renew 0 = .ok (.aload_n 0, 1) := by decide +kernel
theorem dX6_renew_1 : decode cX6_renew 1 = .ok (.getfield 33, 3) := by decide +kernel
theorem dX6_renew_4 : decode cX6_renew 4 = .ok (.iload_n 1, 1) := by decide +kernel
theorem dX6_renew_5 : decode cX6_renew 5 = .ok (.invokevirtual 109, 3) := by decide +kernel
theorem dX6_renew_8 : decode cX6_renew 8 = .ok (.ifCond .eq 14, 3) := by decide +kernel
theorem dX6_renew_11 : decode cX6_renew 11 = .ok (.iload_n 2, 1) := by decide +kernel
theorem dX6_renew_12 : decode cX6_renew 12 = .ok (.iconst 0, 1) := by decide +kernel
theorem dX6_renew_13 : decode cX6_renew 13 = .ok (.sipush 5000, 3) := by decide +kernel
theorem dX6_renew_16 : decode cX6_renew 16 = .ok (.invokestatic 64, 3) := by decide +kernel
theorem dX6_renew_19 : decode cX6_renew 19 = .ok (.ifCond .ne 5, 3) := by decide +kernel
theorem dX6_renew_22 : decode cX6_renew 22 = .ok (.iconst 0, 1) := by decide +kernel
theorem dX6_renew_23 : decode cX6_renew 23 = .ok (.ireturn, 1) := by decide +kernel
theorem dX6_renew_24 : decode cX6_renew 24 = .ok (.aload_n 0, 1) := by decide +kernel
theorem dX6_renew_25 : decode cX6_renew 25 = .ok (.getfield 33, 3) := by decide +kernel
theorem dX6_renew_28 : decode cX6_renew 28 = .ok (.getfield 110, 3) := by decide +kernel
theorem dX6_renew_31 : decode cX6_renew 31 = .ok (.iload_n 1, 1) := by decide +kernel
theorem dX6_renew_32 : decode cX6_renew 32 = .ok (.iload_n 2, 1) := by decide +kernel
theorem dX6_renew_33 : decode cX6_renew 33 = .ok (.iastore, 1) := by decide +kernel
theorem dX6_renew_34 : decode cX6_renew 34 = .ok (.iconst 1, 1) := by decide +kernel
theorem dX6_renew_35 : decode cX6_renew 35 = .ok (.ireturn, 1) := by decide +kernel
set_option maxRecDepth 20000 in
theorem ggX6_wish_X3_has : GoodIn wsX6_wish wsX3_has := goodIn_r _ [8, 9, 46, 47, 48, 49, 50, 51, 52] (by decide +kernel) (by decide +kernel)
set_option maxRecDepth 20000 in
theorem gX6_wish_X3_has_n109 : GoodIn wsX6_wish (wsX3_has) := ggX6_wish_X3_has
set_option maxRecDepth 20000 in
theorem ggX6_wish_X4_has : GoodIn wsX6_wish wsX4_has := goodIn_r _ [13, 14, 53, 54] (by decide +kernel) (by decide +kernel)
set_option maxRecDepth 20000 in
theorem gX6_wish_X4_has_n75 : GoodIn wsX6_wish (wsX4_has) := ggX6_wish_X4_has
set_option maxRecDepth 20000 in
theorem ggX6_wish_X5_hasOpen : GoodIn wsX6_wish wsX5_hasOpen := goodIn_r _ [18, 19, 20, 21, 22, 39, 40, 41, 42, 43, 44, 45] (by decide +kernel) (by decide +kernel)
set_option maxRecDepth 20000 in
theorem gX6_wish_X5_hasOpen_n115 : GoodIn wsX6_wish (wsX5_hasOpen) := ggX6_wish_X5_hasOpen
set_option maxRecDepth 20000 in
theorem ggX6_wish_X5_add : GoodIn wsX6_wish wsX5_add := goodIn_r _ [25, 19, 21, 22, 20, 26, 27, 28, 39, 40, 41, 42, 43, 44, 45] (by decide +kernel) (by decide +kernel)
set_option maxRecDepth 20000 in
theorem gX6_wish_X5_add_n118 : GoodIn wsX6_wish (wsX5_add) := ggX6_wish_X5_add
theorem dX6_wish_0 : decode cX6_wish 0 = .ok (.aload_n 0, 1) := by decide +kernel
theorem dX6_wish_1 : decode cX6_wish 1 = .ok (.getfield 33, 3) := by decide +kernel
theorem dX6_wish_4 : decode cX6_wish 4 = .ok (.iload_n 1, 1) := by decide +kernel
theorem dX6_wish_5 : decode cX6_wish 5 = .ok (.invokevirtual 109, 3) := by decide +kernel
theorem dX6_wish_8 : decode cX6_wish 8 = .ok (.ifCond .eq 26, 3) := by decide +kernel
theorem dX6_wish_11 : decode cX6_wish 11 = .ok (.aload_n 0, 1) := by decide +kernel
theorem dX6_wish_12 : decode cX6_wish 12 = .ok (.getfield 10, 3) := by decide +kernel
theorem dX6_wish_15 : decode cX6_wish 15 = .ok (.iload_n 2, 1) := by decide +kernel
theorem dX6_wish_16 : decode cX6_wish 16 = .ok (.invokevirtual 75, 3) := by decide +kernel
theorem dX6_wish_19 : decode cX6_wish 19 = .ok (.ifCond .eq 15, 3) := by decide +kernel
theorem dX6_wish_22 : decode cX6_wish 22 = .ok (.aload_n 0, 1) := by decide +kernel
theorem dX6_wish_23 : decode cX6_wish 23 = .ok (.getfield 40, 3) := by decide +kernel
theorem dX6_wish_26 : decode cX6_wish 26 = .ok (.getfield 114, 3) := by decide +kernel
theorem dX6_wish_29 : decode cX6_wish 29 = .ok (.bipush 100, 2) := by decide +kernel
theorem dX6_wish_31 : decode cX6_wish 31 = .ok (.if_icmp .lt 5, 3) := by decide +kernel
theorem dX6_wish_34 : decode cX6_wish 34 = .ok (.iconst (-1), 1) := by decide +kernel
theorem dX6_wish_35 : decode cX6_wish 35 = .ok (.ireturn, 1) := by decide +kernel
theorem dX6_wish_36 : decode cX6_wish 36 = .ok (.aload_n 0, 1) := by decide +kernel
theorem dX6_wish_37 : decode cX6_wish 37 = .ok (.getfield 40, 3) := by decide +kernel
theorem dX6_wish_40 : decode cX6_wish 40 = .ok (.iload_n 1, 1) := by decide +kernel
theorem dX6_wish_41 : decode cX6_wish 41 = .ok (.iload_n 2, 1) := by decide +kernel
theorem dX6_wish_42 : decode cX6_wish 42 = .ok (.invokevirtual 115, 3) := by decide +kernel
theorem dX6_wish_45 : decode cX6_wish 45 = .ok (.ifCond .eq 5, 3) := by decide +kernel
theorem dX6_wish_48 : decode cX6_wish 48 = .ok (.iconst (-1), 1) := by decide +kernel
theorem dX6_wish_49 : decode cX6_wish 49 = .ok (.ireturn, 1) := by decide +kernel
theorem dX6_wish_50 : decode cX6_wish 50 = .ok (.aload_n 0, 1) := by decide +kernel
theorem dX6_wish_51 : decode cX6_wish 51 = .ok (.getfield 40, 3) := by decide +kernel
theorem dX6_wish_54 : decode cX6_wish 54 = .ok (.iload_n 1, 1) := by decide +kernel
theorem dX6_wish_55 : decode cX6_wish 55 = .ok (.iload_n 2, 1) := by decide +kernel
theorem dX6_wish_56 : decode cX6_wish 56 = .ok (.aload_n 0, 1) := by decide +kernel
theorem dX6_wish_57 : decode cX6_wish 57 = .ok (.getfield 51, 3) := by decide +kernel
theorem dX6_wish_60 : decode cX6_wish 60 = .ok (.invokevirtual 118, 3) := by decide +kernel
theorem dX6_wish_63 : decode cX6_wish 63 = .ok (.ireturn, 1) := by decide +kernel
set_option maxRecDepth 20000 in
theorem ggX6_unwish_X5_isOpen : GoodIn wsX6_unwish wsX5_isOpen := goodIn_r _ [5, 6, 7, 8, 9, 3, 10, 11, 22, 23, 24, 25, 26, 27, 28] (by decide +kernel) (by decide +kernel)
set_option maxRecDepth 20000 in
theorem gX6_unwish_X5_isOpen_n119 : GoodIn wsX6_unwish (wsX5_isOpen) := ggX6_unwish_X5_isOpen
theorem dX6_unwish_0 : decode cX6_unwish 0 = .ok (.aload_n 0, 1) := by decide +kernel
theorem dX6_unwish_1 : decode cX6_unwish 1 = .ok (.getfield 40, 3) := by decide +kernel
theorem dX6_unwish_4 : decode cX6_unwish 4 = .ok (.iload_n 1, 1) := by decide +kernel
theorem dX6_unwish_5 : decode cX6_unwish 5 = .ok (.invokevirtual 119, 3) := by decide +kernel
theorem dX6_unwish_8 : decode cX6_unwish 8 = .ok (.ifCond .ne 5, 3) := by decide +kernel
theorem dX6_unwish_11 : decode cX6_unwish 11 = .ok (.iconst 0, 1) := by decide +kernel
theorem dX6_unwish_12 : decode cX6_unwish 12 = .ok (.ireturn, 1) := by decide +kernel
theorem dX6_unwish_13 : decode cX6_unwish 13 = .ok (.aload_n 0, 1) := by decide +kernel
theorem dX6_unwish_14 : decode cX6_unwish 14 = .ok (.getfield 40, 3) := by decide +kernel
theorem dX6_unwish_17 : decode cX6_unwish 17 = .ok (.getfield 122, 3) := by decide +kernel
theorem dX6_unwish_20 : decode cX6_unwish 20 = .ok (.iload_n 1, 1) := by decide +kernel
theorem dX6_unwish_21 : decode cX6_unwish 21 = .ok (.iconst 2, 1) := by decide +kernel
theorem dX6_unwish_22 : decode cX6_unwish 22 = .ok (.iastore, 1) := by decide +kernel
theorem dX6_unwish_23 : decode cX6_unwish 23 = .ok (.iconst 1, 1) := by decide +kernel
theorem dX6_unwish_24 : decode cX6_unwish 24 = .ok (.ireturn, 1) := by decide +kernel
set_option maxRecDepth 20000 in
theorem ggX6_go_X6_within : GoodIn wsX6_go wsX6_within := goodIn_r _ [9] (by decide +kernel) (by decide +kernel)
set_option maxRecDepth 20000 in
theorem gX6_go_X6_within : GoodIn wsX6_go (va_wsS RX6 64 yX6_within wsX6_within) := goodIn_app (goodIn_of _ (by decide +kernel)) ggX6_go_X6_within
set_option maxRecDepth 20000 in
theorem ggX6_go_X6_moveBoxes : GoodIn wsX6_go wsX6_moveBoxes := goodIn_r _ [13, 14, 15, 16, 17, 18, 19, 20, 21, 22, 23, 24, 25, 26, 27, 8, 28, 29, 1, 30, 31, 32, 33, 34, 35, 36, 37, 38, 39, 40, 41, 42, 43, 44, 45, 46, 47, 48, 49, 50, 51, 52, 53, 54, 55, 56, 57, 58, 59, 60, 61, 62, 63, 64, 126, 127, 128, 129, 130, 131, 132, 133, 134, 135, 136, 137, 138, 139, 140, 141, 142, 143, 144, 145, 146, 147, 148, 149, 150, 151, 152, 153, 154, 155] (by decide +kernel) (by decide +kernel)
set_option maxRecDepth 20000 in
theorem gX6_go_X6_moveBoxes : GoodIn wsX6_go (wsV RX6 130 RX6 yX6_moveBoxes wsX6_moveBoxes) := goodIn_app (goodIn_of _ (by decide +kernel)) ggX6_go_X6_moveBoxes
set_option maxRecDepth 20000 in
theorem ggX6_go_X6_takeTurns : GoodIn wsX6_go wsX6_takeTurns := goodIn_r _ [68, 69, 70, 71, 8, 72, 73, 74, 75, 76, 77, 29, 1, 14, 78, 79, 80, 81, 82, 83, 84, 85, 86, 87, 88, 89, 90, 91, 92, 93, 31, 94, 95, 96, 97, 98, 99, 100, 30, 32, 33, 34, 101, 16, 102, 103, 48, 51, 52, 53, 54, 104, 105, 106, 107, 108, 109, 110, 111, 112, 113, 114, 115, 116, 117, 118, 24, 46, 47, 119, 120, 121, 59, 60, 122, 62, 63, 64, 61, 19, 38, 39, 40, 41, 42, 43, 44, 45, 49, 50, 20, 21, 22, 23, 123, 124, 125, 126, 127, 128, 129, 130, 131, 132, 133, 134, 135, 156, 157, 158, 159, 160, 161, 162, 149, 150, 151, 152, 153, 154, 155, 136, 137, 138, 139, 140, 141, 142, 143, 144, 145, 146, 147, 148] (by decide +kernel) (by decide +kernel)
set_option maxRecDepth 20000 in
theorem gX6_go_X6_takeTurns : GoodIn wsX6_go (wsV RX6 134 RX6 yX6_takeTurns wsX6_takeTurns) := goodIn_app (goodIn_of _ (by decide +kernel)) ggX6_go_X6_takeTurns
theorem dX6_go_0 : decode cX6_go 0 = .ok (.iload_n 1, 1) := by decide +kernel
theorem dX6_go_1 : decode cX6_go 1 = .ok (.iconst 0, 1) := by decide +kernel
theorem dX6_go_2 : decode cX6_go 2 = .ok (.bipush 100, 2) := by decide +kernel
theorem dX6_go_4 : decode cX6_go 4 = .ok (.invokestatic 64, 3) := by decide +kernel
theorem dX6_go_7 : decode cX6_go 7 = .ok (.ifCond .ne 5, 3) := by decide +kernel
theorem dX6_go_10 : decode cX6_go 10 = .ok (.iconst (-1), 1) := by decide +kernel
theorem dX6_go_11 : decode cX6_go 11 = .ok (.ireturn, 1) := by decide +kernel
theorem dX6_go_12 : decode cX6_go 12 = .ok (.iload_n 1, 1) := by decide +kernel
theorem dX6_go_13 : decode cX6_go 13 = .ok (.sipush 5000, 3) := by decide +kernel
theorem dX6_go_16 : decode cX6_go 16 = .ok (.aload_n 0, 1) := by decide +kernel
theorem dX6_go_17 : decode cX6_go 17 = .ok (.getfield 51, 3) := by decide +kernel
theorem dX6_go_20 : decode cX6_go 20 = .ok (.isub, 1) := by decide +kernel
theorem dX6_go_21 : decode cX6_go 21 = .ok (.invokestatic 125, 3) := by decide +kernel
theorem dX6_go_24 : decode cX6_go 24 = .ok (.istore_n 2, 1) := by decide +kernel
theorem dX6_go_25 : decode cX6_go 25 = .ok (.iconst 0, 1) := by decide +kernel
theorem dX6_go_26 : decode cX6_go 26 = .ok (.istore_n 3, 1) := by decide +kernel
theorem dX6_go_27 : decode cX6_go 27 = .ok (.iload_n 3, 1) := by decide +kernel
theorem dX6_go_28 : decode cX6_go 28 = .ok (.iload_n 2, 1) := by decide +kernel
theorem dX6_go_29 : decode cX6_go 29 = .ok (.if_icmp .ge 38, 3) := by decide +kernel
theorem dX6_go_32 : decode cX6_go 32 = .ok (.aload_n 0, 1) := by decide +kernel
theorem dX6_go_33 : decode cX6_go 33 = .ok (.invokevirtual 130, 3) := by decide +kernel
theorem dX6_go_36 : decode cX6_go 36 = .ok (.istore 4, 2) := by decide +kernel
theorem dX6_go_38 : decode cX6_go 38 = .ok (.iload_n 3, 1) := by decide +kernel
theorem dX6_go_39 : decode cX6_go 39 = .ok (.ifCond .eq 8, 3) := by decide +kernel
theorem dX6_go_42 : decode cX6_go 42 = .ok (.iload 4, 2) := by decide +kernel
theorem dX6_go_44 : decode cX6_go 44 = .ok (.ifCond .eq 7, 3) := by decide +kernel
theorem dX6_go_47 : decode cX6_go 47 = .ok (.aload_n 0, 1) := by decide +kernel
theorem dX6_go_48 : decode cX6_go 48 = .ok (.invokevirtual 134, 3) := by decide +kernel
theorem dX6_go_51 : decode cX6_go 51 = .ok (.aload_n 0, 1) := by decide +kernel
theorem dX6_go_52 : decode cX6_go 52 = .ok (.dup, 1) := by decide +kernel
theorem dX6_go_53 : decode cX6_go 53 = .ok (.getfield 51, 3) := by decide +kernel
theorem dX6_go_56 : decode cX6_go 56 = .ok (.iconst 1, 1) := by decide +kernel
theorem dX6_go_57 : decode cX6_go 57 = .ok (.iadd, 1) := by decide +kernel
theorem dX6_go_58 : decode cX6_go 58 = .ok (.putfield 51, 3) := by decide +kernel
theorem dX6_go_61 : decode cX6_go 61 = .ok (.iinc 3 1, 3) := by decide +kernel
theorem dX6_go_64 : decode cX6_go 64 = .ok (.goto (-37), 3) := by decide +kernel
theorem dX6_go_67 : decode cX6_go 67 = .ok (.aload_n 0, 1) := by decide +kernel
theorem dX6_go_68 : decode cX6_go 68 = .ok (.getfield 51, 3) := by decide +kernel
theorem dX6_go_71 : decode cX6_go 71 = .ok (.ireturn, 1) := by decide +kernel
set_option maxRecDepth 20000 in
theorem ggX6_back_X1_isAt : GoodIn wsX6_back wsX1_isAt := goodIn_r _ [6, 7, 8, 9, 10, 4, 11, 12, 110, 111, 112, 113, 114, 115, 116, 117, 118, 119, 120, 121, 122] (by decide +kernel) (by decide +kernel)
set_option maxRecDepth 20000 in
theorem gX6_back_X1_isAt_n97 : GoodIn wsX6_back (wsX1_isAt) := ggX6_back_X1_isAt
set_option maxRecDepth 20000 in
theorem ggX6_back_X3_has : GoodIn wsX6_back wsX3_has := goodIn_r _ [16, 17, 123, 124, 125, 126, 127, 128, 129] (by decide +kernel) (by decide +kernel)
set_option maxRecDepth 20000 in
theorem gX6_back_X3_has_n109 : GoodIn wsX6_back (wsX3_has) := ggX6_back_X3_has
set_option maxRecDepth 20000 in
theorem ggX6_back_X6_lateCost : GoodIn wsX6_back wsX6_lateCost := goodIn_r _ [22, 1, 2, 23, 3, 4, 5, 6, 7, 8, 9, 10, 11, 12, 24, 14, 25, 26, 27, 28, 29, 30, 31, 32, 33, 34, 35, 36, 13, 15, 16, 17, 100, 101, 102, 103, 104, 105, 106, 107, 108, 109, 110, 111, 112, 113, 114, 115, 116, 117, 118, 119, 120, 121, 122, 123, 124, 125, 126, 127, 128, 129] (by decide +kernel) (by decide +kernel)
set_option maxRecDepth 20000 in
theorem gX6_back_X6_lateCost : GoodIn wsX6_back (wsV RX6 140 RX6 yX6_lateCost wsX6_lateCost) := goodIn_app (goodIn_of _ (by decide +kernel)) ggX6_back_X6_lateCost
set_option maxRecDepth 20000 in
theorem ggX6_back_X6_countAsHad : GoodIn wsX6_back wsX6_countAsHad := goodIn_r _ [40, 41, 42, 23, 43, 44, 45, 46, 47, 48, 49, 50, 51, 52, 53, 54, 55, 56, 57, 58, 59, 60, 61, 62, 63, 64, 100, 101, 102, 103, 104, 105, 106, 107, 108, 109, 130, 131, 132, 133, 134, 135, 136, 137, 138] (by decide +kernel) (by decide +kernel)
set_option maxRecDepth 20000 in
theorem gX6_back_X6_countAsHad : GoodIn wsX6_back (wsV RX6 149 RX6 yX6_countAsHad wsX6_countAsHad) := goodIn_app (goodIn_of _ (by decide +kernel)) ggX6_back_X6_countAsHad
set_option maxRecDepth 20000 in
theorem ggX6_back_X1_shelve : GoodIn wsX6_back wsX1_shelve := goodIn_r _ [67, 68, 69, 70, 4, 71, 7, 72, 73, 74, 75, 76, 77, 78, 79, 80, 81, 82, 83, 84, 85, 86, 87, 88, 89, 90, 91, 92, 93, 94, 95, 96, 110, 111, 112, 113, 114, 115, 116, 117, 118, 119, 120, 121, 122] (by decide +kernel) (by decide +kernel)
set_option maxRecDepth 20000 in
theorem gX6_back_X1_shelve_n159 : GoodIn wsX6_back (wsX1_shelve) := ggX6_back_X1_shelve
set_option maxRecDepth 20000 in
theorem ggX6_back_X1_sendBack : GoodIn wsX6_back wsX1_sendBack := goodIn_r _ [99, 94, 95, 96, 68, 69, 70, 4, 71, 7, 72, 73, 74, 75, 76, 77, 78, 79, 80, 81, 82, 83, 84, 85, 86, 87, 88, 110, 111, 112, 113, 114, 115, 116, 117, 118, 119, 120, 121, 122] (by decide +kernel) (by decide +kernel)
set_option maxRecDepth 20000 in
theorem gX6_back_X1_sendBack_n162 : GoodIn wsX6_back (wsX1_sendBack) := ggX6_back_X1_sendBack
theorem dX6_back_0 : decode cX6_back 0 = .ok (.aload_n 0, 1) := by decide +kernel
theorem dX6_back_1 : decode cX6_back 1 = .ok (.getfield 26, 3) := by decide +kernel
theorem dX6_back_4 : decode cX6_back 4 = .ok (.iload_n 1, 1) := by decide +kernel
theorem dX6_back_5 : decode cX6_back 5 = .ok (.iconst 1, 1) := by decide +kernel
theorem dX6_back_6 : decode cX6_back 6 = .ok (.invokevirtual 97, 3) := by decide +kernel
theorem dX6_back_9 : decode cX6_back 9 = .ok (.ifCond .ne 5, 3) := by decide +kernel
theorem dX6_back_12 : decode cX6_back 12 = .ok (.iconst (-1), 1) := by decide +kernel
theorem dX6_back_13 : decode cX6_back 13 = .ok (.ireturn, 1) := by decide +kernel
theorem dX6_back_14 : decode cX6_back 14 = .ok (.aload_n 0, 1) := by decide +kernel
theorem dX6_back_15 : decode cX6_back 15 = .ok (.getfield 26, 3) := by decide +kernel
theorem dX6_back_18 : decode cX6_back 18 = .ok (.getfield 137, 3) := by decide +kernel
theorem dX6_back_21 : decode cX6_back 21 = .ok (.iload_n 1, 1) := by decide +kernel
theorem dX6_back_22 : decode cX6_back 22 = .ok (.iaload, 1) := by decide +kernel
theorem dX6_back_23 : decode cX6_back 23 = .ok (.istore_n 2, 1) := by decide +kernel
theorem dX6_back_24 : decode cX6_back 24 = .ok (.aload_n 0, 1) := by decide +kernel
theorem dX6_back_25 : decode cX6_back 25 = .ok (.getfield 33, 3) := by decide +kernel
theorem dX6_back_28 : decode cX6_back 28 = .ok (.iload_n 2, 1) := by decide +kernel
theorem dX6_back_29 : decode cX6_back 29 = .ok (.invokevirtual 109, 3) := by decide +kernel
theorem dX6_back_32 : decode cX6_back 32 = .ok (.ifCond .ne 5, 3) := by decide +kernel
theorem dX6_back_35 : decode cX6_back 35 = .ok (.iconst (-1), 1) := by decide +kernel
theorem dX6_back_36 : decode cX6_back 36 = .ok (.ireturn, 1) := by decide +kernel
theorem dX6_back_37 : decode cX6_back 37 = .ok (.aload_n 0, 1) := by decide +kernel
theorem dX6_back_38 : decode cX6_back 38 = .ok (.iload_n 1, 1) := by decide +kernel
theorem dX6_back_39 : decode cX6_back 39 = .ok (.iload_n 2, 1) := by decide +kernel
theorem dX6_back_40 : decode cX6_back 40 = .ok (.invokevirtual 140, 3) := by decide +kernel
theorem dX6_back_43 : decode cX6_back 43 = .ok (.istore_n 3, 1) := by decide +kernel
theorem dX6_back_44 : decode cX6_back 44 = .ok (.aload_n 0, 1) := by decide +kernel
theorem dX6_back_45 : decode cX6_back 45 = .ok (.getfield 33, 3) := by decide +kernel
theorem dX6_back_48 : decode cX6_back 48 = .ok (.getfield 143, 3) := by decide +kernel
theorem dX6_back_51 : decode cX6_back 51 = .ok (.iload_n 2, 1) := by decide +kernel
theorem dX6_back_52 : decode cX6_back 52 = .ok (.dup2, 1) := by decide +kernel
theorem dX6_back_53 : decode cX6_back 53 = .ok (.iaload, 1) := by decide +kernel
theorem dX6_back_54 : decode cX6_back 54 = .ok (.iload_n 3, 1) := by decide +kernel
theorem dX6_back_55 : decode cX6_back 55 = .ok (.iadd, 1) := by decide +kernel
theorem dX6_back_56 : decode cX6_back 56 = .ok (.iastore, 1) := by decide +kernel
theorem dX6_back_57 : decode cX6_back 57 = .ok (.aload_n 0, 1) := by decide +kernel
theorem dX6_back_58 : decode cX6_back 58 = .ok (.aload_n 0, 1) := by decide +kernel
theorem dX6_back_59 : decode cX6_back 59 = .ok (.getfield 26, 3) := by decide +kernel
theorem dX6_back_62 : decode cX6_back 62 = .ok (.getfield 146, 3) := by decide +kernel
theorem dX6_back_65 : decode cX6_back 65 = .ok (.iload_n 1, 1) := by decide +kernel
theorem dX6_back_66 : decode cX6_back 66 = .ok (.iaload, 1) := by decide +kernel
theorem dX6_back_67 : decode cX6_back 67 = .ok (.invokevirtual 149, 3) := by decide +kernel
theorem dX6_back_70 : decode cX6_back 70 = .ok (.aload_n 0, 1) := by decide +kernel
theorem dX6_back_71 : decode cX6_back 71 = .ok (.getfield 33, 3) := by decide +kernel
theorem dX6_back_74 : decode cX6_back 74 = .ok (.getfield 153, 3) := by decide +kernel
theorem dX6_back_77 : decode cX6_back 77 = .ok (.iload_n 2, 1) := by decide +kernel
theorem dX6_back_78 : decode cX6_back 78 = .ok (.dup2, 1) := by decide +kernel
theorem dX6_back_79 : decode cX6_back 79 = .ok (.iaload, 1) := by decide +kernel
theorem dX6_back_80 : decode cX6_back 80 = .ok (.iconst 1, 1) := by decide +kernel
theorem dX6_back_81 : decode cX6_back 81 = .ok (.isub, 1) := by decide +kernel
theorem dX6_back_82 : decode cX6_back 82 = .ok (.iastore, 1) := by decide +kernel
theorem dX6_back_83 : decode cX6_back 83 = .ok (.aload_n 0, 1) := by decide +kernel
theorem dX6_back_84 : decode cX6_back 84 = .ok (.getfield 33, 3) := by decide +kernel
theorem dX6_back_87 : decode cX6_back 87 = .ok (.getfield 156, 3) := by decide +kernel
theorem dX6_back_90 : decode cX6_back 90 = .ok (.iload_n 2, 1) := by decide +kernel
theorem dX6_back_91 : decode cX6_back 91 = .ok (.iaload, 1) := by decide +kernel
theorem dX6_back_92 : decode cX6_back 92 = .ok (.ifCond .ne 14, 3) := by decide +kernel
theorem dX6_back_95 : decode cX6_back 95 = .ok (.aload_n 0, 1) := by decide +kernel
theorem dX6_back_96 : decode cX6_back 96 = .ok (.getfield 26, 3) := by decide +kernel
theorem dX6_back_99 : decode cX6_back 99 = .ok (.iload_n 1, 1) := by decide +kernel
theorem dX6_back_100 : decode cX6_back 100 = .ok (.invokevirtual 159, 3) := by decide +kernel
theorem dX6_back_103 : decode cX6_back 103 = .ok (.goto 33, 3) := by decide +kernel
theorem dX6_back_106 : decode cX6_back 106 = .ok (.aload_n 0, 1) := by decide +kernel
theorem dX6_back_107 : decode cX6_back 107 = .ok (.getfield 26, 3) := by decide +kernel
theorem dX6_back_110 : decode cX6_back 110 = .ok (.iload_n 1, 1) := by decide +kernel
theorem dX6_back_111 : decode cX6_back 111 = .ok (.aload_n 0, 1) := by decide +kernel
theorem dX6_back_112 : decode cX6_back 112 = .ok (.getfield 33, 3) := by decide +kernel
theorem dX6_back_115 : decode cX6_back 115 = .ok (.getfield 156, 3) := by decide +kernel
theorem dX6_back_118 : decode cX6_back 118 = .ok (.iload_n 2, 1) := by decide +kernel
theorem dX6_back_119 : decode cX6_back 119 = .ok (.iaload, 1) := by decide +kernel
theorem dX6_back_120 : decode cX6_back 120 = .ok (.invokevirtual 162, 3) := by decide +kernel
theorem dX6_back_123 : decode cX6_back 123 = .ok (.aload_n 0, 1) := by decide +kernel
theorem dX6_back_124 : decode cX6_back 124 = .ok (.getfield 33, 3) := by decide +kernel
theorem dX6_back_127 : decode cX6_back 127 = .ok (.getfield 165, 3) := by decide +kernel
theorem dX6_back_130 : decode cX6_back 130 = .ok (.iload_n 2, 1) := by decide +kernel
theorem dX6_back_131 : decode cX6_back 131 = .ok (.dup2, 1) := by decide +kernel
theorem dX6_back_132 : decode cX6_back 132 = .ok (.iaload, 1) := by decide +kernel
theorem dX6_back_133 : decode cX6_back 133 = .ok (.iconst 1, 1) := by decide +kernel
theorem dX6_back_134 : decode cX6_back 134 = .ok (.iadd, 1) := by decide +kernel
theorem dX6_back_135 : decode cX6_back 135 = .ok (.iastore, 1) := by decide +kernel
theorem dX6_back_136 : decode cX6_back 136 = .ok (.iload_n 3, 1) := by decide +kernel
theorem dX6_back_137 : decode cX6_back 137 = .ok (.ireturn, 1) := by decide +kernel
