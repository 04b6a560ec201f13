theorem dX0_init_0 : decode cX0_init 0 = .ok (.aload_n 0, 1) := by decide +kernel
theorem dX0_init_1 : decode cX0_init 1 = .ok (.invokespecial 3, 3) := by decide +kernel
theorem dX0_init_4 : decode cX0_init 4 = .ok (.aload_n 0, 1) := by decide +kernel
theorem dX0_init_5 : decode cX0_init 5 = .ok (.bipush 40, 2) := by decide +kernel
theorem dX0_init_7 : decode cX0_init 7 = .ok (.newarray .int, 2) := by decide +kernel
theorem dX0_init_9 : decode cX0_init 9 = .ok (.putfield 9, 3) := by decide +kernel
theorem dX0_init_12 : decode cX0_init 12 = .ok (.aload_n 0, 1) := by decide +kernel
theorem dX0_init_13 : decode cX0_init 13 = .ok (.bipush 40, 2) := by decide +kernel
theorem dX0_init_15 : decode cX0_init 15 = .ok (.newarray .int, 2) := by decide +kernel
theorem dX0_init_17 : decode cX0_init 17 = .ok (.putfield 15, 3) := by decide +kernel
theorem dX0_init_20 : decode cX0_init 20 = .ok (.aload_n 0, 1) := by decide +kernel
theorem dX0_init_21 : decode cX0_init 21 = .ok (.bipush 40, 2) := by decide +kernel
theorem dX0_init_23 : decode cX0_init 23 = .ok (.newarray .int, 2) := by decide +kernel
theorem dX0_init_25 : decode cX0_init 25 = .ok (.putfield 18, 3) := by decide +kernel
theorem dX0_init_28 : decode cX0_init 28 = .ok (.aload_n 0, 1) := by decide +kernel
theorem dX0_init_29 : decode cX0_init 29 = .ok (.bipush 40, 2) := by decide +kernel
theorem dX0_init_31 : decode cX0_init 31 = .ok (.newarray .int, 2) := by decide +kernel
theorem dX0_init_33 : decode cX0_init 33 = .ok (.putfield 21, 3) := by decide +kernel
theorem dX0_init_36 : decode cX0_init 36 = .ok (.aload_n 0, 1) := by decide +kernel
theorem dX0_init_37 : decode cX0_init 37 = .ok (.bipush 40, 2) := by decide +kernel
theorem dX0_init_39 : decode cX0_init 39 = .ok (.newarray .int, 2) := by decide +kernel
theorem dX0_init_41 : decode cX0_init 41 = .ok (.putfield 24, 3) := by decide +kernel
theorem dX0_init_44 : decode cX0_init 44 = .ok (.aload_n 0, 1) := by decide +kernel
theorem dX0_init_45 : decode cX0_init 45 = .ok (.iconst 0, 1) := by decide +kernel
theorem dX0_init_46 : decode cX0_init 46 = .ok (.putfield 27, 3) := by decide +kernel
theorem dX0_init_49 : decode cX0_init 49 = .ok (.return_, 1) := by decide +kernel
theorem dX0_add_0 : decode cX0_add 0 = .ok (.aload_n 0, 1) := by decide +kernel
theorem dX0_add_1 : decode cX0_add 1 = .ok (.getfield 9, 3) := by decide +kernel
theorem dX0_add_4 : decode cX0_add 4 = .ok (.aload_n 0, 1) := by decide +kernel
theorem dX0_add_5 : decode cX0_add 5 = .ok (.getfield 27, 3) := by decide +kernel
theorem dX0_add_8 : decode cX0_add 8 = .ok (.iload_n 1, 1) := by decide +kernel
theorem dX0_add_9 : decode cX0_add 9 = .ok (.iastore, 1) := by decide +kernel
theorem dX0_add_10 : decode cX0_add 10 = .ok (.aload_n 0, 1) := by decide +kernel
theorem dX0_add_11 : decode cX0_add 11 = .ok (.getfield 15, 3) := by decide +kernel
theorem dX0_add_14 : decode cX0_add 14 = .ok (.aload_n 0, 1) := by decide +kernel
theorem dX0_add_15 : decode cX0_add 15 = .ok (.getfield 27, 3) := by decide +kernel
theorem dX0_add_18 : decode cX0_add 18 = .ok (.iload_n 2, 1) := by decide +kernel
theorem dX0_add_19 : decode cX0_add 19 = .ok (.iastore, 1) := by decide +kernel
theorem dX0_add_20 : decode cX0_add 20 = .ok (.aload_n 0, 1) := by decide +kernel
theorem dX0_add_21 : decode cX0_add 21 = .ok (.getfield 18, 3) := by decide +kernel
theorem dX0_add_24 : decode cX0_add 24 = .ok (.aload_n 0, 1) := by decide +kernel
theorem dX0_add_25 : decode cX0_add 25 = .ok (.getfield 27, 3) := by decide +kernel
theorem dX0_add_28 : decode cX0_add 28 = .ok (.iload_n 3, 1) := by decide +kernel
theorem dX0_add_29 : decode cX0_add 29 = .ok (.iastore, 1) := by decide +kernel
theorem dX0_add_30 : decode cX0_add 30 = .ok (.aload_n 0, 1) := by decide +kernel
theorem dX0_add_31 : decode cX0_add 31 = .ok (.getfield 21, 3) := by decide +kernel
theorem dX0_add_34 : decode cX0_add 34 = .ok (.aload_n 0, 1) := by decide +kernel
theorem dX0_add_35 : decode cX0_add 35 = .ok (.getfield 27, 3) := by decide +kernel
theorem dX0_add_38 : decode cX0_add 38 = .ok (.iload 4, 2) := by decide +kernel
theorem dX0_add_40 : decode cX0_add 40 = .ok (.iastore, 1) := by decide +kernel
theorem dX0_add_41 : decode cX0_add 41 = .ok (.aload_n 0, 1) := by decide +kernel
theorem dX0_add_42 : decode cX0_add 42 = .ok (.getfield 24, 3) := by decide +kernel
theorem dX0_add_45 : decode cX0_add 45 = .ok (.aload_n 0, 1) := by decide +kernel
theorem dX0_add_46 : decode cX0_add 46 = .ok (.getfield 27, 3) := by decide +kernel
theorem dX0_add_49 : decode cX0_add 49 = .ok (.iload 5, 2) := by decide +kernel
theorem dX0_add_51 : decode cX0_add 51 = .ok (.iastore, 1) := by decide +kernel
theorem dX0_add_52 : decode cX0_add 52 = .ok (.aload_n 0, 1) := by decide +kernel
theorem dX0_add_53 : decode cX0_add 53 = .ok (.dup, 1) := by decide +kernel
theorem dX0_add_54 : decode cX0_add 54 = .ok (.getfield 27, 3) := by decide +kernel
theorem dX0_add_57 : decode cX0_add 57 = .ok (.iconst 1, 1) := by decide +kernel
theorem dX0_add_58 : decode cX0_add 58 = .ok (.iadd, 1) := by decide +kernel
theorem dX0_add_59 : decode cX0_add 59 = .ok (.putfield 27, 3) := by decide +kernel
theorem dX0_add_62 : decode cX0_add 62 = .ok (.return_, 1) := by decide +kernel
theorem dX0_inForce_0 : decode cX0_inForce 0 = .ok (.iconst (-1), 1) := by decide +kernel
theorem dX0_inForce_1 : decode cX0_inForce 1 = .ok (.istore_n 3, 1) := by decide +kernel
theorem dX0_inForce_2 : decode cX0_inForce 2 = .ok (.iconst 0, 1) := by decide +kernel
theorem dX0_inForce_3 : decode cX0_inForce 3 = .ok (.istore 4, 2) := by decide +kernel
theorem dX0_inForce_5 : decode cX0_inForce 5 = .ok (.iload 4, 2) := by decide +kernel
theorem dX0_inForce_7 : decode cX0_inForce 7 = .ok (.aload_n 0, 1) := by decide +kernel
theorem dX0_inForce_8 : decode cX0_inForce 8 = .ok (.getfield 27, 3) := by decide +kernel
theorem dX0_inForce_11 : decode cX0_inForce 11 = .ok (.if_icmp .ge 55, 3) := by decide +kernel
theorem dX0_inForce_14 : decode cX0_inForce 14 = .ok (.aload_n 0, 1) := by decide +kernel
theorem dX0_inForce_15 : decode cX0_inForce 15 = .ok (.getfield 9, 3) := by decide +kernel
theorem dX0_inForce_18 : decode cX0_inForce 18 = .ok (.iload 4, 2) := by decide +kernel
theorem dX0_inForce_20 : decode cX0_inForce 20 = .ok (.iaload, 1) := by decide +kernel
theorem dX0_inForce_21 : decode cX0_inForce 21 = .ok (.iload_n 1, 1) := by decide +kernel
theorem dX0_inForce_22 : decode cX0_inForce 22 = .ok (.if_icmp .ne 38, 3) := by decide +kernel
theorem dX0_inForce_25 : decode cX0_inForce 25 = .ok (.aload_n 0, 1) := by decide +kernel
theorem dX0_inForce_26 : decode cX0_inForce 26 = .ok (.getfield 15, 3) := by decide +kernel
theorem dX0_inForce_29 : decode cX0_inForce 29 = .ok (.iload 4, 2) := by decide +kernel
theorem dX0_inForce_31 : decode cX0_inForce 31 = .ok (.iaload, 1) := by decide +kernel
theorem dX0_inForce_32 : decode cX0_inForce 32 = .ok (.iload_n 2, 1) := by decide +kernel
theorem dX0_inForce_33 : decode cX0_inForce 33 = .ok (.if_icmp .gt 27, 3) := by decide +kernel
theorem dX0_inForce_36 : decode cX0_inForce 36 = .ok (.iload_n 3, 1) := by decide +kernel
theorem dX0_inForce_37 : decode cX0_inForce 37 = .ok (.iconst (-1), 1) := by decide +kernel
theorem dX0_inForce_38 : decode cX0_inForce 38 = .ok (.if_icmp .eq 19, 3) := by decide +kernel
theorem dX0_inForce_41 : decode cX0_inForce 41 = .ok (.aload_n 0, 1) := by decide +kernel
theorem dX0_inForce_42 : decode cX0_inForce 42 = .ok (.getfield 15, 3) := by decide +kernel
theorem dX0_inForce_45 : decode cX0_inForce 45 = .ok (.iload 4, 2) := by decide +kernel
theorem dX0_inForce_47 : decode cX0_inForce 47 = .ok (.iaload, 1) := by decide +kernel
theorem dX0_inForce_48 : decode cX0_inForce 48 = .ok (.aload_n 0, 1) := by decide +kernel
theorem dX0_inForce_49 : decode cX0_inForce 49 = .ok (.getfield 15, 3) := by decide +kernel
theorem dX0_inForce_52 : decode cX0_inForce 52 = .ok (.iload_n 3, 1) := by decide +kernel
theorem dX0_inForce_53 : decode cX0_inForce 53 = .ok (.iaload, 1) := by decide +kernel
theorem dX0_inForce_54 : decode cX0_inForce 54 = .ok (.if_icmp .lt 6, 3) := by decide +kernel
theorem dX0_inForce_57 : decode cX0_inForce 57 = .ok (.iload 4, 2) := by decide +kernel
theorem dX0_inForce_59 : decode cX0_inForce 59 = .ok (.istore_n 3, 1) := by decide +kernel
theorem dX0_inForce_60 : decode cX0_inForce 60 = .ok (.iinc 4 1, 3) := by decide +kernel
theorem dX0_inForce_63 : decode cX0_inForce 63 = .ok (.goto (-58), 3) := by decide +kernel
theorem dX0_inForce_66 : decode cX0_inForce 66 = .ok (.iload_n 3, 1) := by decide +kernel
theorem dX0_inForce_67 : decode cX0_inForce 67 = .ok (.ireturn, 1) := by decide +kernel
theorem dX0_priceAt_0 : decode cX0_priceAt 0 = .ok (.iload_n 1, 1) := by decide +kernel
theorem dX0_priceAt_1 : decode cX0_priceAt 1 = .ok (.ifCond .lt 11, 3) := by decide +kernel
theorem dX0_priceAt_4 : decode cX0_priceAt 4 = .ok (.iload_n 1, 1) := by decide +kernel
theorem dX0_priceAt_5 : decode cX0_priceAt 5 = .ok (.aload_n 0, 1) := by decide +kernel
theorem dX0_priceAt_6 : decode cX0_priceAt 6 = .ok (.getfield 27, 3) := by decide +kernel
theorem dX0_priceAt_9 : decode cX0_priceAt 9 = .ok (.if_icmp .lt 6, 3) := by decide +kernel
theorem dX0_priceAt_12 : decode cX0_priceAt 12 = .ok (.bipush 10, 2) := by decide +kernel
theorem dX0_priceAt_14 : decode cX0_priceAt 14 = .ok (.ireturn, 1) := by decide +kernel
theorem dX0_priceAt_15 : decode cX0_priceAt 15 = .ok (.iload_n 2, 1) := by decide +kernel
theorem dX0_priceAt_16 : decode cX0_priceAt 16 = .ok (.aload_n 0, 1) := by decide +kernel
theorem dX0_priceAt_17 : decode cX0_priceAt 17 = .ok (.getfield 18, 3) := by decide +kernel
theorem dX0_priceAt_20 : decode cX0_priceAt 20 = .ok (.iload_n 1, 1) := by decide +kernel
theorem dX0_priceAt_21 : decode cX0_priceAt 21 = .ok (.iaload, 1) := by decide +kernel
theorem dX0_priceAt_22 : decode cX0_priceAt 22 = .ok (.if_icmp .ge 12, 3) := by decide +kernel
theorem dX0_priceAt_25 : decode cX0_priceAt 25 = .ok (.aload_n 0, 1) := by decide +kernel
theorem dX0_priceAt_26 : decode cX0_priceAt 26 = .ok (.getfield 21, 3) := by decide +kernel
theorem dX0_priceAt_29 : decode cX0_priceAt 29 = .ok (.iload_n 1, 1) := by decide +kernel
theorem dX0_priceAt_30 : decode cX0_priceAt 30 = .ok (.iaload, 1) := by decide +kernel
theorem dX0_priceAt_31 : decode cX0_priceAt 31 = .ok (.goto 9, 3) := by decide +kernel
theorem dX0_priceAt_34 : decode cX0_priceAt 34 = .ok (.aload_n 0, 1) := by decide +kernel
theorem dX0_priceAt_35 : decode cX0_priceAt 35 = .ok (.getfield 24, 3) := by decide +kernel
theorem dX0_priceAt_38 : decode cX0_priceAt 38 = .ok (.iload_n 1, 1) := by decide +kernel
theorem dX0_priceAt_39 : decode cX0_priceAt 39 = .ok (.iaload, 1) := by decide +kernel
theorem dX0_priceAt_40 : decode cX0_priceAt 40 = .ok (.ireturn, 1) := by decide +kernel
theorem dX1_init_0 : decode cX1_init 0 = .ok (.aload_n 0, 1) := by decide +kernel
theorem dX1_init_1 : decode cX1_init 1 = .ok (.invokespecial 3, 3) := by decide +kernel
theorem dX1_init_4 : decode cX1_init 4 = .ok (.aload_n 0, 1) := by decide +kernel
theorem dX1_init_5 : decode cX1_init 5 = .ok (.sipush 200, 3) := by decide +kernel
theorem dX1_init_8 : decode cX1_init 8 = .ok (.newarray .int, 2) := by decide +kernel
theorem dX1_init_10 : decode cX1_init 10 = .ok (.putfield 9, 3) := by decide +kernel
theorem dX1_init_13 : decode cX1_init 13 = .ok (.aload_n 0, 1) := by decide +kernel
theorem dX1_init_14 : decode cX1_init 14 = .ok (.sipush 200, 3) := by decide +kernel
theorem dX1_init_17 : decode cX1_init 17 = .ok (.newarray .int, 2) := by decide +kernel
theorem dX1_init_19 : decode cX1_init 19 = .ok (.putfield 15, 3) := by decide +kernel
theorem dX1_init_22 : decode cX1_init 22 = .ok (.aload_n 0, 1) := by decide +kernel
theorem dX1_init_23 : decode cX1_init 23 = .ok (.sipush 200, 3) := by decide +kernel
theorem dX1_init_26 : decode cX1_init 26 = .ok (.newarray .int, 2) := by decide +kernel
theorem dX1_init_28 : decode cX1_init 28 = .ok (.putfield 18, 3) := by decide +kernel
theorem dX1_init_31 : decode cX1_init 31 = .ok (.aload_n 0, 1) := by decide +kernel
theorem dX1_init_32 : decode cX1_init 32 = .ok (.sipush 200, 3) := by decide +kernel
theorem dX1_init_35 : decode cX1_init 35 = .ok (.newarray .int, 2) := by decide +kernel
theorem dX1_init_37 : decode cX1_init 37 = .ok (.putfield 21, 3) := by decide +kernel
theorem dX1_init_40 : decode cX1_init 40 = .ok (.aload_n 0, 1) := by decide +kernel
theorem dX1_init_41 : decode cX1_init 41 = .ok (.sipush 200, 3) := by decide +kernel
theorem dX1_init_44 : decode cX1_init 44 = .ok (.newarray .int, 2) := by decide +kernel
theorem dX1_init_46 : decode cX1_init 46 = .ok (.putfield 24, 3) := by decide +kernel
theorem dX1_init_49 : decode cX1_init 49 = .ok (.aload_n 0, 1) := by decide +kernel
theorem dX1_init_50 : decode cX1_init 50 = .ok (.sipush 200, 3) := by decide +kernel
theorem dX1_init_53 : decode cX1_init 53 = .ok (.newarray .int, 2) := by decide +kernel
theorem dX1_init_55 : decode cX1_init 55 = .ok (.putfield 27, 3) := by decide +kernel
theorem dX1_init_58 : decode cX1_init 58 = .ok (.aload_n 0, 1) := by decide +kernel
theorem dX1_init_59 : decode cX1_init 59 = .ok (.sipush 200, 3) := by decide +kernel
theorem dX1_init_62 : decode cX1_init 62 = .ok (.newarray .int, 2) := by decide +kernel
theorem dX1_init_64 : decode cX1_init 64 = .ok (.putfield 30, 3) := by decide +kernel
theorem dX1_init_67 : decode cX1_init 67 = .ok (.aload_n 0, 1) := by decide +kernel
theorem dX1_init_68 : decode cX1_init 68 = .ok (.sipush 200, 3) := by decide +kernel
theorem dX1_init_71 : decode cX1_init 71 = .ok (.newarray .int, 2) := by decide +kernel
theorem dX1_init_73 : decode cX1_init 73 = .ok (.putfield 33, 3) := by decide +kernel
theorem dX1_init_76 : decode cX1_init 76 = .ok (.aload_n 0, 1) := by decide +kernel
theorem dX1_init_77 : decode cX1_init 77 = .ok (.sipush 200, 3) := by decide +kernel
theorem dX1_init_80 : decode cX1_init 80 = .ok (.newarray .int, 2) := by decide +kernel
theorem dX1_init_82 : decode cX1_init 82 = .ok (.putfield 36, 3) := by decide +kernel
theorem dX1_init_85 : decode cX1_init 85 = .ok (.aload_n 0, 1) := by decide +kernel
theorem dX1_init_86 : decode cX1_init 86 = .ok (.bipush 48, 2) := by decide +kernel
theorem dX1_init_88 : decode cX1_init 88 = .ok (.newarray .int, 2) := by decide +kernel
theorem dX1_init_90 : decode cX1_init 90 = .ok (.putfield 39, 3) := by decide +kernel
theorem dX1_init_93 : decode cX1_init 93 = .ok (.aload_n 0, 1) := by decide +kernel
theorem dX1_init_94 : decode cX1_init 94 = .ok (.iconst 0, 1) := by decide +kernel
theorem dX1_init_95 : decode cX1_init 95 = .ok (.putfield 42, 3) := by decide +kernel
theorem dX1_init_98 : decode cX1_init 98 = .ok (.aload_n 0, 1) := by decide +kernel
theorem dX1_init_99 : decode cX1_init 99 = .ok (.iconst 0, 1) := by decide +kernel
theorem dX1_init_100 : decode cX1_init 100 = .ok (.putfield 46, 3) := by decide +kernel
theorem dX1_init_103 : decode cX1_init 103 = .ok (.aload_n 0, 1) := by decide +kernel
theorem dX1_init_104 : decode cX1_init 104 = .ok (.iconst 0, 1) := by decide +kernel
theorem dX1_init_105 : decode cX1_init 105 = .ok (.putfield 49, 3) := by decide +kernel
theorem dX1_init_108 : decode cX1_init 108 = .ok (.return_, 1) := by decide +kernel
theorem dX1_has_0 : decode cX1_has 0 = .ok (.iload_n 1, 1) := by decide +kernel
theorem dX1_has_1 : decode cX1_has 1 = .ok (.ifCond .lt 15, 3) := by decide +kernel
theorem dX1_has_4 : decode cX1_has 4 = .ok (.iload_n 1, 1) := by decide +kernel
theorem dX1_has_5 : decode cX1_has 5 = .ok (.aload_n 0, 1) := by decide +kernel
theorem dX1_has_6 : decode cX1_has 6 = .ok (.getfield 42, 3) := by decide +kernel
theorem dX1_has_9 : decode cX1_has 9 = .ok (.if_icmp .ge 7, 3) := by decide +kernel
theorem dX1_has_12 : decode cX1_has 12 = .ok (.iconst 1, 1) := by decide +kernel
theorem dX1_has_13 : decode cX1_has 13 = .ok (.goto 4, 3) := by decide +kernel
theorem dX1_has_16 : decode cX1_has 16 = .ok (.iconst 0, 1) := by decide +kernel
theorem dX1_has_17 : decode cX1_has 17 = .ok (.ireturn, 1) := by decide +kernel
set_option maxRecDepth 20000 in
theorem ggX1_isAt_X1_has : GoodIn wsX1_isAt wsX1_has := goodIn_r _ [6, 7, 8, 9, 10, 11, 12, 13, 14, 15, 16, 17, 18, 19, 20] (by decide +kernel) (by decide +kernel)
set_option maxRecDepth 20000 in
theorem gX1_isAt_X1_has : GoodIn wsX1_isAt (wsV RX1 52 RX1 yX1_has wsX1_has) := goodIn_app (goodIn_of _ (by decide +kernel)) ggX1_isAt_X1_has
theorem dX1_isAt_0 : decode cX1_isAt 0 = .ok (.aload_n 0, 1) := by decide +kernel
theorem dX1_isAt_1 : decode cX1_isAt 1 = .ok (.iload_n 1, 1) := by decide +kernel
theorem dX1_isAt_2 : decode cX1_isAt 2 = .ok (.invokevirtual 52, 3) := by decide +kernel
theorem dX1_isAt_5 : decode cX1_isAt 5 = .ok (.ifCond .eq 17, 3) := by decide +kernel
theorem dX1_isAt_8 : decode cX1_isAt 8 = .ok (.aload_n 0, 1) := by decide +kernel
theorem dX1_isAt_9 : decode cX1_isAt 9 = .ok (.getfield 9, 3) := by decide +kernel
theorem dX1_isAt_12 : decode cX1_isAt 12 = .ok (.iload_n 1, 1) := by decide +kernel
theorem dX1_isAt_13 : decode cX1_isAt 13 = .ok (.iaload, 1) := by decide +kernel
theorem dX1_isAt_14 : decode cX1_isAt 14 = .ok (.iload_n 2, 1) := by decide +kernel
theorem dX1_isAt_15 : decode cX1_isAt 15 = .ok (.if_icmp .ne 7, 3) := by decide +kernel
theorem dX1_isAt_18 : decode cX1_isAt 18 = .ok (.iconst 1, 1) := by decide +kernel
theorem dX1_isAt_19 : decode cX1_isAt 19 = .ok (.goto 4, 3) := by decide +kernel
theorem dX1_isAt_22 : decode cX1_isAt 22 = .ok (.iconst 0, 1) := by decide +kernel
theorem dX1_isAt_23 : decode cX1_isAt 23 = .ok (.ireturn, 1) := by decide +kernel
set_option maxRecDepth 20000 in
theorem ggX1_add_X1_shelve : GoodIn wsX1_add wsX1_shelve := goodIn_r _ [11, 12, 13, 14, 10, 15, 5, 16, 17, 18, 19, 2, 3, 20, 21, 22, 23, 24, 25, 26, 27, 28, 29, 30, 31, 32, 33, 34, 35, 36, 37, 38, 39, 40, 41, 42, 43, 44, 45, 46, 47, 48, 49, 50, 51] (by decide +kernel) (by decide +kernel)
set_option maxRecDepth 20000 in
theorem gX1_add_X1_shelve : GoodIn wsX1_add (wsV RX1 56 RX1 yX1_shelve wsX1_shelve) := goodIn_app (goodIn_of _ (by decide +kernel)) ggX1_add_X1_shelve
theorem dX1_add_0 : decode cX1_add 0 = .ok (.aload_n 0, 1) := by decide +kernel
theorem dX1_add_1 : decode cX1_add 1 = .ok (.getfield 42, 3) := by decide +kernel
theorem dX1_add_4 : decode cX1_add 4 = .ok (.istore 4, 2) := by decide +kernel
theorem dX1_add_6 : decode cX1_add 6 = .ok (.aload_n 0, 1) := by decide +kernel
theorem dX1_add_7 : decode cX1_add 7 = .ok (.dup, 1) := by decide +kernel
theorem dX1_add_8 : decode cX1_add 8 = .ok (.getfield 42, 3) := by decide +kernel
theorem dX1_add_11 : decode cX1_add 11 = .ok (.iconst 1, 1) := by decide +kernel
theorem dX1_add_12 : decode cX1_add 12 = .ok (.iadd, 1) := by decide +kernel
theorem dX1_add_13 : decode cX1_add 13 = .ok (.putfield 42, 3) := by decide +kernel
theorem dX1_add_16 : decode cX1_add 16 = .ok (.aload_n 0, 1) := by decide +kernel
theorem dX1_add_17 : decode cX1_add 17 = .ok (.getfield 15, 3) := by decide +kernel
theorem dX1_add_20 : decode cX1_add 20 = .ok (.iload 4, 2) := by decide +kernel
theorem dX1_add_22 : decode cX1_add 22 = .ok (.iload_n 1, 1) := by decide +kernel
theorem dX1_add_23 : decode cX1_add 23 = .ok (.iastore, 1) := by decide +kernel
theorem dX1_add_24 : decode cX1_add 24 = .ok (.aload_n 0, 1) := by decide +kernel
theorem dX1_add_25 : decode cX1_add 25 = .ok (.getfield 18, 3) := by decide +kernel
theorem dX1_add_28 : decode cX1_add 28 = .ok (.iload 4, 2) := by decide +kernel
theorem dX1_add_30 : decode cX1_add 30 = .ok (.iload_n 2, 1) := by decide +kernel
theorem dX1_add_31 : decode cX1_add 31 = .ok (.iastore, 1) := by decide +kernel
theorem dX1_add_32 : decode cX1_add 32 = .ok (.aload_n 0, 1) := by decide +kernel
theorem dX1_add_33 : decode cX1_add 33 = .ok (.getfield 21, 3) := by decide +kernel
theorem dX1_add_36 : decode cX1_add 36 = .ok (.iload 4, 2) := by decide +kernel
theorem dX1_add_38 : decode cX1_add 38 = .ok (.iload_n 3, 1) := by decide +kernel
theorem dX1_add_39 : decode cX1_add 39 = .ok (.iastore, 1) := by decide +kernel
theorem dX1_add_40 : decode cX1_add 40 = .ok (.aload_n 0, 1) := by decide +kernel
theorem dX1_add_41 : decode cX1_add 41 = .ok (.getfield 9, 3) := by decide +kernel
theorem dX1_add_44 : decode cX1_add 44 = .ok (.iload 4, 2) := by decide +kernel
theorem dX1_add_46 : decode cX1_add 46 = .ok (.iconst (-1), 1) := by decide +kernel
theorem dX1_add_47 : decode cX1_add 47 = .ok (.iastore, 1) := by decide +kernel
theorem dX1_add_48 : decode cX1_add 48 = .ok (.aload_n 0, 1) := by decide +kernel
theorem dX1_add_49 : decode cX1_add 49 = .ok (.getfield 36, 3) := by decide +kernel
theorem dX1_add_52 : decode cX1_add 52 = .ok (.iload 4, 2) := by decide +kernel
theorem dX1_add_54 : decode cX1_add 54 = .ok (.iconst 0, 1) := by decide +kernel
theorem dX1_add_55 : decode cX1_add 55 = .ok (.iastore, 1) := by decide +kernel
theorem dX1_add_56 : decode cX1_add 56 = .ok (.aload_n 0, 1) := by decide +kernel
theorem dX1_add_57 : decode cX1_add 57 = .ok (.iload 4, 2) := by decide +kernel
theorem dX1_add_59 : decode cX1_add 59 = .ok (.invokevirtual 56, 3) := by decide +kernel
theorem dX1_add_62 : decode cX1_add 62 = .ok (.return_, 1) := by decide +kernel
theorem dX1_slot_0 : decode cX1_slot 0 = .ok (.iload_n 1, 1) := by decide +kernel
theorem dX1_slot_1 : decode cX1_slot 1 = .ok (.iconst 4, 1) := by decide +kernel
theorem dX1_slot_2 : decode cX1_slot 2 = .ok (.imul, 1) := by decide +kernel
theorem dX1_slot_3 : decode cX1_slot 3 = .ok (.iload_n 2, 1) := by decide +kernel
theorem dX1_slot_4 : decode cX1_slot 4 = .ok (.iadd, 1) := by decide +kernel
theorem dX1_slot_5 : decode cX1_slot 5 = .ok (.ireturn, 1) := by decide +kernel
set_option maxRecDepth 20000 in
theorem ggX1_onShelf_X1_slot : GoodIn wsX1_onShelf wsX1_slot := goodIn_r _ [6] (by decide +kernel) (by decide +kernel)
set_option maxRecDepth 20000 in
theorem gX1_onShelf_X1_slot : GoodIn wsX1_onShelf (wsV RX1 60 RX1 yX1_slot wsX1_slot) := goodIn_app (goodIn_of _ (by decide +kernel)) ggX1_onShelf_X1_slot
theorem dX1_onShelf_0 : decode cX1_onShelf 0 = .ok (.aload_n 0, 1) := by decide +kernel
theorem dX1_onShelf_1 : decode cX1_onShelf 1 = .ok (.iload_n 1, 1) := by decide +kernel
theorem dX1_onShelf_2 : decode cX1_onShelf 2 = .ok (.iload_n 2, 1) := by decide +kernel
theorem dX1_onShelf_3 : decode cX1_onShelf 3 = .ok (.invokevirtual 60, 3) := by decide +kernel
theorem dX1_onShelf_6 : decode cX1_onShelf 6 = .ok (.istore_n 3, 1) := by decide +kernel
theorem dX1_onShelf_7 : decode cX1_onShelf 7 = .ok (.iload_n 3, 1) := by decide +kernel
theorem dX1_onShelf_8 : decode cX1_onShelf 8 = .ok (.ifCond .lt 21, 3) := by decide +kernel
theorem dX1_onShelf_11 : decode cX1_onShelf 11 = .ok (.iload_n 3, 1) := by decide +kernel
theorem dX1_onShelf_12 : decode cX1_onShelf 12 = .ok (.aload_n 0, 1) := by decide +kernel
theorem dX1_onShelf_13 : decode cX1_onShelf 13 = .ok (.getfield 39, 3) := by decide +kernel
theorem dX1_onShelf_16 : decode cX1_onShelf 16 = .ok (.arraylength, 1) := by decide +kernel
theorem dX1_onShelf_17 : decode cX1_onShelf 17 = .ok (.if_icmp .ge 12, 3) := by decide +kernel
theorem dX1_onShelf_20 : decode cX1_onShelf 20 = .ok (.aload_n 0, 1) := by decide +kernel
theorem dX1_onShelf_21 : decode cX1_onShelf 21 = .ok (.getfield 39, 3) := by decide +kernel
theorem dX1_onShelf_24 : decode cX1_onShelf 24 = .ok (.iload_n 3, 1) := by decide +kernel
theorem dX1_onShelf_25 : decode cX1_onShelf 25 = .ok (.iaload, 1) := by decide +kernel
theorem dX1_onShelf_26 : decode cX1_onShelf 26 = .ok (.goto 4, 3) := by decide +kernel
theorem dX1_onShelf_29 : decode cX1_onShelf 29 = .ok (.iconst 0, 1) := by decide +kernel
theorem dX1_onShelf_30 : decode cX1_onShelf 30 = .ok (.ireturn, 1) := by decide +kernel
theorem dX1_leastOnShelf_0 : decode cX1_leastOnShelf 0 = .ok (.iconst 0, 1) := by decide +kernel
theorem dX1_leastOnShelf_1 : decode cX1_leastOnShelf 1 = .ok (.istore_n 3, 1) := by decide +kernel
theorem dX1_leastOnShelf_2 : decode cX1_leastOnShelf 2 = .ok (.iload_n 3, 1) := by decide +kernel
theorem dX1_leastOnShelf_3 : decode cX1_leastOnShelf 3 = .ok (.aload_n 0, 1) := by decide +kernel
theorem dX1_leastOnShelf_4 : decode cX1_leastOnShelf 4 = .ok (.getfield 42, 3) := by decide +kernel
theorem dX1_leastOnShelf_7 : decode cX1_leastOnShelf 7 = .ok (.if_icmp .ge 40, 3) := by decide +kernel
theorem dX1_leastOnShelf_10 : decode cX1_leastOnShelf 10 = .ok (.aload_n 0, 1) := by decide +kernel
theorem dX1_leastOnShelf_11 : decode cX1_leastOnShelf 11 = .ok (.getfield 9, 3) := by decide +kernel
theorem dX1_leastOnShelf_14 : decode cX1_leastOnShelf 14 = .ok (.iload_n 3, 1) := by decide +kernel
theorem dX1_leastOnShelf_15 : decode cX1_leastOnShelf 15 = .ok (.iaload, 1) := by decide +kernel
theorem dX1_leastOnShelf_16 : decode cX1_leastOnShelf 16 = .ok (.ifCond .ne 25, 3) := by decide +kernel
theorem dX1_leastOnShelf_19 : decode cX1_leastOnShelf 19 = .ok (.aload_n 0, 1) := by decide +kernel
theorem dX1_leastOnShelf_20 : decode cX1_leastOnShelf 20 = .ok (.getfield 15, 3) := by decide +kernel
theorem dX1_leastOnShelf_23 : decode cX1_leastOnShelf 23 = .ok (.iload_n 3, 1) := by decide +kernel
theorem dX1_leastOnShelf_24 : decode cX1_leastOnShelf 24 = .ok (.iaload, 1) := by decide +kernel
theorem dX1_leastOnShelf_25 : decode cX1_leastOnShelf 25 = .ok (.iload_n 1, 1) := by decide +kernel
theorem dX1_leastOnShelf_26 : decode cX1_leastOnShelf 26 = .ok (.if_icmp .ne 15, 3) := by decide +kernel
theorem dX1_leastOnShelf_29 : decode cX1_leastOnShelf 29 = .ok (.aload_n 0, 1) := by decide +kernel
theorem dX1_leastOnShelf_30 : decode cX1_leastOnShelf 30 = .ok (.getfield 18, 3) := by decide +kernel
theorem dX1_leastOnShelf_33 : decode cX1_leastOnShelf 33 = .ok (.iload_n 3, 1) := by decide +kernel
theorem dX1_leastOnShelf_34 : decode cX1_leastOnShelf 34 = .ok (.iaload, 1) := by decide +kernel
theorem dX1_leastOnShelf_35 : decode cX1_leastOnShelf 35 = .ok (.iload_n 2, 1) := by decide +kernel
theorem dX1_leastOnShelf_36 : decode cX1_leastOnShelf 36 = .ok (.if_icmp .ne 5, 3) := by decide +kernel
theorem dX1_leastOnShelf_39 : decode cX1_leastOnShelf 39 = .ok (.iload_n 3, 1) := by decide +kernel
theorem dX1_leastOnShelf_40 : decode cX1_leastOnShelf 40 = .ok (.ireturn, 1) := by decide +kernel
theorem dX1_leastOnShelf_41 : decode cX1_leastOnShelf 41 = .ok (.iinc 3 1, 3) := by decide +kernel
theorem dX1_leastOnShelf_44 : decode cX1_leastOnShelf 44 = .ok (.goto (-42), 3) := by decide +kernel
theorem dX1_leastOnShelf_47 : decode cX1_leastOnShelf 47 = .ok (.iconst (-1), 1) := by decide +kernel
theorem dX1_leastOnShelf_48 : decode cX1_leastOnShelf 48 = .ok (.ireturn, 1) := by decide +kernel
theorem dX1_inHouse_0 : decode cX1_inHouse 0 = .ok (.iconst 0, 1) := by decide +kernel
theorem dX1_inHouse_1 : decode cX1_inHouse 1 = .ok (.istore_n 3, 1) := by decide +kernel
theorem dX1_inHouse_2 : decode cX1_inHouse 2 = .ok (.iconst 0, 1) := by decide +kernel
theorem dX1_inHouse_3 : decode cX1_inHouse 3 = .ok (.istore 4, 2) := by decide +kernel
theorem dX1_inHouse_5 : decode cX1_inHouse 5 = .ok (.iload 4, 2) := by decide +kernel
theorem dX1_inHouse_7 : decode cX1_inHouse 7 = .ok (.aload_n 0, 1) := by decide +kernel
theorem dX1_inHouse_8 : decode cX1_inHouse 8 = .ok (.getfield 42, 3) := by decide +kernel
theorem dX1_inHouse_11 : decode cX1_inHouse 11 = .ok (.if_icmp .ge 56, 3) := by decide +kernel
theorem dX1_inHouse_14 : decode cX1_inHouse 14 = .ok (.aload_n 0, 1) := by decide +kernel
theorem dX1_inHouse_15 : decode cX1_inHouse 15 = .ok (.getfield 15, 3) := by decide +kernel
theorem dX1_inHouse_18 : decode cX1_inHouse 18 = .ok (.iload 4, 2) := by decide +kernel
theorem dX1_inHouse_20 : decode cX1_inHouse 20 = .ok (.iaload, 1) := by decide +kernel
theorem dX1_inHouse_21 : decode cX1_inHouse 21 = .ok (.iload_n 1, 1) := by decide +kernel
theorem dX1_inHouse_22 : decode cX1_inHouse 22 = .ok (.if_icmp .ne 39, 3) := by decide +kernel
theorem dX1_inHouse_25 : decode cX1_inHouse 25 = .ok (.aload_n 0, 1) := by decide +kernel
theorem dX1_inHouse_26 : decode cX1_inHouse 26 = .ok (.getfield 18, 3) := by decide +kernel
theorem dX1_inHouse_29 : decode cX1_inHouse 29 = .ok (.iload 4, 2) := by decide +kernel
theorem dX1_inHouse_31 : decode cX1_inHouse 31 = .ok (.iaload, 1) := by decide +kernel
theorem dX1_inHouse_32 : decode cX1_inHouse 32 = .ok (.iload_n 2, 1) := by decide +kernel
theorem dX1_inHouse_33 : decode cX1_inHouse 33 = .ok (.if_icmp .ne 28, 3) := by decide +kernel
theorem dX1_inHouse_36 : decode cX1_inHouse 36 = .ok (.aload_n 0, 1) := by decide +kernel
theorem dX1_inHouse_37 : decode cX1_inHouse 37 = .ok (.getfield 9, 3) := by decide +kernel
theorem dX1_inHouse_40 : decode cX1_inHouse 40 = .ok (.iload 4, 2) := by decide +kernel
theorem dX1_inHouse_42 : decode cX1_inHouse 42 = .ok (.iaload, 1) := by decide +kernel
theorem dX1_inHouse_43 : decode cX1_inHouse 43 = .ok (.iconst 4, 1) := by decide +kernel
theorem dX1_inHouse_44 : decode cX1_inHouse 44 = .ok (.if_icmp .eq 17, 3) := by decide +kernel
theorem dX1_inHouse_47 : decode cX1_inHouse 47 = .ok (.aload_n 0, 1) := by decide +kernel
theorem dX1_inHouse_48 : decode cX1_inHouse 48 = .ok (.getfield 9, 3) := by decide +kernel
theorem dX1_inHouse_51 : decode cX1_inHouse 51 = .ok (.iload 4, 2) := by decide +kernel
theorem dX1_inHouse_53 : decode cX1_inHouse 53 = .ok (.iaload, 1) := by decide +kernel
theorem dX1_inHouse_54 : decode cX1_inHouse 54 = .ok (.iconst 5, 1) := by decide +kernel
theorem dX1_inHouse_55 : decode cX1_inHouse 55 = .ok (.if_icmp .eq 6, 3) := by decide +kernel
theorem dX1_inHouse_58 : decode cX1_inHouse 58 = .ok (.iinc 3 1, 3) := by decide +kernel
theorem dX1_inHouse_61 : decode cX1_inHouse 61 = .ok (.iinc 4 1, 3) := by decide +kernel
theorem dX1_inHouse_64 : decode cX1_inHouse 64 = .ok (.goto (-59), 3) := by decide +kernel
theorem dX1_inHouse_67 : decode cX1_inHouse 67 = .ok (.iload_n 3, 1) := by decide +kernel
theorem dX1_inHouse_68 : decode cX1_inHouse 68 = .ok (.ireturn, 1) := by decide +kernel
set_option maxRecDepth 20000 in
theorem ggX1_shelve_X1_moveTo : GoodIn wsX1_shelve wsX1_moveTo := goodIn_r _ [5, 6, 7, 8, 9, 4, 10, 11, 12, 13, 14, 15, 16, 17, 18, 19, 20, 21, 22, 23, 32, 33, 34, 35, 36, 37, 38, 39, 40, 41, 42, 43, 44] (by decide +kernel) (by decide +kernel)
set_option maxRecDepth 20000 in
theorem gX1_shelve_X1_moveTo : GoodIn wsX1_shelve (wsV RX1 64 RX1 yX1_moveTo wsX1_moveTo) := goodIn_app (goodIn_of _ (by decide +kernel)) ggX1_shelve_X1_moveTo
set_option maxRecDepth 20000 in
theorem ggX1_shelve_X1_belongToNobody : GoodIn wsX1_shelve wsX1_belongToNobody := goodIn_r _ [27, 28, 29, 30, 31, 32, 33, 34, 35, 36, 37, 38, 39, 40, 41, 42, 43, 44] (by decide +kernel) (by decide +kernel)
set_option maxRecDepth 20000 in
theorem gX1_shelve_X1_belongToNobody : GoodIn wsX1_shelve (wsV RX1 68 RX1 yX1_belongToNobody wsX1_belongToNobody) := goodIn_app (goodIn_of _ (by decide +kernel)) ggX1_shelve_X1_belongToNobody
theorem dX1_shelve_0 : decode cX1_shelve 0 = .ok (.aload_n 0, 1) := by decide +kernel
theorem dX1_shelve_1 : decode cX1_shelve 1 = .ok (.iload_n 1, 1) := by decide +kernel
theorem dX1_shelve_2 : decode cX1_shelve 2 = .ok (.iconst 0, 1) := by decide +kernel
theorem dX1_shelve_3 : decode cX1_shelve 3 = .ok (.invokevirtual 64, 3) := by decide +kernel
theorem dX1_shelve_6 : decode cX1_shelve 6 = .ok (.aload_n 0, 1) := by decide +kernel
theorem dX1_shelve_7 : decode cX1_shelve 7 = .ok (.iload_n 1, 1) := by decide +kernel
theorem dX1_shelve_8 : decode cX1_shelve 8 = .ok (.invokevirtual 68, 3) := by decide +kernel
theorem dX1_shelve_11 : decode cX1_shelve 11 = .ok (.return_, 1) := by decide +kernel
set_option maxRecDepth 20000 in
theorem ggX1_leaveFor_X1_moveTo : GoodIn wsX1_leaveFor wsX1_moveTo := goodIn_r _ [5, 6, 7, 8, 9, 4, 10, 11, 12, 13, 14, 15, 16, 17, 18, 19, 20, 21, 22, 23, 32, 33, 34, 35, 36, 37, 38, 39, 40, 41, 42, 43, 44] (by decide +kernel) (by decide +kernel)
set_option maxRecDepth 20000 in
theorem gX1_leaveFor_X1_moveTo : GoodIn wsX1_leaveFor (wsV RX1 64 RX1 yX1_moveTo wsX1_moveTo) := goodIn_app (goodIn_of _ (by decide +kernel)) ggX1_leaveFor_X1_moveTo
set_option maxRecDepth 20000 in
theorem ggX1_leaveFor_X1_belongToNobody : GoodIn wsX1_leaveFor wsX1_belongToNobody := goodIn_r _ [27, 28, 29, 30, 31, 32, 33, 34, 35, 36, 37, 38, 39, 40, 41, 42, 43, 44] (by decide +kernel) (by decide +kernel)
set_option maxRecDepth 20000 in
theorem gX1_leaveFor_X1_belongToNobody : GoodIn wsX1_leaveFor (wsV RX1 68 RX1 yX1_belongToNobody wsX1_belongToNobody) := goodIn_app (goodIn_of _ (by decide +kernel)) ggX1_leaveFor_X1_belongToNobody
theorem dX1_leaveFor_0 : decode cX1_leaveFor 0 = .ok (.aload_n 0, 1) := by decide +kernel
theorem dX1_leaveFor_1 : decode cX1_leaveFor 1 = .ok (.iload_n 1, 1) := by decide +kernel
theorem dX1_leaveFor_2 : decode cX1_leaveFor 2 = .ok (.iload_n 2, 1) := by decide +kernel
theorem dX1_leaveFor_3 : decode cX1_leaveFor 3 = .ok (.invokevirtual 64, 3) := by decide +kernel
theorem dX1_leaveFor_6 : decode cX1_leaveFor 6 = .ok (.aload_n 0, 1) := by decide +kernel
theorem dX1_leaveFor_7 : decode cX1_leaveFor 7 = .ok (.iload_n 1, 1) := by decide +kernel
theorem dX1_leaveFor_8 : decode cX1_leaveFor 8 = .ok (.invokevirtual 68, 3) := by decide +kernel
theorem dX1_leaveFor_11 : decode cX1_leaveFor 11 = .ok (.return_, 1) := by decide +kernel
theorem dX1_lend_0 : decode cX1_lend 0 = .ok (.aload_n 0, 1) := by decide +kernel
theorem dX1_lend_1 : decode cX1_lend 1 = .ok (.getfield 24, 3) := by decide +kernel
theorem dX1_lend_4 : decode cX1_lend 4 = .ok (.iload_n 1, 1) := by decide +kernel
theorem dX1_lend_5 : decode cX1_lend 5 = .ok (.iload_n 2, 1) := by decide +kernel
theorem dX1_lend_6 : decode cX1_lend 6 = .ok (.iastore, 1) := by decide +kernel
theorem dX1_lend_7 : decode cX1_lend 7 = .ok (.aload_n 0, 1) := by decide +kernel
theorem dX1_lend_8 : decode cX1_lend 8 = .ok (.getfield 27, 3) := by decide +kernel
theorem dX1_lend_11 : decode cX1_lend 11 = .ok (.iload_n 1, 1) := by decide +kernel
theorem dX1_lend_12 : decode cX1_lend 12 = .ok (.iload_n 3, 1) := by decide +kernel
theorem dX1_lend_13 : decode cX1_lend 13 = .ok (.iastore, 1) := by decide +kernel
theorem dX1_lend_14 : decode cX1_lend 14 = .ok (.aload_n 0, 1) := by decide +kernel
theorem dX1_lend_15 : decode cX1_lend 15 = .ok (.getfield 36, 3) := by decide +kernel
theorem dX1_lend_18 : decode cX1_lend 18 = .ok (.iload_n 1, 1) := by decide +kernel
theorem dX1_lend_19 : decode cX1_lend 19 = .ok (.dup2, 1) := by decide +kernel
theorem dX1_lend_20 : decode cX1_lend 20 = .ok (.iaload, 1) := by decide +kernel
theorem dX1_lend_21 : decode cX1_lend 21 = .ok (.iconst 1, 1) := by decide +kernel
theorem dX1_lend_22 : decode cX1_lend 22 = .ok (.iadd, 1) := by decide +kernel
theorem dX1_lend_23 : decode cX1_lend 23 = .ok (.iastore, 1) := by decide +kernel
theorem dX1_lend_24 : decode cX1_lend 24 = .ok (.return_, 1) := by decide +kernel
set_option maxRecDepth 20000 in
theorem ggX1_handOver_X1_moveTo : GoodIn wsX1_handOver wsX1_moveTo := goodIn_r _ [7, 8, 9, 10, 11, 6, 12, 13, 14, 15, 16, 17, 18, 19, 20, 21, 22, 23, 24, 25, 26, 27, 28, 29, 30, 31, 32, 33, 34, 35, 36, 37, 38] (by decide +kernel) (by decide +kernel)
set_option maxRecDepth 20000 in
theorem gX1_handOver_X1_moveTo : GoodIn wsX1_handOver (wsV RX1 64 RX1 yX1_moveTo wsX1_moveTo) := goodIn_app (goodIn_of _ (by decide +kernel)) ggX1_handOver_X1_moveTo
theorem dX1_handOver_0 : decode cX1_handOver 0 = .ok (.aload_n 0, 1) := by decide +kernel
theorem dX1_handOver_1 : decode cX1_handOver 1 = .ok (.iload_n 1, 1) := by decide +kernel
theorem dX1_handOver_2 : decode cX1_handOver 2 = .ok (.iconst 1, 1) := by decide +kernel
theorem dX1_handOver_3 : decode cX1_handOver 3 = .ok (.invokevirtual 64, 3) := by decide +kernel
theorem dX1_handOver_6 : decode cX1_handOver 6 = .ok (.aload_n 0, 1) := by decide +kernel
theorem dX1_handOver_7 : decode cX1_handOver 7 = .ok (.getfield 30, 3) := by decide +kernel
theorem dX1_handOver_10 : decode cX1_handOver 10 = .ok (.iload_n 1, 1) := by decide +kernel
theorem dX1_handOver_11 : decode cX1_handOver 11 = .ok (.iload_n 2, 1) := by decide +kernel
theorem dX1_handOver_12 : decode cX1_handOver 12 = .ok (.iastore, 1) := by decide +kernel
theorem dX1_handOver_13 : decode cX1_handOver 13 = .ok (.aload_n 0, 1) := by decide +kernel
theorem dX1_handOver_14 : decode cX1_handOver 14 = .ok (.getfield 33, 3) := by decide +kernel
theorem dX1_handOver_17 : decode cX1_handOver 17 = .ok (.iload_n 1, 1) := by decide +kernel
theorem dX1_handOver_18 : decode cX1_handOver 18 = .ok (.iconst 0, 1) := by decide +kernel
theorem dX1_handOver_19 : decode cX1_handOver 19 = .ok (.iastore, 1) := by decide +kernel
theorem dX1_handOver_20 : decode cX1_handOver 20 = .ok (.return_, 1) := by decide +kernel
set_option maxRecDepth 20000 in
theorem ggX1_sendOut_X1_moveTo : GoodIn wsX1_sendOut wsX1_moveTo := goodIn_r _ [6, 7, 8, 9, 10, 5, 11, 12, 13, 14, 15, 16, 17, 18, 19, 20, 21, 22, 23, 24, 25, 26, 27, 28, 29, 30, 31, 32, 33, 34, 35, 36, 37] (by decide +kernel) (by decide +kernel)
set_option maxRecDepth 20000 in
theorem gX1_sendOut_X1_moveTo : GoodIn wsX1_sendOut (wsV RX1 64 RX1 yX1_moveTo wsX1_moveTo) := goodIn_app (goodIn_of _ (by decide +kernel)) ggX1_sendOut_X1_moveTo
theorem dX1_sendOut_0 : decode cX1_sendOut 0 = .ok (.aload_n 0, 1) := by decide +kernel
theorem dX1_sendOut_1 : decode cX1_sendOut 1 = .ok (.iload_n 1, 1) := by decide +kernel
theorem dX1_sendOut_2 : decode cX1_sendOut 2 = .ok (.iconst 2, 1) := by decide +kernel
theorem dX1_sendOut_3 : decode cX1_sendOut 3 = .ok (.invokevirtual 64, 3) := by decide +kernel
theorem dX1_sendOut_6 : decode cX1_sendOut 6 = .ok (.aload_n 0, 1) := by decide +kernel
theorem dX1_sendOut_7 : decode cX1_sendOut 7 = .ok (.getfield 33, 3) := by decide +kernel
theorem dX1_sendOut_10 : decode cX1_sendOut 10 = .ok (.iload_n 1, 1) := by decide +kernel
theorem dX1_sendOut_11 : decode cX1_sendOut 11 = .ok (.iload_n 2, 1) := by decide +kernel
theorem dX1_sendOut_12 : decode cX1_sendOut 12 = .ok (.iastore, 1) := by decide +kernel
theorem dX1_sendOut_13 : decode cX1_sendOut 13 = .ok (.return_, 1) := by decide +kernel
set_option maxRecDepth 20000 in
theorem ggX1_sendBack_X1_moveTo : GoodIn wsX1_sendBack wsX1_moveTo := goodIn_r _ [8, 9, 10, 11, 12, 7, 13, 14, 15, 16, 17, 18, 19, 20, 21, 22, 23, 24, 25, 26, 27, 28, 29, 30, 31, 32, 33, 34, 35, 36, 37, 38, 39] (by decide +kernel) (by decide +kernel)
set_option maxRecDepth 20000 in
theorem gX1_sendBack_X1_moveTo : GoodIn wsX1_sendBack (wsV RX1 64 RX1 yX1_moveTo wsX1_moveTo) := goodIn_app (goodIn_of _ (by decide +kernel)) ggX1_sendBack_X1_moveTo
theorem dX1_sendBack_0 : decode cX1_sendBack 0 = .ok (.aload_n 0, 1) := by decide +kernel
theorem dX1_sendBack_1 : decode cX1_sendBack 1 = .ok (.iload_n 1, 1) := by decide +kernel
theorem dX1_sendBack_2 : decode cX1_sendBack 2 = .ok (.iconst 3, 1) := by decide +kernel
theorem dX1_sendBack_3 : decode cX1_sendBack 3 = .ok (.invokevirtual 64, 3) := by decide +kernel
theorem dX1_sendBack_6 : decode cX1_sendBack 6 = .ok (.aload_n 0, 1) := by decide +kernel
theorem dX1_sendBack_7 : decode cX1_sendBack 7 = .ok (.getfield 27, 3) := by decide +kernel
theorem dX1_sendBack_10 : decode cX1_sendBack 10 = .ok (.iload_n 1, 1) := by decide +kernel
theorem dX1_sendBack_11 : decode cX1_sendBack 11 = .ok (.iconst (-1), 1) := by decide +kernel
theorem dX1_sendBack_12 : decode cX1_sendBack 12 = .ok (.iastore, 1) := by decide +kernel
theorem dX1_sendBack_13 : decode cX1_sendBack 13 = .ok (.aload_n 0, 1) := by decide +kernel
theorem dX1_sendBack_14 : decode cX1_sendBack 14 = .ok (.getfield 30, 3) := by decide +kernel
theorem dX1_sendBack_17 : decode cX1_sendBack 17 = .ok (.iload_n 1, 1) := by decide +kernel
theorem dX1_sendBack_18 : decode cX1_sendBack 18 = .ok (.iconst (-1), 1) := by decide +kernel
theorem dX1_sendBack_19 : decode cX1_sendBack 19 = .ok (.iastore, 1) := by decide +kernel
theorem dX1_sendBack_20 : decode cX1_sendBack 20 = .ok (.aload_n 0, 1) := by decide +kernel
theorem dX1_sendBack_21 : decode cX1_sendBack 21 = .ok (.getfield 33, 3) := by decide +kernel
theorem dX1_sendBack_24 : decode cX1_sendBack 24 = .ok (.iload_n 1, 1) := by decide +kernel
theorem dX1_sendBack_25 : decode cX1_sendBack 25 = .ok (.iload_n 2, 1) := by decide +kernel
theorem dX1_sendBack_26 : decode cX1_sendBack 26 = .ok (.iastore, 1) := by decide +kernel
theorem dX1_sendBack_27 : decode cX1_sendBack 27 = .ok (.return_, 1) := by decide +kernel
set_option maxRecDepth 20000 in
theorem ggX1_comesToday_X1_inBox : GoodIn wsX1_comesToday wsX1_inBox := goodIn_r _ [6, 7, 8, 9, 10, 11, 12, 13, 14, 15, 16, 17, 18, 19, 20] (by decide +kernel) (by decide +kernel)
set_option maxRecDepth 20000 in
theorem gX1_comesToday_X1_inBox : GoodIn wsX1_comesToday (wsV RX1 71 RX1 yX1_inBox wsX1_inBox) := goodIn_app (goodIn_of _ (by decide +kernel)) ggX1_comesToday_X1_inBox
theorem dX1_comesToday_0 : decode cX1_comesToday 0 = .ok (.aload_n 0, 1) := by decide +kernel
theorem dX1_comesToday_1 : decode cX1_comesToday 1 = .ok (.iload_n 1, 1) := by decide +kernel
theorem dX1_comesToday_2 : decode cX1_comesToday 2 = .ok (.invokevirtual 71, 3) := by decide +kernel
theorem dX1_comesToday_5 : decode cX1_comesToday 5 = .ok (.ifCond .ne 5, 3) := by decide +kernel
theorem dX1_comesToday_8 : decode cX1_comesToday 8 = .ok (.iconst 0, 1) := by decide +kernel
theorem dX1_comesToday_9 : decode cX1_comesToday 9 = .ok (.ireturn, 1) := by decide +kernel
theorem dX1_comesToday_10 : decode cX1_comesToday 10 = .ok (.aload_n 0, 1) := by decide +kernel
theorem dX1_comesToday_11 : decode cX1_comesToday 11 = .ok (.getfield 33, 3) := by decide +kernel
theorem dX1_comesToday_14 : decode cX1_comesToday 14 = .ok (.iload_n 1, 1) := by decide +kernel
theorem dX1_comesToday_15 : decode cX1_comesToday 15 = .ok (.dup2, 1) := by decide +kernel
theorem dX1_comesToday_16 : decode cX1_comesToday 16 = .ok (.iaload, 1) := by decide +kernel
theorem dX1_comesToday_17 : decode cX1_comesToday 17 = .ok (.iconst 1, 1) := by decide +kernel
theorem dX1_comesToday_18 : decode cX1_comesToday 18 = .ok (.isub, 1) := by decide +kernel
theorem dX1_comesToday_19 : decode cX1_comesToday 19 = .ok (.iastore, 1) := by decide +kernel
theorem dX1_comesToday_20 : decode cX1_comesToday 20 = .ok (.aload_n 0, 1) := by decide +kernel
theorem dX1_comesToday_21 : decode cX1_comesToday 21 = .ok (.getfield 33, 3) := by decide +kernel
theorem dX1_comesToday_24 : decode cX1_comesToday 24 = .ok (.iload_n 1, 1) := by decide +kernel
theorem dX1_comesToday_25 : decode cX1_comesToday 25 = .ok (.iaload, 1) := by decide +kernel
theorem dX1_comesToday_26 : decode cX1_comesToday 26 = .ok (.ifCond .gt 7, 3) := by decide +kernel
theorem dX1_comesToday_29 : decode cX1_comesToday 29 = .ok (.iconst 1, 1) := by decide +kernel
theorem dX1_comesToday_30 : decode cX1_comesToday 30 = .ok (.goto 4, 3) := by decide +kernel
theorem dX1_comesToday_33 : decode cX1_comesToday 33 = .ok (.iconst 0, 1) := by decide +kernel
theorem dX1_comesToday_34 : decode cX1_comesToday 34 = .ok (.ireturn, 1) := by decide +kernel
theorem dX1_inBox_0 : decode cX1_inBox 0 = .ok (.aload_n 0, 1) := by decide +kernel
theorem dX1_inBox_1 : decode cX1_inBox 1 = .ok (.getfield 9, 3) := by decide +kernel
theorem dX1_inBox_4 : decode cX1_inBox 4 = .ok (.iload_n 1, 1) := by decide +kernel
theorem dX1_inBox_5 : decode cX1_inBox 5 = .ok (.iaload, 1) := by decide +kernel
theorem dX1_inBox_6 : decode cX1_inBox 6 = .ok (.iconst 2, 1) := by decide +kernel
theorem dX1_inBox_7 : decode cX1_inBox 7 = .ok (.if_icmp .eq 13, 3) := by decide +kernel
theorem dX1_inBox_10 : decode cX1_inBox 10 = .ok (.aload_n 0, 1) := by decide +kernel
theorem dX1_inBox_11 : decode cX1_inBox 11 = .ok (.getfield 9, 3) := by decide +kernel
theorem dX1_inBox_14 : decode cX1_inBox 14 = .ok (.iload_n 1, 1) := by decide +kernel
theorem dX1_inBox_15 : decode cX1_inBox 15 = .ok (.iaload, 1) := by decide +kernel
theorem dX1_inBox_16 : decode cX1_inBox 16 = .ok (.iconst 3, 1) := by decide +kernel
theorem dX1_inBox_17 : decode cX1_inBox 17 = .ok (.if_icmp .ne 7, 3) := by decide +kernel
theorem dX1_inBox_20 : decode cX1_inBox 20 = .ok (.iconst 1, 1) := by decide +kernel
theorem dX1_inBox_21 : decode cX1_inBox 21 = .ok (.goto 4, 3) := by decide +kernel
theorem dX1_inBox_24 : decode cX1_inBox 24 = .ok (.iconst 0, 1) := by decide +kernel
theorem dX1_inBox_25 : decode cX1_inBox 25 = .ok (.ireturn, 1) := by decide +kernel
theorem dX1_belongToNobody_0 : decode cX1_belongToNobody 0 = .ok (.aload_n 0, 1) := by decide +kernel
theorem dX1_belongToNobody_1 : decode cX1_belongToNobody 1 = .ok (.getfield 24, 3) := by decide +kernel
theorem dX1_belongToNobody_4 : decode cX1_belongToNobody 4 = .ok (.iload_n 1, 1) := by decide +kernel
theorem dX1_belongToNobody_5 : decode cX1_belongToNobody 5 = .ok (.iconst (-1), 1) := by decide +kernel
theorem dX1_belongToNobody_6 : decode cX1_belongToNobody 6 = .ok (.iastore, 1) := by decide +kernel
theorem dX1_belongToNobody_7 : decode cX1_belongToNobody 7 = .ok (.aload_n 0, 1) := by decide +kernel
theorem dX1_belongToNobody_8 : decode cX1_belongToNobody 8 = .ok (.getfield 27, 3) := by decide +kernel
theorem dX1_belongToNobody_11 : decode cX1_belongToNobody 11 = .ok (.iload_n 1, 1) := by decide +kernel
theorem dX1_belongToNobody_12 : decode cX1_belongToNobody 12 = .ok (.iconst (-1), 1) := by decide +kernel
theorem dX1_belongToNobody_13 : decode cX1_belongToNobody 13 = .ok (.iastore, 1) := by decide +kernel
theorem dX1_belongToNobody_14 : decode cX1_belongToNobody 14 = .ok (.aload_n 0, 1) := by decide +kernel
theorem dX1_belongToNobody_15 : decode cX1_belongToNobody 15 = .ok (.getfield 30, 3) := by decide +kernel
theorem dX1_belongToNobody_18 : decode cX1_belongToNobody 18 = .ok (.iload_n 1, 1) := by decide +kernel
theorem dX1_belongToNobody_19 : decode cX1_belongToNobody 19 = .ok (.iconst (-1), 1) := by decide +kernel
theorem dX1_belongToNobody_20 : decode cX1_belongToNobody 20 = .ok (.iastore, 1) := by decide +kernel
theorem dX1_belongToNobody_21 : decode cX1_belongToNobody 21 = .ok (.aload_n 0, 1) := by decide +kernel
theorem dX1_belongToNobody_22 : decode cX1_belongToNobody 22 = .ok (.getfield 33, 3) := by decide +kernel
theorem dX1_belongToNobody_25 : decode cX1_belongToNobody 25 = .ok (.iload_n 1, 1) := by decide +kernel
theorem dX1_belongToNobody_26 : decode cX1_belongToNobody 26 = .ok (.iconst 0, 1) := by decide +kernel
theorem dX1_belongToNobody_27 : decode cX1_belongToNobody 27 = .ok (.iastore, 1) := by decide +kernel
theorem dX1_belongToNobody_28 : decode cX1_belongToNobody 28 = .ok (.return_, 1) := by decide +kernel
set_option maxRecDepth 20000 in
theorem ggX1_moveTo_X1_tally : GoodIn wsX1_moveTo wsX1_tally := goodIn_r _ [6, 7, 8, 1, 9, 10, 11, 12, 13, 14, 5, 15, 16, 17, 18, 19, 20, 21, 22, 23, 24, 25, 26, 27, 28, 29, 30, 31, 32] (by decide +kernel) (by decide +kernel)
set_option maxRecDepth 20000 in
theorem gX1_moveTo_X1_tally : GoodIn wsX1_moveTo (wsV RX1 74 RX1 yX1_tally wsX1_tally) := goodIn_app (goodIn_of _ (by decide +kernel)) ggX1_moveTo_X1_tally
theorem dX1_moveTo_0 : decode cX1_moveTo 0 = .ok (.aload_n 0, 1) := by decide +kernel
theorem dX1_moveTo_1 : decode cX1_moveTo 1 = .ok (.iload_n 1, 1) := by decide +kernel
theorem dX1_moveTo_2 : decode cX1_moveTo 2 = .ok (.iconst (-1), 1) := by decide +kernel
theorem dX1_moveTo_3 : decode cX1_moveTo 3 = .ok (.invokevirtual 74, 3) := by decide +kernel
theorem dX1_moveTo_6 : decode cX1_moveTo 6 = .ok (.aload_n 0, 1) := by decide +kernel
theorem dX1_moveTo_7 : decode cX1_moveTo 7 = .ok (.getfield 9, 3) := by decide +kernel
theorem dX1_moveTo_10 : decode cX1_moveTo 10 = .ok (.iload_n 1, 1) := by decide +kernel
theorem dX1_moveTo_11 : decode cX1_moveTo 11 = .ok (.iload_n 2, 1) := by decide +kernel
theorem dX1_moveTo_12 : decode cX1_moveTo 12 = .ok (.iastore, 1) := by decide +kernel
theorem dX1_moveTo_13 : decode cX1_moveTo 13 = .ok (.aload_n 0, 1) := by decide +kernel
theorem dX1_moveTo_14 : decode cX1_moveTo 14 = .ok (.iload_n 1, 1) := by decide +kernel
theorem dX1_moveTo_15 : decode cX1_moveTo 15 = .ok (.iconst 1, 1) := by decide +kernel
theorem dX1_moveTo_16 : decode cX1_moveTo 16 = .ok (.invokevirtual 74, 3) := by decide +kernel
theorem dX1_moveTo_19 : decode cX1_moveTo 19 = .ok (.return_, 1) := by decide +kernel
set_option maxRecDepth 20000 in
theorem ggX1_tally_X1_slot : GoodIn wsX1_tally wsX1_slot := goodIn_r _ [11] (by decide +kernel) (by decide +kernel)
set_option maxRecDepth 20000 in
theorem gX1_tally_X1_slot : GoodIn wsX1_tally (wsV RX1 60 RX1 yX1_slot wsX1_slot) := goodIn_app (goodIn_of _ (by decide +kernel)) ggX1_tally_X1_slot
set_option maxRecDepth 20000 in
theorem ggX1_tally_X1_inBox : GoodIn wsX1_tally wsX1_inBox := goodIn_r _ [15, 3, 16, 17, 18, 19, 20, 21, 22, 23, 24, 25, 26, 27, 28] (by decide +kernel) (by decide +kernel)
set_option maxRecDepth 20000 in
theorem gX1_tally_X1_inBox : GoodIn wsX1_tally (wsV RX1 71 RX1 yX1_inBox wsX1_inBox) := goodIn_app (goodIn_of _ (by decide +kernel)) ggX1_tally_X1_inBox
theorem dX1_tally_0 : decode cX1_tally 0 = .ok (.aload_n 0, 1) := by decide +kernel
theorem dX1_tally_1 : decode cX1_tally 1 = .ok (.aload_n 0, 1) := by decide +kernel
theorem dX1_tally_2 : decode cX1_tally 2 = .ok (.getfield 15, 3) := by decide +kernel
theorem dX1_tally_5 : decode cX1_tally 5 = .ok (.iload_n 1, 1) := by decide +kernel
theorem dX1_tally_6 : decode cX1_tally 6 = .ok (.iaload, 1) := by decide +kernel
theorem dX1_tally_7 : decode cX1_tally 7 = .ok (.aload_n 0, 1) := by decide +kernel
theorem dX1_tally_8 : decode cX1_tally 8 = .ok (.getfield 18, 3) := by decide +kernel
theorem dX1_tally_11 : decode cX1_tally 11 = .ok (.iload_n 1, 1) := by decide +kernel
theorem dX1_tally_12 : decode cX1_tally 12 = .ok (.iaload, 1) := by decide +kernel
theorem dX1_tally_13 : decode cX1_tally 13 = .ok (.invokevirtual 60, 3) := by decide +kernel
theorem dX1_tally_16 : decode cX1_tally 16 = .ok (.istore_n 3, 1) := by decide +kernel
theorem dX1_tally_17 : decode cX1_tally 17 = .ok (.aload_n 0, 1) := by decide +kernel
theorem dX1_tally_18 : decode cX1_tally 18 = .ok (.getfield 9, 3) := by decide +kernel
theorem dX1_tally_21 : decode cX1_tally 21 = .ok (.iload_n 1, 1) := by decide +kernel
theorem dX1_tally_22 : decode cX1_tally 22 = .ok (.iaload, 1) := by decide +kernel
theorem dX1_tally_23 : decode cX1_tally 23 = .ok (.ifCond .ne 26, 3) := by decide +kernel
theorem dX1_tally_26 : decode cX1_tally 26 = .ok (.iload_n 3, 1) := by decide +kernel
theorem dX1_tally_27 : decode cX1_tally 27 = .ok (.ifCond .lt 22, 3) := by decide +kernel
theorem dX1_tally_30 : decode cX1_tally 30 = .ok (.iload_n 3, 1) := by decide +kernel
theorem dX1_tally_31 : decode cX1_tally 31 = .ok (.aload_n 0, 1) := by decide +kernel
theorem dX1_tally_32 : decode cX1_tally 32 = .ok (.getfield 39, 3) := by decide +kernel
theorem dX1_tally_35 : decode cX1_tally 35 = .ok (.arraylength, 1) := by decide +kernel
theorem dX1_tally_36 : decode cX1_tally 36 = .ok (.if_icmp .ge 13, 3) := by decide +kernel
theorem dX1_tally_39 : decode cX1_tally 39 = .ok (.aload_n 0, 1) := by decide +kernel
theorem dX1_tally_40 : decode cX1_tally 40 = .ok (.getfield 39, 3) := by decide +kernel
theorem dX1_tally_43 : decode cX1_tally 43 = .ok (.iload_n 3, 1) := by decide +kernel
theorem dX1_tally_44 : decode cX1_tally 44 = .ok (.dup2, 1) := by decide +kernel
theorem dX1_tally_45 : decode cX1_tally 45 = .ok (.iaload, 1) := by decide +kernel
theorem dX1_tally_46 : decode cX1_tally 46 = .ok (.iload_n 2, 1) := by decide +kernel
theorem dX1_tally_47 : decode cX1_tally 47 = .ok (.iadd, 1) := by decide +kernel
theorem dX1_tally_48 : decode cX1_tally 48 = .ok (.iastore, 1) := by decide +kernel
theorem dX1_tally_49 : decode cX1_tally 49 = .ok (.aload_n 0, 1) := by decide +kernel
theorem dX1_tally_50 : decode cX1_tally 50 = .ok (.iload_n 1, 1) := by decide +kernel
theorem dX1_tally_51 : decode cX1_tally 51 = .ok (.invokevirtual 71, 3) := by decide +kernel
theorem dX1_tally_54 : decode cX1_tally 54 = .ok (.ifCond .eq 13, 3) := by decide +kernel
theorem dX1_tally_57 : decode cX1_tally 57 = .ok (.aload_n 0, 1) := by decide +kernel
theorem dX1_tally_58 : decode cX1_tally 58 = .ok (.dup, 1) := by decide +kernel
theorem dX1_tally_59 : decode cX1_tally 59 = .ok (.getfield 46, 3) := by decide +kernel
theorem dX1_tally_62 : decode cX1_tally 62 = .ok (.iload_n 2, 1) := by decide +kernel
theorem dX1_tally_63 : decode cX1_tally 63 = .ok (.iadd, 1) := by decide +kernel
theorem dX1_tally_64 : decode cX1_tally 64 = .ok (.putfield 46, 3) := by decide +kernel
theorem dX1_tally_67 : decode cX1_tally 67 = .ok (.aload_n 0, 1) := by decide +kernel
theorem dX1_tally_68 : decode cX1_tally 68 = .ok (.getfield 9, 3) := by decide +kernel
theorem dX1_tally_71 : decode cX1_tally 71 = .ok (.iload_n 1, 1) := by decide +kernel
theorem dX1_tally_72 : decode cX1_tally 72 = .ok (.iaload, 1) := by decide +kernel
theorem dX1_tally_73 : decode cX1_tally 73 = .ok (.iconst 5, 1) := by decide +kernel
theorem dX1_tally_74 : decode cX1_tally 74 = .ok (.if_icmp .ne 13, 3) := by decide +kernel
theorem dX1_tally_77 : decode cX1_tally 77 = .ok (.aload_n 0, 1) := by decide +kernel
theorem dX1_tally_78 : decode cX1_tally 78 = .ok (.dup, 1) := by decide +kernel
theorem dX1_tally_79 : decode cX1_tally 79 = .ok (.getfield 49, 3) := by decide +kernel
theorem dX1_tally_82 : decode cX1_tally 82 = .ok (.iload_n 2, 1) := by decide +kernel
theorem dX1_tally_83 : decode cX1_tally 83 = .ok (.iadd, 1) := by decide +kernel
theorem dX1_tally_84 : decode cX1_tally 84 = .ok (.putfield 49, 3) := by decide +kernel
theorem dX1_tally_87 : decode cX1_tally 87 = .ok (.return_, 1) := by decide +kernel
