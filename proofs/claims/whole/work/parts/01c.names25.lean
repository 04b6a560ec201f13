theorem dX2_init_0 : decode cX2_init 0 = .ok (.aload_n 0, 1) := by decide +kernel
theorem dX2_init_1 : decode cX2_init 1 = .ok (.invokespecial 3, 3) := by decide +kernel
theorem dX2_init_4 : decode cX2_init 4 = .ok (.aload_n 0, 1) := by decide +kernel
theorem dX2_init_5 : decode cX2_init 5 = .ok (.bipush 21, 2) := by decide +kernel
theorem dX2_init_7 : decode cX2_init 7 = .ok (.newarray .int, 2) := by decide +kernel
theorem dX2_init_9 : decode cX2_init 9 = .ok (.putfield 9, 3) := by decide +kernel
theorem dX2_init_12 : decode cX2_init 12 = .ok (.aload_n 0, 1) := by decide +kernel
theorem dX2_init_13 : decode cX2_init 13 = .ok (.bipush 21, 2) := by decide +kernel
theorem dX2_init_15 : decode cX2_init 15 = .ok (.newarray .int, 2) := by decide +kernel
theorem dX2_init_17 : decode cX2_init 17 = .ok (.putfield 15, 3) := by decide +kernel
theorem dX2_init_20 : decode cX2_init 20 = .ok (.return_, 1) := by decide +kernel
set_option maxRecDepth 20000 in
theorem ggX2_setsToBuy_X2_mostOf : GoodIn wsX2_setsToBuy wsX2_mostOf := goodIn_r _ [5, 6, 7, 8, 9, 10, 11, 12, 13, 4, 14, 15, 16, 17] (by decide +kernel) (by decide +kernel)
set_option maxRecDepth 20000 in
theorem gX2_setsToBuy_X2_mostOf : GoodIn wsX2_setsToBuy (wsV RX2 18 RX2 yX2_mostOf wsX2_mostOf) := goodIn_app (goodIn_of _ (by decide +kernel)) ggX2_setsToBuy_X2_mostOf
theorem dX2_setsToBuy_0 : decode cX2_setsToBuy 0 = .ok (.iconst 0, 1) := by decide +kernel
theorem dX2_setsToBuy_1 : decode cX2_setsToBuy 1 = .ok (.istore_n 3, 1) := by decide +kernel
theorem dX2_setsToBuy_2 : decode cX2_setsToBuy 2 = .ok (.iload_n 3, 1) := by decide +kernel
theorem dX2_setsToBuy_3 : decode cX2_setsToBuy 3 = .ok (.bipush 50, 2) := by decide +kernel
theorem dX2_setsToBuy_5 : decode cX2_setsToBuy 5 = .ok (.if_icmp .ge 19, 3) := by decide +kernel
theorem dX2_setsToBuy_8 : decode cX2_setsToBuy 8 = .ok (.aload_n 0, 1) := by decide +kernel
theorem dX2_setsToBuy_9 : decode cX2_setsToBuy 9 = .ok (.iload_n 1, 1) := by decide +kernel
theorem dX2_setsToBuy_10 : decode cX2_setsToBuy 10 = .ok (.iload_n 3, 1) := by decide +kernel
theorem dX2_setsToBuy_11 : decode cX2_setsToBuy 11 = .ok (.invokevirtual 18, 3) := by decide +kernel
theorem dX2_setsToBuy_14 : decode cX2_setsToBuy 14 = .ok (.iload_n 2, 1) := by decide +kernel
theorem dX2_setsToBuy_15 : decode cX2_setsToBuy 15 = .ok (.if_icmp .le 9, 3) := by decide +kernel
theorem dX2_setsToBuy_18 : decode cX2_setsToBuy 18 = .ok (.iinc 3 1, 3) := by decide +kernel
theorem dX2_setsToBuy_21 : decode cX2_setsToBuy 21 = .ok (.goto (-19), 3) := by decide +kernel
theorem dX2_setsToBuy_24 : decode cX2_setsToBuy 24 = .ok (.iload_n 3, 1) := by decide +kernel
theorem dX2_setsToBuy_25 : decode cX2_setsToBuy 25 = .ok (.ireturn, 1) := by decide +kernel
set_option maxRecDepth 20000 in
theorem ggX2_mostOf_X2_gainIn : GoodIn wsX2_mostOf wsX2_gainIn := goodIn_r _ [10, 11, 12, 13] (by decide +kernel) (by decide +kernel)
set_option maxRecDepth 20000 in
theorem gX2_mostOf_X2_gainIn : GoodIn wsX2_mostOf (wsV RX2 22 RX2 yX2_gainIn wsX2_gainIn) := goodIn_app (goodIn_of _ (by decide +kernel)) ggX2_mostOf_X2_gainIn
theorem dX2_mostOf_0 : decode cX2_mostOf 0 = .ok (.aload_n 0, 1) := by decide +kernel
theorem dX2_mostOf_1 : decode cX2_mostOf 1 = .ok (.getfield 15, 3) := by decide +kernel
theorem dX2_mostOf_4 : decode cX2_mostOf 4 = .ok (.iconst 0, 1) := by decide +kernel
theorem dX2_mostOf_5 : decode cX2_mostOf 5 = .ok (.iaload, 1) := by decide +kernel
theorem dX2_mostOf_6 : decode cX2_mostOf 6 = .ok (.istore_n 3, 1) := by decide +kernel
theorem dX2_mostOf_7 : decode cX2_mostOf 7 = .ok (.iconst 0, 1) := by decide +kernel
theorem dX2_mostOf_8 : decode cX2_mostOf 8 = .ok (.istore 4, 2) := by decide +kernel
theorem dX2_mostOf_10 : decode cX2_mostOf 10 = .ok (.iconst 1, 1) := by decide +kernel
theorem dX2_mostOf_11 : decode cX2_mostOf 11 = .ok (.istore 5, 2) := by decide +kernel
theorem dX2_mostOf_13 : decode cX2_mostOf 13 = .ok (.iload 5, 2) := by decide +kernel
theorem dX2_mostOf_15 : decode cX2_mostOf 15 = .ok (.bipush 20, 2) := by decide +kernel
theorem dX2_mostOf_17 : decode cX2_mostOf 17 = .ok (.if_icmp .gt 39, 3) := by decide +kernel
theorem dX2_mostOf_20 : decode cX2_mostOf 20 = .ok (.iload 4, 2) := by decide +kernel
theorem dX2_mostOf_22 : decode cX2_mostOf 22 = .ok (.aload_n 0, 1) := by decide +kernel
theorem dX2_mostOf_23 : decode cX2_mostOf 23 = .ok (.iload 5, 2) := by decide +kernel
theorem dX2_mostOf_25 : decode cX2_mostOf 25 = .ok (.iconst 1, 1) := by decide +kernel
theorem dX2_mostOf_26 : decode cX2_mostOf 26 = .ok (.isub, 1) := by decide +kernel
theorem dX2_mostOf_27 : decode cX2_mostOf 27 = .ok (.iload_n 1, 1) := by decide +kernel
theorem dX2_mostOf_28 : decode cX2_mostOf 28 = .ok (.iload_n 2, 1) := by decide +kernel
theorem dX2_mostOf_29 : decode cX2_mostOf 29 = .ok (.invokevirtual 22, 3) := by decide +kernel
theorem dX2_mostOf_32 : decode cX2_mostOf 32 = .ok (.iadd, 1) := by decide +kernel
theorem dX2_mostOf_33 : decode cX2_mostOf 33 = .ok (.istore 4, 2) := by decide +kernel
theorem dX2_mostOf_35 : decode cX2_mostOf 35 = .ok (.iload_n 3, 1) := by decide +kernel
theorem dX2_mostOf_36 : decode cX2_mostOf 36 = .ok (.iload 4, 2) := by decide +kernel
theorem dX2_mostOf_38 : decode cX2_mostOf 38 = .ok (.aload_n 0, 1) := by decide +kernel
theorem dX2_mostOf_39 : decode cX2_mostOf 39 = .ok (.getfield 15, 3) := by decide +kernel
theorem dX2_mostOf_42 : decode cX2_mostOf 42 = .ok (.iload 5, 2) := by decide +kernel
theorem dX2_mostOf_44 : decode cX2_mostOf 44 = .ok (.iaload, 1) := by decide +kernel
theorem dX2_mostOf_45 : decode cX2_mostOf 45 = .ok (.iadd, 1) := by decide +kernel
theorem dX2_mostOf_46 : decode cX2_mostOf 46 = .ok (.invokestatic 26, 3) := by decide +kernel
theorem dX2_mostOf_49 : decode cX2_mostOf 49 = .ok (.istore_n 3, 1) := by decide +kernel
theorem dX2_mostOf_50 : decode cX2_mostOf 50 = .ok (.iinc 5 1, 3) := by decide +kernel
theorem dX2_mostOf_53 : decode cX2_mostOf 53 = .ok (.goto (-40), 3) := by decide +kernel
theorem dX2_mostOf_56 : decode cX2_mostOf 56 = .ok (.iload_n 3, 1) := by decide +kernel
theorem dX2_mostOf_57 : decode cX2_mostOf 57 = .ok (.ireturn, 1) := by decide +kernel
set_option maxRecDepth 20000 in
theorem ggX2_weeksOf_X2_mostOf : GoodIn wsX2_weeksOf wsX2_mostOf := goodIn_r _ [6, 1, 7, 8, 9, 10, 11, 12, 13, 5, 14, 15, 16, 17] (by decide +kernel) (by decide +kernel)
set_option maxRecDepth 20000 in
theorem gX2_weeksOf_X2_mostOf : GoodIn wsX2_weeksOf (wsV RX2 18 RX2 yX2_mostOf wsX2_mostOf) := goodIn_app (goodIn_of _ (by decide +kernel)) ggX2_weeksOf_X2_mostOf
set_option maxRecDepth 20000 in
theorem ggX2_weeksOf_X2_gainIn : GoodIn wsX2_weeksOf wsX2_gainIn := goodIn_r _ [14, 15, 16, 17] (by decide +kernel) (by decide +kernel)
set_option maxRecDepth 20000 in
theorem gX2_weeksOf_X2_gainIn : GoodIn wsX2_weeksOf (wsV RX2 22 RX2 yX2_gainIn wsX2_gainIn) := goodIn_app (goodIn_of _ (by decide +kernel)) ggX2_weeksOf_X2_gainIn
theorem dX2_weeksOf_0 : decode cX2_weeksOf 0 = .ok (.aload_n 0, 1) := by decide +kernel
theorem dX2_weeksOf_1 : decode cX2_weeksOf 1 = .ok (.iload_n 1, 1) := by decide +kernel
theorem dX2_weeksOf_2 : decode cX2_weeksOf 2 = .ok (.iload_n 2, 1) := by decide +kernel
theorem dX2_weeksOf_3 : decode cX2_weeksOf 3 = .ok (.invokevirtual 18, 3) := by decide +kernel
theorem dX2_weeksOf_6 : decode cX2_weeksOf 6 = .ok (.istore_n 3, 1) := by decide +kernel
theorem dX2_weeksOf_7 : decode cX2_weeksOf 7 = .ok (.iconst 0, 1) := by decide +kernel
theorem dX2_weeksOf_8 : decode cX2_weeksOf 8 = .ok (.istore 4, 2) := by decide +kernel
theorem dX2_weeksOf_10 : decode cX2_weeksOf 10 = .ok (.iconst 0, 1) := by decide +kernel
theorem dX2_weeksOf_11 : decode cX2_weeksOf 11 = .ok (.istore 5, 2) := by decide +kernel
theorem dX2_weeksOf_13 : decode cX2_weeksOf 13 = .ok (.iload 5, 2) := by decide +kernel
theorem dX2_weeksOf_15 : decode cX2_weeksOf 15 = .ok (.bipush 20, 2) := by decide +kernel
theorem dX2_weeksOf_17 : decode cX2_weeksOf 17 = .ok (.if_icmp .ge 39, 3) := by decide +kernel
theorem dX2_weeksOf_20 : decode cX2_weeksOf 20 = .ok (.iload 4, 2) := by decide +kernel
theorem dX2_weeksOf_22 : decode cX2_weeksOf 22 = .ok (.aload_n 0, 1) := by decide +kernel
theorem dX2_weeksOf_23 : decode cX2_weeksOf 23 = .ok (.getfield 15, 3) := by decide +kernel
theorem dX2_weeksOf_26 : decode cX2_weeksOf 26 = .ok (.iload 5, 2) := by decide +kernel
theorem dX2_weeksOf_28 : decode cX2_weeksOf 28 = .ok (.iaload, 1) := by decide +kernel
theorem dX2_weeksOf_29 : decode cX2_weeksOf 29 = .ok (.iadd, 1) := by decide +kernel
theorem dX2_weeksOf_30 : decode cX2_weeksOf 30 = .ok (.iload_n 3, 1) := by decide +kernel
theorem dX2_weeksOf_31 : decode cX2_weeksOf 31 = .ok (.if_icmp .ne 6, 3) := by decide +kernel
theorem dX2_weeksOf_34 : decode cX2_weeksOf 34 = .ok (.iload 5, 2) := by decide +kernel
theorem dX2_weeksOf_36 : decode cX2_weeksOf 36 = .ok (.ireturn, 1) := by decide +kernel
theorem dX2_weeksOf_37 : decode cX2_weeksOf 37 = .ok (.iload 4, 2) := by decide +kernel
theorem dX2_weeksOf_39 : decode cX2_weeksOf 39 = .ok (.aload_n 0, 1) := by decide +kernel
theorem dX2_weeksOf_40 : decode cX2_weeksOf 40 = .ok (.iload 5, 2) := by decide +kernel
theorem dX2_weeksOf_42 : decode cX2_weeksOf 42 = .ok (.iload_n 1, 1) := by decide +kernel
theorem dX2_weeksOf_43 : decode cX2_weeksOf 43 = .ok (.iload_n 2, 1) := by decide +kernel
theorem dX2_weeksOf_44 : decode cX2_weeksOf 44 = .ok (.invokevirtual 22, 3) := by decide +kernel
theorem dX2_weeksOf_47 : decode cX2_weeksOf 47 = .ok (.iadd, 1) := by decide +kernel
theorem dX2_weeksOf_48 : decode cX2_weeksOf 48 = .ok (.istore 4, 2) := by decide +kernel
theorem dX2_weeksOf_50 : decode cX2_weeksOf 50 = .ok (.iinc 5 1, 3) := by decide +kernel
theorem dX2_weeksOf_53 : decode cX2_weeksOf 53 = .ok (.goto (-40), 3) := by decide +kernel
theorem dX2_weeksOf_56 : decode cX2_weeksOf 56 = .ok (.bipush 20, 2) := by decide +kernel
theorem dX2_weeksOf_58 : decode cX2_weeksOf 58 = .ok (.ireturn, 1) := by decide +kernel
theorem dX2_gainIn_0 : decode cX2_gainIn 0 = .ok (.aload_n 0, 1) := by decide +kernel
theorem dX2_gainIn_1 : decode cX2_gainIn 1 = .ok (.getfield 9, 3) := by decide +kernel
theorem dX2_gainIn_4 : decode cX2_gainIn 4 = .ok (.iload_n 1, 1) := by decide +kernel
theorem dX2_gainIn_5 : decode cX2_gainIn 5 = .ok (.iaload, 1) := by decide +kernel
theorem dX2_gainIn_6 : decode cX2_gainIn 6 = .ok (.iload_n 3, 1) := by decide +kernel
theorem dX2_gainIn_7 : decode cX2_gainIn 7 = .ok (.if_icmp .le 7, 3) := by decide +kernel
theorem dX2_gainIn_10 : decode cX2_gainIn 10 = .ok (.iload_n 2, 1) := by decide +kernel
theorem dX2_gainIn_11 : decode cX2_gainIn 11 = .ok (.goto 4, 3) := by decide +kernel
theorem dX2_gainIn_14 : decode cX2_gainIn 14 = .ok (.iconst 0, 1) := by decide +kernel
theorem dX2_gainIn_15 : decode cX2_gainIn 15 = .ok (.ireturn, 1) := by decide +kernel
theorem dX3_init_0 : decode cX3_init 0 = .ok (.aload_n 0, 1) := by decide +kernel
theorem dX3_init_1 : decode cX3_init 1 = .ok (.invokespecial 3, 3) := by decide +kernel
theorem dX3_init_4 : decode cX3_init 4 = .ok (.aload_n 0, 1) := by decide +kernel
theorem dX3_init_5 : decode cX3_init 5 = .ok (.bipush 20, 2) := by decide +kernel
theorem dX3_init_7 : decode cX3_init 7 = .ok (.newarray .int, 2) := by decide +kernel
theorem dX3_init_9 : decode cX3_init 9 = .ok (.putfield 9, 3) := by decide +kernel
theorem dX3_init_12 : decode cX3_init 12 = .ok (.aload_n 0, 1) := by decide +kernel
theorem dX3_init_13 : decode cX3_init 13 = .ok (.bipush 20, 2) := by decide +kernel
theorem dX3_init_15 : decode cX3_init 15 = .ok (.newarray .int, 2) := by decide +kernel
theorem dX3_init_17 : decode cX3_init 17 = .ok (.putfield 15, 3) := by decide +kernel
theorem dX3_init_20 : decode cX3_init 20 = .ok (.aload_n 0, 1) := by decide +kernel
theorem dX3_init_21 : decode cX3_init 21 = .ok (.bipush 20, 2) := by decide +kernel
theorem dX3_init_23 : decode cX3_init 23 = .ok (.newarray .int, 2) := by decide +kernel
theorem dX3_init_25 : decode cX3_init 25 = .ok (.putfield 18, 3) := by decide +kernel
theorem dX3_init_28 : decode cX3_init 28 = .ok (.aload_n 0, 1) := by decide +kernel
theorem dX3_init_29 : decode cX3_init 29 = .ok (.bipush 20, 2) := by decide +kernel
theorem dX3_init_31 : decode cX3_init 31 = .ok (.newarray .int, 2) := by decide +kernel
theorem dX3_init_33 : decode cX3_init 33 = .ok (.putfield 21, 3) := by decide +kernel
theorem dX3_init_36 : decode cX3_init 36 = .ok (.aload_n 0, 1) := by decide +kernel
theorem dX3_init_37 : decode cX3_init 37 = .ok (.bipush 20, 2) := by decide +kernel
theorem dX3_init_39 : decode cX3_init 39 = .ok (.newarray .int, 2) := by decide +kernel
theorem dX3_init_41 : decode cX3_init 41 = .ok (.putfield 24, 3) := by decide +kernel
theorem dX3_init_44 : decode cX3_init 44 = .ok (.aload_n 0, 1) := by decide +kernel
theorem dX3_init_45 : decode cX3_init 45 = .ok (.bipush 20, 2) := by decide +kernel
theorem dX3_init_47 : decode cX3_init 47 = .ok (.newarray .int, 2) := by decide +kernel
theorem dX3_init_49 : decode cX3_init 49 = .ok (.putfield 27, 3) := by decide +kernel
theorem dX3_init_52 : decode cX3_init 52 = .ok (.aload_n 0, 1) := by decide +kernel
theorem dX3_init_53 : decode cX3_init 53 = .ok (.iconst 0, 1) := by decide +kernel
theorem dX3_init_54 : decode cX3_init 54 = .ok (.putfield 30, 3) := by decide +kernel
theorem dX3_init_57 : decode cX3_init 57 = .ok (.return_, 1) := by decide +kernel
theorem dX3_has_0 : decode cX3_has 0 = .ok (.iload_n 1, 1) := by decide +kernel
theorem dX3_has_1 : decode cX3_has 1 = .ok (.ifCond .lt 15, 3) := by decide +kernel
theorem dX3_has_4 : decode cX3_has 4 = .ok (.iload_n 1, 1) := by decide +kernel
theorem dX3_has_5 : decode cX3_has 5 = .ok (.aload_n 0, 1) := by decide +kernel
theorem dX3_has_6 : decode cX3_has 6 = .ok (.getfield 30, 3) := by decide +kernel
theorem dX3_has_9 : decode cX3_has 9 = .ok (.if_icmp .ge 7, 3) := by decide +kernel
theorem dX3_has_12 : decode cX3_has 12 = .ok (.iconst 1, 1) := by decide +kernel
theorem dX3_has_13 : decode cX3_has 13 = .ok (.goto 4, 3) := by decide +kernel
theorem dX3_has_16 : decode cX3_has 16 = .ok (.iconst 0, 1) := by decide +kernel
theorem dX3_has_17 : decode cX3_has 17 = .ok (.ireturn, 1) := by decide +kernel
theorem dX3_add_0 : decode cX3_add 0 = .ok (.aload_n 0, 1) := by decide +kernel
theorem dX3_add_1 : decode cX3_add 1 = .ok (.getfield 9, 3) := by decide +kernel
theorem dX3_add_4 : decode cX3_add 4 = .ok (.aload_n 0, 1) := by decide +kernel
theorem dX3_add_5 : decode cX3_add 5 = .ok (.getfield 30, 3) := by decide +kernel
theorem dX3_add_8 : decode cX3_add 8 = .ok (.iload_n 1, 1) := by decide +kernel
theorem dX3_add_9 : decode cX3_add 9 = .ok (.iastore, 1) := by decide +kernel
theorem dX3_add_10 : decode cX3_add 10 = .ok (.aload_n 0, 1) := by decide +kernel
theorem dX3_add_11 : decode cX3_add 11 = .ok (.getfield 15, 3) := by decide +kernel
theorem dX3_add_14 : decode cX3_add 14 = .ok (.aload_n 0, 1) := by decide +kernel
theorem dX3_add_15 : decode cX3_add 15 = .ok (.getfield 30, 3) := by decide +kernel
theorem dX3_add_18 : decode cX3_add 18 = .ok (.iload_n 2, 1) := by decide +kernel
theorem dX3_add_19 : decode cX3_add 19 = .ok (.iastore, 1) := by decide +kernel
theorem dX3_add_20 : decode cX3_add 20 = .ok (.aload_n 0, 1) := by decide +kernel
theorem dX3_add_21 : decode cX3_add 21 = .ok (.getfield 18, 3) := by decide +kernel
theorem dX3_add_24 : decode cX3_add 24 = .ok (.aload_n 0, 1) := by decide +kernel
theorem dX3_add_25 : decode cX3_add 25 = .ok (.getfield 30, 3) := by decide +kernel
theorem dX3_add_28 : decode cX3_add 28 = .ok (.iload_n 3, 1) := by decide +kernel
theorem dX3_add_29 : decode cX3_add 29 = .ok (.iastore, 1) := by decide +kernel
theorem dX3_add_30 : decode cX3_add 30 = .ok (.aload_n 0, 1) := by decide +kernel
theorem dX3_add_31 : decode cX3_add 31 = .ok (.dup, 1) := by decide +kernel
theorem dX3_add_32 : decode cX3_add 32 = .ok (.getfield 30, 3) := by decide +kernel
theorem dX3_add_35 : decode cX3_add 35 = .ok (.iconst 1, 1) := by decide +kernel
theorem dX3_add_36 : decode cX3_add 36 = .ok (.iadd, 1) := by decide +kernel
theorem dX3_add_37 : decode cX3_add 37 = .ok (.putfield 30, 3) := by decide +kernel
theorem dX3_add_40 : decode cX3_add 40 = .ok (.aload_n 0, 1) := by decide +kernel
theorem dX3_add_41 : decode cX3_add 41 = .ok (.getfield 30, 3) := by decide +kernel
theorem dX3_add_44 : decode cX3_add 44 = .ok (.iconst 1, 1) := by decide +kernel
theorem dX3_add_45 : decode cX3_add 45 = .ok (.isub, 1) := by decide +kernel
theorem dX3_add_46 : decode cX3_add 46 = .ok (.ireturn, 1) := by decide +kernel
set_option maxRecDepth 20000 in
theorem ggX3_rankOf_X3_has : GoodIn wsX3_rankOf wsX3_has := goodIn_r _ [6, 7, 8, 9, 10, 11, 12, 13, 14] (by decide +kernel) (by decide +kernel)
set_option maxRecDepth 20000 in
theorem gX3_rankOf_X3_has : GoodIn wsX3_rankOf (wsV RX3 34 RX3 yX3_has wsX3_has) := goodIn_app (goodIn_of _ (by decide +kernel)) ggX3_rankOf_X3_has
theorem dX3_rankOf_0 : decode cX3_rankOf 0 = .ok (.aload_n 0, 1) := by decide +kernel
theorem dX3_rankOf_1 : decode cX3_rankOf 1 = .ok (.iload_n 1, 1) := by decide +kernel
theorem dX3_rankOf_2 : decode cX3_rankOf 2 = .ok (.invokevirtual 34, 3) := by decide +kernel
theorem dX3_rankOf_5 : decode cX3_rankOf 5 = .ok (.ifCond .eq 12, 3) := by decide +kernel
theorem dX3_rankOf_8 : decode cX3_rankOf 8 = .ok (.aload_n 0, 1) := by decide +kernel
theorem dX3_rankOf_9 : decode cX3_rankOf 9 = .ok (.getfield 9, 3) := by decide +kernel
theorem dX3_rankOf_12 : decode cX3_rankOf 12 = .ok (.iload_n 1, 1) := by decide +kernel
theorem dX3_rankOf_13 : decode cX3_rankOf 13 = .ok (.iaload, 1) := by decide +kernel
theorem dX3_rankOf_14 : decode cX3_rankOf 14 = .ok (.goto 4, 3) := by decide +kernel
theorem dX3_rankOf_17 : decode cX3_rankOf 17 = .ok (.iconst 0, 1) := by decide +kernel
theorem dX3_rankOf_18 : decode cX3_rankOf 18 = .ok (.ireturn, 1) := by decide +kernel
set_option maxRecDepth 20000 in
theorem ggX3_mayTake_X3_has : GoodIn wsX3_mayTake wsX3_has := goodIn_r _ [9, 10, 11, 12, 13, 14, 15, 16, 17] (by decide +kernel) (by decide +kernel)
set_option maxRecDepth 20000 in
theorem gX3_mayTake_X3_has : GoodIn wsX3_mayTake (wsV RX3 34 RX3 yX3_has wsX3_has) := goodIn_app (goodIn_of _ (by decide +kernel)) ggX3_mayTake_X3_has
theorem dX3_mayTake_0 : decode cX3_mayTake 0 = .ok (.aload_n 0, 1) := by decide +kernel
theorem dX3_mayTake_1 : decode cX3_mayTake 1 = .ok (.iload_n 1, 1) := by decide +kernel
theorem dX3_mayTake_2 : decode cX3_mayTake 2 = .ok (.invokevirtual 34, 3) := by decide +kernel
theorem dX3_mayTake_5 : decode cX3_mayTake 5 = .ok (.ifCond .eq 43, 3) := by decide +kernel
theorem dX3_mayTake_8 : decode cX3_mayTake 8 = .ok (.aload_n 0, 1) := by decide +kernel
theorem dX3_mayTake_9 : decode cX3_mayTake 9 = .ok (.getfield 18, 3) := by decide +kernel
theorem dX3_mayTake_12 : decode cX3_mayTake 12 = .ok (.iload_n 1, 1) := by decide +kernel
theorem dX3_mayTake_13 : decode cX3_mayTake 13 = .ok (.iaload, 1) := by decide +kernel
theorem dX3_mayTake_14 : decode cX3_mayTake 14 = .ok (.iload_n 2, 1) := by decide +kernel
theorem dX3_mayTake_15 : decode cX3_mayTake 15 = .ok (.if_icmp .lt 33, 3) := by decide +kernel
theorem dX3_mayTake_18 : decode cX3_mayTake 18 = .ok (.aload_n 0, 1) := by decide +kernel
theorem dX3_mayTake_19 : decode cX3_mayTake 19 = .ok (.getfield 24, 3) := by decide +kernel
theorem dX3_mayTake_22 : decode cX3_mayTake 22 = .ok (.iload_n 1, 1) := by decide +kernel
theorem dX3_mayTake_23 : decode cX3_mayTake 23 = .ok (.iaload, 1) := by decide +kernel
theorem dX3_mayTake_24 : decode cX3_mayTake 24 = .ok (.aload_n 0, 1) := by decide +kernel
theorem dX3_mayTake_25 : decode cX3_mayTake 25 = .ok (.getfield 27, 3) := by decide +kernel
theorem dX3_mayTake_28 : decode cX3_mayTake 28 = .ok (.iload_n 1, 1) := by decide +kernel
theorem dX3_mayTake_29 : decode cX3_mayTake 29 = .ok (.iaload, 1) := by decide +kernel
theorem dX3_mayTake_30 : decode cX3_mayTake 30 = .ok (.iadd, 1) := by decide +kernel
theorem dX3_mayTake_31 : decode cX3_mayTake 31 = .ok (.getstatic 38, 3) := by decide +kernel
theorem dX3_mayTake_34 : decode cX3_mayTake 34 = .ok (.aload_n 0, 1) := by decide +kernel
theorem dX3_mayTake_35 : decode cX3_mayTake 35 = .ok (.getfield 9, 3) := by decide +kernel
theorem dX3_mayTake_38 : decode cX3_mayTake 38 = .ok (.iload_n 1, 1) := by decide +kernel
theorem dX3_mayTake_39 : decode cX3_mayTake 39 = .ok (.iaload, 1) := by decide +kernel
theorem dX3_mayTake_40 : decode cX3_mayTake 40 = .ok (.iaload, 1) := by decide +kernel
theorem dX3_mayTake_41 : decode cX3_mayTake 41 = .ok (.if_icmp .ge 7, 3) := by decide +kernel
theorem dX3_mayTake_44 : decode cX3_mayTake 44 = .ok (.iconst 1, 1) := by decide +kernel
theorem dX3_mayTake_45 : decode cX3_mayTake 45 = .ok (.goto 4, 3) := by decide +kernel
theorem dX3_mayTake_48 : decode cX3_mayTake 48 = .ok (.iconst 0, 1) := by decide +kernel
theorem dX3_mayTake_49 : decode cX3_mayTake 49 = .ok (.ireturn, 1) := by decide +kernel
set_option maxRecDepth 20000 in
theorem ggX3_lateCost_X3_rankOf : GoodIn wsX3_lateCost wsX3_rankOf := goodIn_r _ [9, 10, 11, 12, 13, 8, 14, 15, 16, 17, 18, 19, 20, 21, 22] (by decide +kernel) (by decide +kernel)
set_option maxRecDepth 20000 in
theorem gX3_lateCost_X3_rankOf : GoodIn wsX3_lateCost (wsV RX3 41 RX3 yX3_rankOf wsX3_rankOf) := goodIn_app (goodIn_of _ (by decide +kernel)) ggX3_lateCost_X3_rankOf
theorem dX3_lateCost_0 : decode cX3_lateCost 0 = .ok (.aload_n 0, 1) := by decide +kernel
theorem dX3_lateCost_1 : decode cX3_lateCost 1 = .ok (.iload_n 1, 1) := by decide +kernel
theorem dX3_lateCost_2 : decode cX3_lateCost 2 = .ok (.invokevirtual 41, 3) := by decide +kernel
theorem dX3_lateCost_5 : decode cX3_lateCost 5 = .ok (.istore_n 3, 1) := by decide +kernel
theorem dX3_lateCost_6 : decode cX3_lateCost 6 = .ok (.iconst 0, 1) := by decide +kernel
theorem dX3_lateCost_7 : decode cX3_lateCost 7 = .ok (.iload_n 2, 1) := by decide +kernel
theorem dX3_lateCost_8 : decode cX3_lateCost 8 = .ok (.getstatic 45, 3) := by decide +kernel
theorem dX3_lateCost_11 : decode cX3_lateCost 11 = .ok (.iload_n 3, 1) := by decide +kernel
theorem dX3_lateCost_12 : decode cX3_lateCost 12 = .ok (.iaload, 1) := by decide +kernel
theorem dX3_lateCost_13 : decode cX3_lateCost 13 = .ok (.isub, 1) := by decide +kernel
theorem dX3_lateCost_14 : decode cX3_lateCost 14 = .ok (.invokestatic 48, 3) := by decide +kernel
theorem dX3_lateCost_17 : decode cX3_lateCost 17 = .ok (.getstatic 54, 3) := by decide +kernel
theorem dX3_lateCost_20 : decode cX3_lateCost 20 = .ok (.iload_n 3, 1) := by decide +kernel
theorem dX3_lateCost_21 : decode cX3_lateCost 21 = .ok (.iaload, 1) := by decide +kernel
theorem dX3_lateCost_22 : decode cX3_lateCost 22 = .ok (.imul, 1) := by decide +kernel
theorem dX3_lateCost_23 : decode cX3_lateCost 23 = .ok (.ireturn, 1) := by decide +kernel
theorem dX4_init_0 : decode cX4_init 0 = .ok (.aload_n 0, 1) := by decide +kernel
theorem dX4_init_1 : decode cX4_init 1 = .ok (.invokespecial 3, 3) := by decide +kernel
theorem dX4_init_4 : decode cX4_init 4 = .ok (.aload_n 0, 1) := by decide +kernel
theorem dX4_init_5 : decode cX4_init 5 = .ok (.bipush 12, 2) := by decide +kernel
theorem dX4_init_7 : decode cX4_init 7 = .ok (.newarray .int, 2) := by decide +kernel
theorem dX4_init_9 : decode cX4_init 9 = .ok (.putfield 9, 3) := by decide +kernel
theorem dX4_init_12 : decode cX4_init 12 = .ok (.aload_n 0, 1) := by decide +kernel
theorem dX4_init_13 : decode cX4_init 13 = .ok (.iconst 0, 1) := by decide +kernel
theorem dX4_init_14 : decode cX4_init 14 = .ok (.putfield 15, 3) := by decide +kernel
theorem dX4_init_17 : decode cX4_init 17 = .ok (.return_, 1) := by decide +kernel
theorem dX4_has_0 : decode cX4_has 0 = .ok (.iload_n 1, 1) := by decide +kernel
theorem dX4_has_1 : decode cX4_has 1 = .ok (.ifCond .lt 15, 3) := by decide +kernel
theorem dX4_has_4 : decode cX4_has 4 = .ok (.iload_n 1, 1) := by decide +kernel
theorem dX4_has_5 : decode cX4_has 5 = .ok (.aload_n 0, 1) := by decide +kernel
theorem dX4_has_6 : decode cX4_has 6 = .ok (.getfield 15, 3) := by decide +kernel
theorem dX4_has_9 : decode cX4_has 9 = .ok (.if_icmp .ge 7, 3) := by decide +kernel
theorem dX4_has_12 : decode cX4_has 12 = .ok (.iconst 1, 1) := by decide +kernel
theorem dX4_has_13 : decode cX4_has 13 = .ok (.goto 4, 3) := by decide +kernel
theorem dX4_has_16 : decode cX4_has 16 = .ok (.iconst 0, 1) := by decide +kernel
theorem dX4_has_17 : decode cX4_has 17 = .ok (.ireturn, 1) := by decide +kernel
set_option maxRecDepth 20000 in
theorem ggX4_hasVolume_X4_volumesOf : GoodIn wsX4_hasVolume wsX4_volumesOf := goodIn_r _ [5, 6, 7, 8, 9, 4, 10, 11, 12, 13] (by decide +kernel) (by decide +kernel)
set_option maxRecDepth 20000 in
theorem gX4_hasVolume_X4_volumesOf : GoodIn wsX4_hasVolume (wsV RX4 19 RX4 yX4_volumesOf wsX4_volumesOf) := goodIn_app (goodIn_of _ (by decide +kernel)) ggX4_hasVolume_X4_volumesOf
theorem dX4_hasVolume_0 : decode cX4_hasVolume 0 = .ok (.iload_n 2, 1) := by decide +kernel
theorem dX4_hasVolume_1 : decode cX4_hasVolume 1 = .ok (.ifCond .lt 16, 3) := by decide +kernel
theorem dX4_hasVolume_4 : decode cX4_hasVolume 4 = .ok (.iload_n 2, 1) := by decide +kernel
theorem dX4_hasVolume_5 : decode cX4_hasVolume 5 = .ok (.aload_n 0, 1) := by decide +kernel
theorem dX4_hasVolume_6 : decode cX4_hasVolume 6 = .ok (.iload_n 1, 1) := by decide +kernel
theorem dX4_hasVolume_7 : decode cX4_hasVolume 7 = .ok (.invokevirtual 19, 3) := by decide +kernel
theorem dX4_hasVolume_10 : decode cX4_hasVolume 10 = .ok (.if_icmp .ge 7, 3) := by decide +kernel
theorem dX4_hasVolume_13 : decode cX4_hasVolume 13 = .ok (.iconst 1, 1) := by decide +kernel
theorem dX4_hasVolume_14 : decode cX4_hasVolume 14 = .ok (.goto 4, 3) := by decide +kernel
theorem dX4_hasVolume_17 : decode cX4_hasVolume 17 = .ok (.iconst 0, 1) := by decide +kernel
theorem dX4_hasVolume_18 : decode cX4_hasVolume 18 = .ok (.ireturn, 1) := by decide +kernel
set_option maxRecDepth 20000 in
theorem ggX4_volumesOf_X4_has : GoodIn wsX4_volumesOf wsX4_has := goodIn_r _ [6, 7, 8, 9] (by decide +kernel) (by decide +kernel)
set_option maxRecDepth 20000 in
theorem gX4_volumesOf_X4_has : GoodIn wsX4_volumesOf (wsV RX4 23 RX4 yX4_has wsX4_has) := goodIn_app (goodIn_of _ (by decide +kernel)) ggX4_volumesOf_X4_has
theorem dX4_volumesOf_0 : decode cX4_volumesOf 0 = .ok (.aload_n 0, 1) := by decide +kernel
theorem dX4_volumesOf_1 : decode cX4_volumesOf 1 = .ok (.iload_n 1, 1) := by decide +kernel
theorem dX4_volumesOf_2 : decode cX4_volumesOf 2 = .ok (.invokevirtual 23, 3) := by decide +kernel
theorem dX4_volumesOf_5 : decode cX4_volumesOf 5 = .ok (.ifCond .eq 12, 3) := by decide +kernel
theorem dX4_volumesOf_8 : decode cX4_volumesOf 8 = .ok (.aload_n 0, 1) := by decide +kernel
theorem dX4_volumesOf_9 : decode cX4_volumesOf 9 = .ok (.getfield 9, 3) := by decide +kernel
theorem dX4_volumesOf_12 : decode cX4_volumesOf 12 = .ok (.iload_n 1, 1) := by decide +kernel
theorem dX4_volumesOf_13 : decode cX4_volumesOf 13 = .ok (.iaload, 1) := by decide +kernel
theorem dX4_volumesOf_14 : decode cX4_volumesOf 14 = .ok (.goto 4, 3) := by decide +kernel
theorem dX4_volumesOf_17 : decode cX4_volumesOf 17 = .ok (.iconst 0, 1) := by decide +kernel
theorem dX4_volumesOf_18 : decode cX4_volumesOf 18 = .ok (.ireturn, 1) := by decide +kernel
theorem dX4_add_0 : decode cX4_add 0 = .ok (.aload_n 0, 1) := by decide +kernel
theorem dX4_add_1 : decode cX4_add 1 = .ok (.getfield 9, 3) := by decide +kernel
theorem dX4_add_4 : decode cX4_add 4 = .ok (.aload_n 0, 1) := by decide +kernel
theorem dX4_add_5 : decode cX4_add 5 = .ok (.getfield 15, 3) := by decide +kernel
theorem dX4_add_8 : decode cX4_add 8 = .ok (.iload_n 1, 1) := by decide +kernel
theorem dX4_add_9 : decode cX4_add 9 = .ok (.iastore, 1) := by decide +kernel
theorem dX4_add_10 : decode cX4_add 10 = .ok (.aload_n 0, 1) := by decide +kernel
theorem dX4_add_11 : decode cX4_add 11 = .ok (.dup, 1) := by decide +kernel
theorem dX4_add_12 : decode cX4_add 12 = .ok (.getfield 15, 3) := by decide +kernel
theorem dX4_add_15 : decode cX4_add 15 = .ok (.iconst 1, 1) := by decide +kernel
theorem dX4_add_16 : decode cX4_add 16 = .ok (.iadd, 1) := by decide +kernel
theorem dX4_add_17 : decode cX4_add 17 = .ok (.putfield 15, 3) := by decide +kernel
theorem dX4_add_20 : decode cX4_add 20 = .ok (.aload_n 0, 1) := by decide +kernel
theorem dX4_add_21 : decode cX4_add 21 = .ok (.getfield 15, 3) := by decide +kernel
theorem dX4_add_24 : decode cX4_add 24 = .ok (.iconst 1, 1) := by decide +kernel
theorem dX4_add_25 : decode cX4_add 25 = .ok (.isub, 1) := by decide +kernel
theorem dX4_add_26 : decode cX4_add 26 = .ok (.ireturn, 1) := by decide +kernel
theorem dX5_init_0 : decode cX5_init 0 = .ok (.aload_n 0, 1) := by decide +kernel
theorem dX5_init_1 : decode cX5_init 1 = .ok (.invokespecial 3, 3) := by decide +kernel
theorem dX5_init_4 : decode cX5_init 4 = .ok (.aload_n 0, 1) := by decide +kernel
theorem dX5_init_5 : decode cX5_init 5 = .ok (.bipush 100, 2) := by decide +kernel
theorem dX5_init_7 : decode cX5_init 7 = .ok (.newarray .int, 2) := by decide +kernel
theorem dX5_init_9 : decode cX5_init 9 = .ok (.putfield 9, 3) := by decide +kernel
theorem dX5_init_12 : decode cX5_init 12 = .ok (.aload_n 0, 1) := by decide +kernel
theorem dX5_init_13 : decode cX5_init 13 = .ok (.bipush 100, 2) := by decide +kernel
theorem dX5_init_15 : decode cX5_init 15 = .ok (.newarray .int, 2) := by decide +kernel
theorem dX5_init_17 : decode cX5_init 17 = .ok (.putfield 15, 3) := by decide +kernel
theorem dX5_init_20 : decode cX5_init 20 = .ok (.aload_n 0, 1) := by decide +kernel
theorem dX5_init_21 : decode cX5_init 21 = .ok (.bipush 100, 2) := by decide +kernel
theorem dX5_init_23 : decode cX5_init 23 = .ok (.newarray .int, 2) := by decide +kernel
theorem dX5_init_25 : decode cX5_init 25 = .ok (.putfield 18, 3) := by decide +kernel
theorem dX5_init_28 : decode cX5_init 28 = .ok (.aload_n 0, 1) := by decide +kernel
theorem dX5_init_29 : decode cX5_init 29 = .ok (.bipush 100, 2) := by decide +kernel
theorem dX5_init_31 : decode cX5_init 31 = .ok (.newarray .int, 2) := by decide +kernel
theorem dX5_init_33 : decode cX5_init 33 = .ok (.putfield 21, 3) := by decide +kernel
theorem dX5_init_36 : decode cX5_init 36 = .ok (.aload_n 0, 1) := by decide +kernel
theorem dX5_init_37 : decode cX5_init 37 = .ok (.bipush 100, 2) := by decide +kernel
theorem dX5_init_39 : decode cX5_init 39 = .ok (.newarray .int, 2) := by decide +kernel
theorem dX5_init_41 : decode cX5_init 41 = .ok (.putfield 24, 3) := by decide +kernel
theorem dX5_init_44 : decode cX5_init 44 = .ok (.aload_n 0, 1) := by decide +kernel
theorem dX5_init_45 : decode cX5_init 45 = .ok (.bipush 100, 2) := by decide +kernel
theorem dX5_init_47 : decode cX5_init 47 = .ok (.newarray .int, 2) := by decide +kernel
theorem dX5_init_49 : decode cX5_init 49 = .ok (.putfield 27, 3) := by decide +kernel
theorem dX5_init_52 : decode cX5_init 52 = .ok (.aload_n 0, 1) := by decide +kernel
theorem dX5_init_53 : decode cX5_init 53 = .ok (.iconst 0, 1) := by decide +kernel
theorem dX5_init_54 : decode cX5_init 54 = .ok (.putfield 30, 3) := by decide +kernel
theorem dX5_init_57 : decode cX5_init 57 = .ok (.return_, 1) := by decide +kernel
theorem dX5_has_0 : decode cX5_has 0 = .ok (.iload_n 1, 1) := by decide +kernel
theorem dX5_has_1 : decode cX5_has 1 = .ok (.ifCond .lt 15, 3) := by decide +kernel
theorem dX5_has_4 : decode cX5_has 4 = .ok (.iload_n 1, 1) := by decide +kernel
theorem dX5_has_5 : decode cX5_has 5 = .ok (.aload_n 0, 1) := by decide +kernel
theorem dX5_has_6 : decode cX5_has 6 = .ok (.getfield 30, 3) := by decide +kernel
theorem dX5_has_9 : decode cX5_has 9 = .ok (.if_icmp .ge 7, 3) := by decide +kernel
theorem dX5_has_12 : decode cX5_has 12 = .ok (.iconst 1, 1) := by decide +kernel
theorem dX5_has_13 : decode cX5_has 13 = .ok (.goto 4, 3) := by decide +kernel
theorem dX5_has_16 : decode cX5_has 16 = .ok (.iconst 0, 1) := by decide +kernel
theorem dX5_has_17 : decode cX5_has 17 = .ok (.ireturn, 1) := by decide +kernel
set_option maxRecDepth 20000 in
theorem ggX5_isOpen_X5_has : GoodIn wsX5_isOpen wsX5_has := goodIn_r _ [6, 7, 8, 9, 10, 11, 12, 13, 14] (by decide +kernel) (by decide +kernel)
set_option maxRecDepth 20000 in
theorem gX5_isOpen_X5_has : GoodIn wsX5_isOpen (wsV RX5 34 RX5 yX5_has wsX5_has) := goodIn_app (goodIn_of _ (by decide +kernel)) ggX5_isOpen_X5_has
theorem dX5_isOpen_0 : decode cX5_isOpen 0 = .ok (.aload_n 0, 1) := by decide +kernel
theorem dX5_isOpen_1 : decode cX5_isOpen 1 = .ok (.iload_n 1, 1) := by decide +kernel
theorem dX5_isOpen_2 : decode cX5_isOpen 2 = .ok (.invokevirtual 34, 3) := by decide +kernel
theorem dX5_isOpen_5 : decode cX5_isOpen 5 = .ok (.ifCond .eq 16, 3) := by decide +kernel
theorem dX5_isOpen_8 : decode cX5_isOpen 8 = .ok (.aload_n 0, 1) := by decide +kernel
theorem dX5_isOpen_9 : decode cX5_isOpen 9 = .ok (.getfield 18, 3) := by decide +kernel
theorem dX5_isOpen_12 : decode cX5_isOpen 12 = .ok (.iload_n 1, 1) := by decide +kernel
theorem dX5_isOpen_13 : decode cX5_isOpen 13 = .ok (.iaload, 1) := by decide +kernel
theorem dX5_isOpen_14 : decode cX5_isOpen 14 = .ok (.ifCond .ne 7, 3) := by decide +kernel
theorem dX5_isOpen_17 : decode cX5_isOpen 17 = .ok (.iconst 1, 1) := by decide +kernel
theorem dX5_isOpen_18 : decode cX5_isOpen 18 = .ok (.goto 4, 3) := by decide +kernel
theorem dX5_isOpen_21 : decode cX5_isOpen 21 = .ok (.iconst 0, 1) := by decide +kernel
theorem dX5_isOpen_22 : decode cX5_isOpen 22 = .ok (.ireturn, 1) := by decide +kernel
set_option maxRecDepth 20000 in
theorem ggX5_waits_X5_isOpen : GoodIn wsX5_waits wsX5_isOpen := goodIn_r _ [6, 7, 8, 9, 10, 5, 11, 12, 13, 14, 15, 16, 17, 18, 19] (by decide +kernel) (by decide +kernel)
set_option maxRecDepth 20000 in
theorem gX5_waits_X5_isOpen : GoodIn wsX5_waits (wsV RX5 38 RX5 yX5_isOpen wsX5_isOpen) := goodIn_app (goodIn_of _ (by decide +kernel)) ggX5_waits_X5_isOpen
theorem dX5_waits_0 : decode cX5_waits 0 = .ok (.aload_n 0, 1) := by decide +kernel
theorem dX5_waits_1 : decode cX5_waits 1 = .ok (.iload_n 1, 1) := by decide +kernel
theorem dX5_waits_2 : decode cX5_waits 2 = .ok (.invokevirtual 38, 3) := by decide +kernel
theorem dX5_waits_5 : decode cX5_waits 5 = .ok (.ifCond .eq 17, 3) := by decide +kernel
theorem dX5_waits_8 : decode cX5_waits 8 = .ok (.aload_n 0, 1) := by decide +kernel
theorem dX5_waits_9 : decode cX5_waits 9 = .ok (.getfield 24, 3) := by decide +kernel
theorem dX5_waits_12 : decode cX5_waits 12 = .ok (.iload_n 1, 1) := by decide +kernel
theorem dX5_waits_13 : decode cX5_waits 13 = .ok (.iaload, 1) := by decide +kernel
theorem dX5_waits_14 : decode cX5_waits 14 = .ok (.iconst (-1), 1) := by decide +kernel
theorem dX5_waits_15 : decode cX5_waits 15 = .ok (.if_icmp .ne 7, 3) := by decide +kernel
theorem dX5_waits_18 : decode cX5_waits 18 = .ok (.iconst 1, 1) := by decide +kernel
theorem dX5_waits_19 : decode cX5_waits 19 = .ok (.goto 4, 3) := by decide +kernel
theorem dX5_waits_22 : decode cX5_waits 22 = .ok (.iconst 0, 1) := by decide +kernel
theorem dX5_waits_23 : decode cX5_waits 23 = .ok (.ireturn, 1) := by decide +kernel
theorem dX5_add_0 : decode cX5_add 0 = .ok (.aload_n 0, 1) := by decide +kernel
theorem dX5_add_1 : decode cX5_add 1 = .ok (.getfield 30, 3) := by decide +kernel
theorem dX5_add_4 : decode cX5_add 4 = .ok (.istore 4, 2) := by decide +kernel
theorem dX5_add_6 : decode cX5_add 6 = .ok (.aload_n 0, 1) := by decide +kernel
theorem dX5_add_7 : decode cX5_add 7 = .ok (.dup, 1) := by decide +kernel
theorem dX5_add_8 : decode cX5_add 8 = .ok (.getfield 30, 3) := by decide +kernel
theorem dX5_add_11 : decode cX5_add 11 = .ok (.iconst 1, 1) := by decide +kernel
theorem dX5_add_12 : decode cX5_add 12 = .ok (.iadd, 1) := by decide +kernel
theorem dX5_add_13 : decode cX5_add 13 = .ok (.putfield 30, 3) := by decide +kernel
theorem dX5_add_16 : decode cX5_add 16 = .ok (.aload_n 0, 1) := by decide +kernel
theorem dX5_add_17 : decode cX5_add 17 = .ok (.getfield 9, 3) := by decide +kernel
theorem dX5_add_20 : decode cX5_add 20 = .ok (.iload 4, 2) := by decide +kernel
theorem dX5_add_22 : decode cX5_add 22 = .ok (.iload_n 1, 1) := by decide +kernel
theorem dX5_add_23 : decode cX5_add 23 = .ok (.iastore, 1) := by decide +kernel
theorem dX5_add_24 : decode cX5_add 24 = .ok (.aload_n 0, 1) := by decide +kernel
theorem dX5_add_25 : decode cX5_add 25 = .ok (.getfield 15, 3) := by decide +kernel
theorem dX5_add_28 : decode cX5_add 28 = .ok (.iload 4, 2) := by decide +kernel
theorem dX5_add_30 : decode cX5_add 30 = .ok (.iload_n 2, 1) := by decide +kernel
theorem dX5_add_31 : decode cX5_add 31 = .ok (.iastore, 1) := by decide +kernel
theorem dX5_add_32 : decode cX5_add 32 = .ok (.aload_n 0, 1) := by decide +kernel
theorem dX5_add_33 : decode cX5_add 33 = .ok (.getfield 18, 3) := by decide +kernel
theorem dX5_add_36 : decode cX5_add 36 = .ok (.iload 4, 2) := by decide +kernel
theorem dX5_add_38 : decode cX5_add 38 = .ok (.iconst 0, 1) := by decide +kernel
theorem dX5_add_39 : decode cX5_add 39 = .ok (.iastore, 1) := by decide +kernel
theorem dX5_add_40 : decode cX5_add 40 = .ok (.aload_n 0, 1) := by decide +kernel
theorem dX5_add_41 : decode cX5_add 41 = .ok (.getfield 21, 3) := by decide +kernel
theorem dX5_add_44 : decode cX5_add 44 = .ok (.iload 4, 2) := by decide +kernel
theorem dX5_add_46 : decode cX5_add 46 = .ok (.iconst 0, 1) := by decide +kernel
theorem dX5_add_47 : decode cX5_add 47 = .ok (.iastore, 1) := by decide +kernel
theorem dX5_add_48 : decode cX5_add 48 = .ok (.aload_n 0, 1) := by decide +kernel
theorem dX5_add_49 : decode cX5_add 49 = .ok (.getfield 24, 3) := by decide +kernel
theorem dX5_add_52 : decode cX5_add 52 = .ok (.iload 4, 2) := by decide +kernel
theorem dX5_add_54 : decode cX5_add 54 = .ok (.iconst (-1), 1) := by decide +kernel
theorem dX5_add_55 : decode cX5_add 55 = .ok (.iastore, 1) := by decide +kernel
theorem dX5_add_56 : decode cX5_add 56 = .ok (.aload_n 0, 1) := by decide +kernel
theorem dX5_add_57 : decode cX5_add 57 = .ok (.getfield 27, 3) := by decide +kernel
theorem dX5_add_60 : decode cX5_add 60 = .ok (.iload 4, 2) := by decide +kernel
theorem dX5_add_62 : decode cX5_add 62 = .ok (.iload_n 3, 1) := by decide +kernel
theorem dX5_add_63 : decode cX5_add 63 = .ok (.iastore, 1) := by decide +kernel
theorem dX5_add_64 : decode cX5_add 64 = .ok (.iload 4, 2) := by decide +kernel
theorem dX5_add_66 : decode cX5_add 66 = .ok (.ireturn, 1) := by decide +kernel
theorem dX5_hasOpen_0 : decode cX5_hasOpen 0 = .ok (.iconst 0, 1) := by decide +kernel
theorem dX5_hasOpen_1 : decode cX5_hasOpen 1 = .ok (.istore_n 3, 1) := by decide +kernel
theorem dX5_hasOpen_2 : decode cX5_hasOpen 2 = .ok (.iload_n 3, 1) := by decide +kernel
theorem dX5_hasOpen_3 : decode cX5_hasOpen 3 = .ok (.aload_n 0, 1) := by decide +kernel
theorem dX5_hasOpen_4 : decode cX5_hasOpen 4 = .ok (.getfield 30, 3) := by decide +kernel
theorem dX5_hasOpen_7 : decode cX5_hasOpen 7 = .ok (.if_icmp .ge 40, 3) := by decide +kernel
theorem dX5_hasOpen_10 : decode cX5_hasOpen 10 = .ok (.aload_n 0, 1) := by decide +kernel
theorem dX5_hasOpen_11 : decode cX5_hasOpen 11 = .ok (.getfield 18, 3) := by decide +kernel
theorem dX5_hasOpen_14 : decode cX5_hasOpen 14 = .ok (.iload_n 3, 1) := by decide +kernel
theorem dX5_hasOpen_15 : decode cX5_hasOpen 15 = .ok (.iaload, 1) := by decide +kernel
theorem dX5_hasOpen_16 : decode cX5_hasOpen 16 = .ok (.ifCond .ne 25, 3) := by decide +kernel
theorem dX5_hasOpen_19 : decode cX5_hasOpen 19 = .ok (.aload_n 0, 1) := by decide +kernel
theorem dX5_hasOpen_20 : decode cX5_hasOpen 20 = .ok (.getfield 9, 3) := by decide +kernel
theorem dX5_hasOpen_23 : decode cX5_hasOpen 23 = .ok (.iload_n 3, 1) := by decide +kernel
theorem dX5_hasOpen_24 : decode cX5_hasOpen 24 = .ok (.iaload, 1) := by decide +kernel
theorem dX5_hasOpen_25 : decode cX5_hasOpen 25 = .ok (.iload_n 1, 1) := by decide +kernel
theorem dX5_hasOpen_26 : decode cX5_hasOpen 26 = .ok (.if_icmp .ne 15, 3) := by decide +kernel
theorem dX5_hasOpen_29 : decode cX5_hasOpen 29 = .ok (.aload_n 0, 1) := by decide +kernel
theorem dX5_hasOpen_30 : decode cX5_hasOpen 30 = .ok (.getfield 15, 3) := by decide +kernel
theorem dX5_hasOpen_33 : decode cX5_hasOpen 33 = .ok (.iload_n 3, 1) := by decide +kernel
theorem dX5_hasOpen_34 : decode cX5_hasOpen 34 = .ok (.iaload, 1) := by decide +kernel
theorem dX5_hasOpen_35 : decode cX5_hasOpen 35 = .ok (.iload_n 2, 1) := by decide +kernel
theorem dX5_hasOpen_36 : decode cX5_hasOpen 36 = .ok (.if_icmp .ne 5, 3) := by decide +kernel
theorem dX5_hasOpen_39 : decode cX5_hasOpen 39 = .ok (.iconst 1, 1) := by decide +kernel
theorem dX5_hasOpen_40 : decode cX5_hasOpen 40 = .ok (.ireturn, 1) := by decide +kernel
theorem dX5_hasOpen_41 : decode cX5_hasOpen 41 = .ok (.iinc 3 1, 3) := by decide +kernel
theorem dX5_hasOpen_44 : decode cX5_hasOpen 44 = .ok (.goto (-42), 3) := by decide +kernel
theorem dX5_hasOpen_47 : decode cX5_hasOpen 47 = .ok (.iconst 0, 1) := by decide +kernel
theorem dX5_hasOpen_48 : decode cX5_hasOpen 48 = .ok (.ireturn, 1) := by decide +kernel
theorem dX5_openOf_0 : decode cX5_openOf 0 = .ok (.iconst 0, 1) := by decide +kernel
theorem dX5_openOf_1 : decode cX5_openOf 1 = .ok (.istore_n 2, 1) := by decide +kernel
theorem dX5_openOf_2 : decode cX5_openOf 2 = .ok (.iconst 0, 1) := by decide +kernel
theorem dX5_openOf_3 : decode cX5_openOf 3 = .ok (.istore_n 3, 1) := by decide +kernel
theorem dX5_openOf_4 : decode cX5_openOf 4 = .ok (.iload_n 3, 1) := by decide +kernel
theorem dX5_openOf_5 : decode cX5_openOf 5 = .ok (.aload_n 0, 1) := by decide +kernel
theorem dX5_openOf_6 : decode cX5_openOf 6 = .ok (.getfield 30, 3) := by decide +kernel
theorem dX5_openOf_9 : decode cX5_openOf 9 = .ok (.if_icmp .ge 31, 3) := by decide +kernel
theorem dX5_openOf_12 : decode cX5_openOf 12 = .ok (.aload_n 0, 1) := by decide +kernel
theorem dX5_openOf_13 : decode cX5_openOf 13 = .ok (.getfield 18, 3) := by decide +kernel
theorem dX5_openOf_16 : decode cX5_openOf 16 = .ok (.iload_n 3, 1) := by decide +kernel
theorem dX5_openOf_17 : decode cX5_openOf 17 = .ok (.iaload, 1) := by decide +kernel
theorem dX5_openOf_18 : decode cX5_openOf 18 = .ok (.ifCond .ne 16, 3) := by decide +kernel
theorem dX5_openOf_21 : decode cX5_openOf 21 = .ok (.aload_n 0, 1) := by decide +kernel
theorem dX5_openOf_22 : decode cX5_openOf 22 = .ok (.getfield 9, 3) := by decide +kernel
theorem dX5_openOf_25 : decode cX5_openOf 25 = .ok (.iload_n 3, 1) := by decide +kernel
theorem dX5_openOf_26 : decode cX5_openOf 26 = .ok (.iaload, 1) := by decide +kernel
theorem dX5_openOf_27 : decode cX5_openOf 27 = .ok (.iload_n 1, 1) := by decide +kernel
theorem dX5_openOf_28 : decode cX5_openOf 28 = .ok (.if_icmp .ne 6, 3) := by decide +kernel
theorem dX5_openOf_31 : decode cX5_openOf 31 = .ok (.iinc 2 1, 3) := by decide +kernel
theorem dX5_openOf_34 : decode cX5_openOf 34 = .ok (.iinc 3 1, 3) := by decide +kernel
theorem dX5_openOf_37 : decode cX5_openOf 37 = .ok (.goto (-33), 3) := by decide +kernel
theorem dX5_openOf_40 : decode cX5_openOf 40 = .ok (.iload_n 2, 1) := by decide +kernel
theorem dX5_openOf_41 : decode cX5_openOf 41 = .ok (.ireturn, 1) := by decide +kernel
set_option maxRecDepth 20000 in
theorem ggX5_waitingFor_X5_waits : GoodIn wsX5_waitingFor wsX5_waits := goodIn_r _ [8, 9, 10, 11, 12, 7, 13, 14, 15, 16, 17, 18, 1, 19, 20, 21, 22, 23, 24, 25] (by decide +kernel) (by decide +kernel)
set_option maxRecDepth 20000 in
theorem gX5_waitingFor_X5_waits : GoodIn wsX5_waitingFor (wsV RX5 41 RX5 yX5_waits wsX5_waits) := goodIn_app (goodIn_of _ (by decide +kernel)) ggX5_waitingFor_X5_waits
theorem dX5_waitingFor_0 : decode cX5_waitingFor 0 = .ok (.iconst 0, 1) := by decide +kernel
theorem dX5_waitingFor_1 : decode cX5_waitingFor 1 = .ok (.istore_n 3, 1) := by decide +kernel
theorem dX5_waitingFor_2 : decode cX5_waitingFor 2 = .ok (.iconst 0, 1) := by decide +kernel
theorem dX5_waitingFor_3 : decode cX5_waitingFor 3 = .ok (.istore 4, 2) := by decide +kernel
theorem dX5_waitingFor_5 : decode cX5_waitingFor 5 = .ok (.iload 4, 2) := by decide +kernel
theorem dX5_waitingFor_7 : decode cX5_waitingFor 7 = .ok (.aload_n 0, 1) := by decide +kernel
theorem dX5_waitingFor_8 : decode cX5_waitingFor 8 = .ok (.getfield 30, 3) := by decide +kernel
theorem dX5_waitingFor_11 : decode cX5_waitingFor 11 = .ok (.if_icmp .ge 43, 3) := by decide +kernel
theorem dX5_waitingFor_14 : decode cX5_waitingFor 14 = .ok (.aload_n 0, 1) := by decide +kernel
theorem dX5_waitingFor_15 : decode cX5_waitingFor 15 = .ok (.iload 4, 2) := by decide +kernel
theorem dX5_waitingFor_17 : decode cX5_waitingFor 17 = .ok (.invokevirtual 41, 3) := by decide +kernel
theorem dX5_waitingFor_20 : decode cX5_waitingFor 20 = .ok (.ifCond .eq 28, 3) := by decide +kernel
theorem dX5_waitingFor_23 : decode cX5_waitingFor 23 = .ok (.aload_n 0, 1) := by decide +kernel
theorem dX5_waitingFor_24 : decode cX5_waitingFor 24 = .ok (.getfield 15, 3) := by decide +kernel
theorem dX5_waitingFor_27 : decode cX5_waitingFor 27 = .ok (.iload 4, 2) := by decide +kernel
theorem dX5_waitingFor_29 : decode cX5_waitingFor 29 = .ok (.iaload, 1) := by decide +kernel
theorem dX5_waitingFor_30 : decode cX5_waitingFor 30 = .ok (.iload_n 1, 1) := by decide +kernel
theorem dX5_waitingFor_31 : decode cX5_waitingFor 31 = .ok (.if_icmp .ne 17, 3) := by decide +kernel
theorem dX5_waitingFor_34 : decode cX5_waitingFor 34 = .ok (.aload_n 0, 1) := by decide +kernel
theorem dX5_waitingFor_35 : decode cX5_waitingFor 35 = .ok (.getfield 21, 3) := by decide +kernel
theorem dX5_waitingFor_38 : decode cX5_waitingFor 38 = .ok (.iload 4, 2) := by decide +kernel
theorem dX5_waitingFor_40 : decode cX5_waitingFor 40 = .ok (.iaload, 1) := by decide +kernel
theorem dX5_waitingFor_41 : decode cX5_waitingFor 41 = .ok (.iload_n 2, 1) := by decide +kernel
theorem dX5_waitingFor_42 : decode cX5_waitingFor 42 = .ok (.if_icmp .ne 6, 3) := by decide +kernel
theorem dX5_waitingFor_45 : decode cX5_waitingFor 45 = .ok (.iinc 3 1, 3) := by decide +kernel
theorem dX5_waitingFor_48 : decode cX5_waitingFor 48 = .ok (.iinc 4 1, 3) := by decide +kernel
theorem dX5_waitingFor_51 : decode cX5_waitingFor 51 = .ok (.goto (-46), 3) := by decide +kernel
theorem dX5_waitingFor_54 : decode cX5_waitingFor 54 = .ok (.iload_n 3, 1) := by decide +kernel
theorem dX5_waitingFor_55 : decode cX5_waitingFor 55 = .ok (.ireturn, 1) := by decide +kernel
theorem dX5_countAsHad_0 : decode cX5_countAsHad 0 = .ok (.aload_n 0, 1) := by decide +kernel
theorem dX5_countAsHad_1 : decode cX5_countAsHad 1 = .ok (.getfield 24, 3) := by decide +kernel
theorem dX5_countAsHad_4 : decode cX5_countAsHad 4 = .ok (.iload_n 1, 1) := by decide +kernel
theorem dX5_countAsHad_5 : decode cX5_countAsHad 5 = .ok (.iconst (-1), 1) := by decide +kernel
theorem dX5_countAsHad_6 : decode cX5_countAsHad 6 = .ok (.iastore, 1) := by decide +kernel
theorem dX5_countAsHad_7 : decode cX5_countAsHad 7 = .ok (.aload_n 0, 1) := by decide +kernel
theorem dX5_countAsHad_8 : decode cX5_countAsHad 8 = .ok (.getfield 21, 3) := by decide +kernel
theorem dX5_countAsHad_11 : decode cX5_countAsHad 11 = .ok (.iload_n 1, 1) := by decide +kernel
theorem dX5_countAsHad_12 : decode cX5_countAsHad 12 = .ok (.dup2, 1) := by decide +kernel
theorem dX5_countAsHad_13 : decode cX5_countAsHad 13 = .ok (.iaload, 1) := by decide +kernel
theorem dX5_countAsHad_14 : decode cX5_countAsHad 14 = .ok (.iconst 1, 1) := by decide +kernel
theorem dX5_countAsHad_15 : decode cX5_countAsHad 15 = .ok (.iadd, 1) := by decide +kernel
theorem dX5_countAsHad_16 : decode cX5_countAsHad 16 = .ok (.iastore, 1) := by decide +kernel
theorem dX5_countAsHad_17 : decode cX5_countAsHad 17 = .ok (.aload_n 0, 1) := by decide +kernel
theorem dX5_countAsHad_18 : decode cX5_countAsHad 18 = .ok (.getfield 27, 3) := by decide +kernel
theorem dX5_countAsHad_21 : decode cX5_countAsHad 21 = .ok (.iload_n 1, 1) := by decide +kernel
theorem dX5_countAsHad_22 : decode cX5_countAsHad 22 = .ok (.iload_n 3, 1) := by decide +kernel
theorem dX5_countAsHad_23 : decode cX5_countAsHad 23 = .ok (.iastore, 1) := by decide +kernel
theorem dX5_countAsHad_24 : decode cX5_countAsHad 24 = .ok (.aload_n 0, 1) := by decide +kernel
theorem dX5_countAsHad_25 : decode cX5_countAsHad 25 = .ok (.getfield 18, 3) := by decide +kernel
theorem dX5_countAsHad_28 : decode cX5_countAsHad 28 = .ok (.iload_n 1, 1) := by decide +kernel
theorem dX5_countAsHad_29 : decode cX5_countAsHad 29 = .ok (.iaload, 1) := by decide +kernel
theorem dX5_countAsHad_30 : decode cX5_countAsHad 30 = .ok (.ifCond .ne 20, 3) := by decide +kernel
theorem dX5_countAsHad_33 : decode cX5_countAsHad 33 = .ok (.aload_n 0, 1) := by decide +kernel
theorem dX5_countAsHad_34 : decode cX5_countAsHad 34 = .ok (.getfield 21, 3) := by decide +kernel
theorem dX5_countAsHad_37 : decode cX5_countAsHad 37 = .ok (.iload_n 1, 1) := by decide +kernel
theorem dX5_countAsHad_38 : decode cX5_countAsHad 38 = .ok (.iaload, 1) := by decide +kernel
theorem dX5_countAsHad_39 : decode cX5_countAsHad 39 = .ok (.iload_n 2, 1) := by decide +kernel
theorem dX5_countAsHad_40 : decode cX5_countAsHad 40 = .ok (.if_icmp .lt 10, 3) := by decide +kernel
theorem dX5_countAsHad_43 : decode cX5_countAsHad 43 = .ok (.aload_n 0, 1) := by decide +kernel
theorem dX5_countAsHad_44 : decode cX5_countAsHad 44 = .ok (.getfield 18, 3) := by decide +kernel
theorem dX5_countAsHad_47 : decode cX5_countAsHad 47 = .ok (.iload_n 1, 1) := by decide +kernel
theorem dX5_countAsHad_48 : decode cX5_countAsHad 48 = .ok (.iconst 1, 1) := by decide +kernel
theorem dX5_countAsHad_49 : decode cX5_countAsHad 49 = .ok (.iastore, 1) := by decide +kernel
theorem dX5_countAsHad_50 : decode cX5_countAsHad 50 = .ok (.return_, 1) := by decide +kernel
