set_option maxRecDepth 20000 in
theorem ggX7_waiting_X7_isTitle : GoodIn wsX7_waiting wsX7_isTitle := goodIn_r _ [9, 10, 11, 12, 8, 13, 25, 26, 27, 28, 29, 30, 31, 32, 33, 34, 35, 36, 37, 38, 39, 40, 41, 42, 43, 44, 45, 46, 47, 48, 49, 50, 51, 52, 53, 54, 55, 56, 57, 58, 59] (by decide +kernel) (by decide +kernel)
set_option maxRecDepth 20000 in
theorem gX7_waiting_X7_isTitle : GoodIn wsX7_waiting (wsV RX7 105 RX7 yX7_isTitle wsX7_isTitle) := goodIn_app (goodIn_of _ (by decide +kernel)) ggX7_waiting_X7_isTitle
set_option maxRecDepth 20000 in
theorem ggX7_waiting_X7_in : GoodIn wsX7_waiting wsX7_in := goodIn_r _ [13] (by decide +kernel) (by decide +kernel)
set_option maxRecDepth 20000 in
theorem gX7_waiting_X7_in : GoodIn wsX7_waiting (va_wsS RX7 92 yX7_in wsX7_in) := goodIn_app (goodIn_of _ (by decide +kernel)) ggX7_waiting_X7_in
set_option maxRecDepth 20000 in
theorem ggX7_waiting_X7_waits : GoodIn wsX7_waiting wsX7_waits := goodIn_r _ [17, 18, 19, 20, 21, 8, 22, 23, 24, 25, 26, 27, 28, 29, 30, 31, 32, 33, 34, 35, 36, 37, 38, 39, 40, 41, 42, 43, 44, 45, 46, 47, 48, 49, 50, 51, 52, 53, 54, 55, 56, 57, 58, 59] (by decide +kernel) (by decide +kernel)
set_option maxRecDepth 20000 in
theorem gX7_waiting_X7_waits : GoodIn wsX7_waiting (wsV RX7 137 RX7 yX7_waits wsX7_waits) := goodIn_app (goodIn_of _ (by decide +kernel)) ggX7_waiting_X7_waits
theorem dX7_waiting_0 : decode cX7_waiting 0 = .ok (.aload_n 0, 1) := by decide +kernel
theorem dX7_waiting_1 : decode cX7_waiting 1 = .ok (.iload_n 1, 1) := by decide +kernel
theorem dX7_waiting_2 : decode cX7_waiting 2 = .ok (.invokevirtual 105, 3) := by decide +kernel
theorem dX7_waiting_5 : decode cX7_waiting 5 = .ok (.ifCond .eq 19, 3) := by decide +kernel
theorem dX7_waiting_8 : decode cX7_waiting 8 = .ok (.iload_n 2, 1) := by decide +kernel
theorem dX7_waiting_9 : decode cX7_waiting 9 = .ok (.iconst 0, 1) := by decide +kernel
theorem dX7_waiting_10 : decode cX7_waiting 10 = .ok (.aload_n 0, 1) := by decide +kernel
theorem dX7_waiting_11 : decode cX7_waiting 11 = .ok (.getfield 9, 3) := by decide +kernel
theorem dX7_waiting_14 : decode cX7_waiting 14 = .ok (.iload_n 1, 1) := by decide +kernel
theorem dX7_waiting_15 : decode cX7_waiting 15 = .ok (.iaload, 1) := by decide +kernel
theorem dX7_waiting_16 : decode cX7_waiting 16 = .ok (.iconst 1, 1) := by decide +kernel
theorem dX7_waiting_17 : decode cX7_waiting 17 = .ok (.isub, 1) := by decide +kernel
theorem dX7_waiting_18 : decode cX7_waiting 18 = .ok (.invokestatic 92, 3) := by decide +kernel
theorem dX7_waiting_21 : decode cX7_waiting 21 = .ok (.ifCond .ne 5, 3) := by decide +kernel
theorem dX7_waiting_24 : decode cX7_waiting 24 = .ok (.iconst (-1), 1) := by decide +kernel
theorem dX7_waiting_25 : decode cX7_waiting 25 = .ok (.ireturn, 1) := by decide +kernel
theorem dX7_waiting_26 : decode cX7_waiting 26 = .ok (.iconst 0, 1) := by decide +kernel
theorem dX7_waiting_27 : decode cX7_waiting 27 = .ok (.istore_n 3, 1) := by decide +kernel
theorem dX7_waiting_28 : decode cX7_waiting 28 = .ok (.iconst 0, 1) := by decide +kernel
theorem dX7_waiting_29 : decode cX7_waiting 29 = .ok (.istore 4, 2) := by decide +kernel
theorem dX7_waiting_31 : decode cX7_waiting 31 = .ok (.iload 4, 2) := by decide +kernel
theorem dX7_waiting_33 : decode cX7_waiting 33 = .ok (.aload_n 0, 1) := by decide +kernel
theorem dX7_waiting_34 : decode cX7_waiting 34 = .ok (.getfield 102, 3) := by decide +kernel
theorem dX7_waiting_37 : decode cX7_waiting 37 = .ok (.if_icmp .ge 48, 3) := by decide +kernel
theorem dX7_waiting_40 : decode cX7_waiting 40 = .ok (.iload_n 3, 1) := by decide +kernel
theorem dX7_waiting_41 : decode cX7_waiting 41 = .ok (.aload_n 0, 1) := by decide +kernel
theorem dX7_waiting_42 : decode cX7_waiting 42 = .ok (.getfield 55, 3) := by decide +kernel
theorem dX7_waiting_45 : decode cX7_waiting 45 = .ok (.iload 4, 2) := by decide +kernel
theorem dX7_waiting_47 : decode cX7_waiting 47 = .ok (.iaload, 1) := by decide +kernel
theorem dX7_waiting_48 : decode cX7_waiting 48 = .ok (.iload_n 1, 1) := by decide +kernel
theorem dX7_waiting_49 : decode cX7_waiting 49 = .ok (.if_icmp .ne 27, 3) := by decide +kernel
theorem dX7_waiting_52 : decode cX7_waiting 52 = .ok (.aload_n 0, 1) := by decide +kernel
theorem dX7_waiting_53 : decode cX7_waiting 53 = .ok (.getfield 61, 3) := by decide +kernel
theorem dX7_waiting_56 : decode cX7_waiting 56 = .ok (.iload 4, 2) := by decide +kernel
theorem dX7_waiting_58 : decode cX7_waiting 58 = .ok (.iaload, 1) := by decide +kernel
theorem dX7_waiting_59 : decode cX7_waiting 59 = .ok (.iload_n 2, 1) := by decide +kernel
theorem dX7_waiting_60 : decode cX7_waiting 60 = .ok (.if_icmp .ne 16, 3) := by decide +kernel
theorem dX7_waiting_63 : decode cX7_waiting 63 = .ok (.aload_n 0, 1) := by decide +kernel
theorem dX7_waiting_64 : decode cX7_waiting 64 = .ok (.iload 4, 2) := by decide +kernel
theorem dX7_waiting_66 : decode cX7_waiting 66 = .ok (.invokevirtual 137, 3) := by decide +kernel
theorem dX7_waiting_69 : decode cX7_waiting 69 = .ok (.ifCond .eq 7, 3) := by decide +kernel
theorem dX7_waiting_72 : decode cX7_waiting 72 = .ok (.iconst 1, 1) := by decide +kernel
theorem dX7_waiting_73 : decode cX7_waiting 73 = .ok (.goto 4, 3) := by decide +kernel
theorem dX7_waiting_76 : decode cX7_waiting 76 = .ok (.iconst 0, 1) := by decide +kernel
theorem dX7_waiting_77 : decode cX7_waiting 77 = .ok (.iadd, 1) := by decide +kernel
theorem dX7_waiting_78 : decode cX7_waiting 78 = .ok (.istore_n 3, 1) := by decide +kernel
theorem dX7_waiting_79 : decode cX7_waiting 79 = .ok (.iinc 4 1, 3) := by decide +kernel
theorem dX7_waiting_82 : decode cX7_waiting 82 = .ok (.goto (-51), 3) := by decide +kernel
theorem dX7_waiting_85 : decode cX7_waiting 85 = .ok (.iload_n 3, 1) := by decide +kernel
theorem dX7_waiting_86 : decode cX7_waiting 86 = .ok (.ireturn, 1) := by decide +kernel
set_option maxRecDepth 20000 in
theorem ggX7_sets_X7_isTitle : GoodIn wsX7_sets wsX7_isTitle := goodIn_r _ [10, 11, 12, 13, 9, 14, 15, 16, 17, 18, 19, 20, 21, 22, 23, 24, 25, 26, 27, 28, 29, 30, 31, 32, 33, 34, 35, 36, 37, 38, 39, 40, 41, 42, 43, 44, 45, 46, 47, 48, 49] (by decide +kernel) (by decide +kernel)
set_option maxRecDepth 20000 in
theorem gX7_sets_X7_isTitle : GoodIn wsX7_sets (wsV RX7 105 RX7 yX7_isTitle wsX7_isTitle) := goodIn_app (goodIn_of _ (by decide +kernel)) ggX7_sets_X7_isTitle
theorem dX7_sets_0 : decode cX7_sets 0 = .ok (.aload_n 0, 1) := by decide +kernel
theorem dX7_sets_1 : decode cX7_sets 1 = .ok (.iload_n 1, 1) := by decide +kernel
theorem dX7_sets_2 : decode cX7_sets 2 = .ok (.invokevirtual 105, 3) := by decide +kernel
theorem dX7_sets_5 : decode cX7_sets 5 = .ok (.ifCond .ne 5, 3) := by decide +kernel
theorem dX7_sets_8 : decode cX7_sets 8 = .ok (.iconst (-1), 1) := by decide +kernel
theorem dX7_sets_9 : decode cX7_sets 9 = .ok (.ireturn, 1) := by decide +kernel
theorem dX7_sets_10 : decode cX7_sets 10 = .ok (.sipush 200, 3) := by decide +kernel
theorem dX7_sets_13 : decode cX7_sets 13 = .ok (.istore_n 2, 1) := by decide +kernel
theorem dX7_sets_14 : decode cX7_sets 14 = .ok (.iconst 0, 1) := by decide +kernel
theorem dX7_sets_15 : decode cX7_sets 15 = .ok (.istore_n 3, 1) := by decide +kernel
theorem dX7_sets_16 : decode cX7_sets 16 = .ok (.iload_n 3, 1) := by decide +kernel
theorem dX7_sets_17 : decode cX7_sets 17 = .ok (.aload_n 0, 1) := by decide +kernel
theorem dX7_sets_18 : decode cX7_sets 18 = .ok (.getfield 9, 3) := by decide +kernel
theorem dX7_sets_21 : decode cX7_sets 21 = .ok (.iload_n 1, 1) := by decide +kernel
theorem dX7_sets_22 : decode cX7_sets 22 = .ok (.iaload, 1) := by decide +kernel
theorem dX7_sets_23 : decode cX7_sets 23 = .ok (.if_icmp .ge 82, 3) := by decide +kernel
theorem dX7_sets_26 : decode cX7_sets 26 = .ok (.iconst 0, 1) := by decide +kernel
theorem dX7_sets_27 : decode cX7_sets 27 = .ok (.istore 4, 2) := by decide +kernel
theorem dX7_sets_29 : decode cX7_sets 29 = .ok (.iconst 0, 1) := by decide +kernel
theorem dX7_sets_30 : decode cX7_sets 30 = .ok (.istore 5, 2) := by decide +kernel
theorem dX7_sets_32 : decode cX7_sets 32 = .ok (.iload 5, 2) := by decide +kernel
theorem dX7_sets_34 : decode cX7_sets 34 = .ok (.aload_n 0, 1) := by decide +kernel
theorem dX7_sets_35 : decode cX7_sets 35 = .ok (.getfield 99, 3) := by decide +kernel
theorem dX7_sets_38 : decode cX7_sets 38 = .ok (.if_icmp .ge 52, 3) := by decide +kernel
theorem dX7_sets_41 : decode cX7_sets 41 = .ok (.iload 4, 2) := by decide +kernel
theorem dX7_sets_43 : decode cX7_sets 43 = .ok (.aload_n 0, 1) := by decide +kernel
theorem dX7_sets_44 : decode cX7_sets 44 = .ok (.getfield 13, 3) := by decide +kernel
theorem dX7_sets_47 : decode cX7_sets 47 = .ok (.iload 5, 2) := by decide +kernel
theorem dX7_sets_49 : decode cX7_sets 49 = .ok (.iaload, 1) := by decide +kernel
theorem dX7_sets_50 : decode cX7_sets 50 = .ok (.iload_n 1, 1) := by decide +kernel
theorem dX7_sets_51 : decode cX7_sets 51 = .ok (.if_icmp .ne 29, 3) := by decide +kernel
theorem dX7_sets_54 : decode cX7_sets 54 = .ok (.aload_n 0, 1) := by decide +kernel
theorem dX7_sets_55 : decode cX7_sets 55 = .ok (.getfield 16, 3) := by decide +kernel
theorem dX7_sets_58 : decode cX7_sets 58 = .ok (.iload 5, 2) := by decide +kernel
theorem dX7_sets_60 : decode cX7_sets 60 = .ok (.iaload, 1) := by decide +kernel
theorem dX7_sets_61 : decode cX7_sets 61 = .ok (.iload_n 3, 1) := by decide +kernel
theorem dX7_sets_62 : decode cX7_sets 62 = .ok (.if_icmp .ne 18, 3) := by decide +kernel
theorem dX7_sets_65 : decode cX7_sets 65 = .ok (.aload_n 0, 1) := by decide +kernel
theorem dX7_sets_66 : decode cX7_sets 66 = .ok (.getfield 22, 3) := by decide +kernel
theorem dX7_sets_69 : decode cX7_sets 69 = .ok (.iload 5, 2) := by decide +kernel
theorem dX7_sets_71 : decode cX7_sets 71 = .ok (.iaload, 1) := by decide +kernel
theorem dX7_sets_72 : decode cX7_sets 72 = .ok (.iconst 4, 1) := by decide +kernel
theorem dX7_sets_73 : decode cX7_sets 73 = .ok (.if_icmp .ge 7, 3) := by decide +kernel
theorem dX7_sets_76 : decode cX7_sets 76 = .ok (.iconst 1, 1) := by decide +kernel
theorem dX7_sets_77 : decode cX7_sets 77 = .ok (.goto 4, 3) := by decide +kernel
theorem dX7_sets_80 : decode cX7_sets 80 = .ok (.iconst 0, 1) := by decide +kernel
theorem dX7_sets_81 : decode cX7_sets 81 = .ok (.iadd, 1) := by decide +kernel
theorem dX7_sets_82 : decode cX7_sets 82 = .ok (.istore 4, 2) := by decide +kernel
theorem dX7_sets_84 : decode cX7_sets 84 = .ok (.iinc 5 1, 3) := by decide +kernel
theorem dX7_sets_87 : decode cX7_sets 87 = .ok (.goto (-55), 3) := by decide +kernel
theorem dX7_sets_90 : decode cX7_sets 90 = .ok (.iload 4, 2) := by decide +kernel
theorem dX7_sets_92 : decode cX7_sets 92 = .ok (.iload_n 2, 1) := by decide +kernel
theorem dX7_sets_93 : decode cX7_sets 93 = .ok (.if_icmp .ge 6, 3) := by decide +kernel
theorem dX7_sets_96 : decode cX7_sets 96 = .ok (.iload 4, 2) := by decide +kernel
theorem dX7_sets_98 : decode cX7_sets 98 = .ok (.istore_n 2, 1) := by decide +kernel
theorem dX7_sets_99 : decode cX7_sets 99 = .ok (.iinc 3 1, 3) := by decide +kernel
theorem dX7_sets_102 : decode cX7_sets 102 = .ok (.goto (-86), 3) := by decide +kernel
theorem dX7_sets_105 : decode cX7_sets 105 = .ok (.iload_n 2, 1) := by decide +kernel
theorem dX7_sets_106 : decode cX7_sets 106 = .ok (.ireturn, 1) := by decide +kernel
set_option maxRecDepth 20000 in
theorem ggX7_demand_X7_in : GoodIn wsX7_demand wsX7_in := goodIn_r _ [6] (by decide +kernel) (by decide +kernel)
set_option maxRecDepth 20000 in
theorem gX7_demand_X7_in : GoodIn wsX7_demand (va_wsS RX7 92 yX7_in wsX7_in) := goodIn_app (goodIn_of _ (by decide +kernel)) ggX7_demand_X7_in
theorem dX7_demand_0 : decode cX7_demand 0 = .ok (.iload_n 1, 1) := by decide +kernel
theorem dX7_demand_1 : decode cX7_demand 1 = .ok (.iconst 0, 1) := by decide +kernel
theorem dX7_demand_2 : decode cX7_demand 2 = .ok (.bipush 20, 2) := by decide +kernel
theorem dX7_demand_4 : decode cX7_demand 4 = .ok (.invokestatic 92, 3) := by decide +kernel
theorem dX7_demand_7 : decode cX7_demand 7 = .ok (.ifCond .eq 34, 3) := by decide +kernel
theorem dX7_demand_10 : decode cX7_demand 10 = .ok (.iload_n 2, 1) := by decide +kernel
theorem dX7_demand_11 : decode cX7_demand 11 = .ok (.iconst 0, 1) := by decide +kernel
theorem dX7_demand_12 : decode cX7_demand 12 = .ok (.iload_n 1, 1) := by decide +kernel
theorem dX7_demand_13 : decode cX7_demand 13 = .ok (.bipush 20, 2) := by decide +kernel
theorem dX7_demand_15 : decode cX7_demand 15 = .ok (.if_icmp .ne 7, 3) := by decide +kernel
theorem dX7_demand_18 : decode cX7_demand 18 = .ok (.iconst 0, 1) := by decide +kernel
theorem dX7_demand_19 : decode cX7_demand 19 = .ok (.goto 5, 3) := by decide +kernel
theorem dX7_demand_22 : decode cX7_demand 22 = .ok (.bipush 50, 2) := by decide +kernel
theorem dX7_demand_24 : decode cX7_demand 24 = .ok (.invokestatic 92, 3) := by decide +kernel
theorem dX7_demand_27 : decode cX7_demand 27 = .ok (.ifCond .eq 14, 3) := by decide +kernel
theorem dX7_demand_30 : decode cX7_demand 30 = .ok (.iload_n 3, 1) := by decide +kernel
theorem dX7_demand_31 : decode cX7_demand 31 = .ok (.iconst 0, 1) := by decide +kernel
theorem dX7_demand_32 : decode cX7_demand 32 = .ok (.sipush 1000, 3) := by decide +kernel
theorem dX7_demand_35 : decode cX7_demand 35 = .ok (.invokestatic 92, 3) := by decide +kernel
theorem dX7_demand_38 : decode cX7_demand 38 = .ok (.ifCond .ne 5, 3) := by decide +kernel
theorem dX7_demand_41 : decode cX7_demand 41 = .ok (.iconst 0, 1) := by decide +kernel
theorem dX7_demand_42 : decode cX7_demand 42 = .ok (.ireturn, 1) := by decide +kernel
theorem dX7_demand_43 : decode cX7_demand 43 = .ok (.aload_n 0, 1) := by decide +kernel
theorem dX7_demand_44 : decode cX7_demand 44 = .ok (.getfield 82, 3) := by decide +kernel
theorem dX7_demand_47 : decode cX7_demand 47 = .ok (.iload_n 1, 1) := by decide +kernel
theorem dX7_demand_48 : decode cX7_demand 48 = .ok (.iload_n 2, 1) := by decide +kernel
theorem dX7_demand_49 : decode cX7_demand 49 = .ok (.iastore, 1) := by decide +kernel
theorem dX7_demand_50 : decode cX7_demand 50 = .ok (.aload_n 0, 1) := by decide +kernel
theorem dX7_demand_51 : decode cX7_demand 51 = .ok (.getfield 85, 3) := by decide +kernel
theorem dX7_demand_54 : decode cX7_demand 54 = .ok (.iload_n 1, 1) := by decide +kernel
theorem dX7_demand_55 : decode cX7_demand 55 = .ok (.iload_n 3, 1) := by decide +kernel
theorem dX7_demand_56 : decode cX7_demand 56 = .ok (.iastore, 1) := by decide +kernel
theorem dX7_demand_57 : decode cX7_demand 57 = .ok (.iconst 1, 1) := by decide +kernel
theorem dX7_demand_58 : decode cX7_demand 58 = .ok (.ireturn, 1) := by decide +kernel
theorem dX7_brings_0 : decode cX7_brings 0 = .ok (.aload_n 0, 1) := by decide +kernel
theorem dX7_brings_1 : decode cX7_brings 1 = .ok (.getfield 85, 3) := by decide +kernel
theorem dX7_brings_4 : decode cX7_brings 4 = .ok (.iload_n 3, 1) := by decide +kernel
theorem dX7_brings_5 : decode cX7_brings 5 = .ok (.iaload, 1) := by decide +kernel
theorem dX7_brings_6 : decode cX7_brings 6 = .ok (.istore 4, 2) := by decide +kernel
theorem dX7_brings_8 : decode cX7_brings 8 = .ok (.iconst 0, 1) := by decide +kernel
theorem dX7_brings_9 : decode cX7_brings 9 = .ok (.istore 5, 2) := by decide +kernel
theorem dX7_brings_11 : decode cX7_brings 11 = .ok (.iload 5, 2) := by decide +kernel
theorem dX7_brings_13 : decode cX7_brings 13 = .ok (.iload_n 3, 1) := by decide +kernel
theorem dX7_brings_14 : decode cX7_brings 14 = .ok (.if_icmp .ge 30, 3) := by decide +kernel
theorem dX7_brings_17 : decode cX7_brings 17 = .ok (.iload 4, 2) := by decide +kernel
theorem dX7_brings_19 : decode cX7_brings 19 = .ok (.aload_n 0, 1) := by decide +kernel
theorem dX7_brings_20 : decode cX7_brings 20 = .ok (.getfield 82, 3) := by decide +kernel
theorem dX7_brings_23 : decode cX7_brings 23 = .ok (.iload 5, 2) := by decide +kernel
theorem dX7_brings_25 : decode cX7_brings 25 = .ok (.iaload, 1) := by decide +kernel
theorem dX7_brings_26 : decode cX7_brings 26 = .ok (.iload_n 2, 1) := by decide +kernel
theorem dX7_brings_27 : decode cX7_brings 27 = .ok (.if_icmp .le 7, 3) := by decide +kernel
theorem dX7_brings_30 : decode cX7_brings 30 = .ok (.iload_n 1, 1) := by decide +kernel
theorem dX7_brings_31 : decode cX7_brings 31 = .ok (.goto 4, 3) := by decide +kernel
theorem dX7_brings_34 : decode cX7_brings 34 = .ok (.iconst 0, 1) := by decide +kernel
theorem dX7_brings_35 : decode cX7_brings 35 = .ok (.iadd, 1) := by decide +kernel
theorem dX7_brings_36 : decode cX7_brings 36 = .ok (.istore 4, 2) := by decide +kernel
theorem dX7_brings_38 : decode cX7_brings 38 = .ok (.iinc 5 1, 3) := by decide +kernel
theorem dX7_brings_41 : decode cX7_brings 41 = .ok (.goto (-30), 3) := by decide +kernel
theorem dX7_brings_44 : decode cX7_brings 44 = .ok (.iload 4, 2) := by decide +kernel
theorem dX7_brings_46 : decode cX7_brings 46 = .ok (.ireturn, 1) := by decide +kernel
set_option maxRecDepth 20000 in
theorem ggX7_weeksOf_X7_brings : GoodIn wsX7_weeksOf wsX7_brings := goodIn_r _ [5, 6, 7, 8, 9, 10, 11, 12, 13, 14, 15, 16, 17, 18, 19, 20, 21, 22, 23, 24, 25, 26, 27, 28, 29, 30, 31, 32, 33, 34, 35, 36, 37, 38, 39, 40, 41, 42] (by decide +kernel) (by decide +kernel)
set_option maxRecDepth 20000 in
theorem gX7_weeksOf_X7_brings : GoodIn wsX7_weeksOf (wsV RX7 174 RX7 yX7_brings wsX7_brings) := goodIn_app (goodIn_of _ (by decide +kernel)) ggX7_weeksOf_X7_brings
theorem dX7_weeksOf_0 : decode cX7_weeksOf 0 = .ok (.iconst 0, 1) := by decide +kernel
theorem dX7_weeksOf_1 : decode cX7_weeksOf 1 = .ok (.istore_n 3, 1) := by decide +kernel
theorem dX7_weeksOf_2 : decode cX7_weeksOf 2 = .ok (.iconst 1, 1) := by decide +kernel
theorem dX7_weeksOf_3 : decode cX7_weeksOf 3 = .ok (.istore 4, 2) := by decide +kernel
theorem dX7_weeksOf_5 : decode cX7_weeksOf 5 = .ok (.iload 4, 2) := by decide +kernel
theorem dX7_weeksOf_7 : decode cX7_weeksOf 7 = .ok (.bipush 20, 2) := by decide +kernel
theorem dX7_weeksOf_9 : decode cX7_weeksOf 9 = .ok (.if_icmp .gt 30, 3) := by decide +kernel
theorem dX7_weeksOf_12 : decode cX7_weeksOf 12 = .ok (.aload_n 0, 1) := by decide +kernel
theorem dX7_weeksOf_13 : decode cX7_weeksOf 13 = .ok (.iload_n 1, 1) := by decide +kernel
theorem dX7_weeksOf_14 : decode cX7_weeksOf 14 = .ok (.iload_n 2, 1) := by decide +kernel
theorem dX7_weeksOf_15 : decode cX7_weeksOf 15 = .ok (.iload 4, 2) := by decide +kernel
theorem dX7_weeksOf_17 : decode cX7_weeksOf 17 = .ok (.invokevirtual 174, 3) := by decide +kernel
theorem dX7_weeksOf_20 : decode cX7_weeksOf 20 = .ok (.aload_n 0, 1) := by decide +kernel
theorem dX7_weeksOf_21 : decode cX7_weeksOf 21 = .ok (.iload_n 1, 1) := by decide +kernel
theorem dX7_weeksOf_22 : decode cX7_weeksOf 22 = .ok (.iload_n 2, 1) := by decide +kernel
theorem dX7_weeksOf_23 : decode cX7_weeksOf 23 = .ok (.iload_n 3, 1) := by decide +kernel
theorem dX7_weeksOf_24 : decode cX7_weeksOf 24 = .ok (.invokevirtual 174, 3) := by decide +kernel
theorem dX7_weeksOf_27 : decode cX7_weeksOf 27 = .ok (.if_icmp .le 6, 3) := by decide +kernel
theorem dX7_weeksOf_30 : decode cX7_weeksOf 30 = .ok (.iload 4, 2) := by decide +kernel
theorem dX7_weeksOf_32 : decode cX7_weeksOf 32 = .ok (.istore_n 3, 1) := by decide +kernel
theorem dX7_weeksOf_33 : decode cX7_weeksOf 33 = .ok (.iinc 4 1, 3) := by decide +kernel
theorem dX7_weeksOf_36 : decode cX7_weeksOf 36 = .ok (.goto (-31), 3) := by decide +kernel
theorem dX7_weeksOf_39 : decode cX7_weeksOf 39 = .ok (.iload_n 3, 1) := by decide +kernel
theorem dX7_weeksOf_40 : decode cX7_weeksOf 40 = .ok (.ireturn, 1) := by decide +kernel
set_option maxRecDepth 20000 in
theorem ggX7_isAny_X7_in : GoodIn wsX7_isAny wsX7_in := goodIn_r _ [4] (by decide +kernel) (by decide +kernel)
set_option maxRecDepth 20000 in
theorem gX7_isAny_X7_in : GoodIn wsX7_isAny (va_wsS RX7 92 yX7_in wsX7_in) := goodIn_app (goodIn_of _ (by decide +kernel)) ggX7_isAny_X7_in
theorem dX7_isAny_0 : decode cX7_isAny 0 = .ok (.iload_n 0, 1) := by decide +kernel
theorem dX7_isAny_1 : decode cX7_isAny 1 = .ok (.iconst 0, 1) := by decide +kernel
theorem dX7_isAny_2 : decode cX7_isAny 2 = .ok (.sipush 1000, 3) := by decide +kernel
theorem dX7_isAny_5 : decode cX7_isAny 5 = .ok (.invokestatic 92, 3) := by decide +kernel
theorem dX7_isAny_8 : decode cX7_isAny 8 = .ok (.ifCond .eq 18, 3) := by decide +kernel
theorem dX7_isAny_11 : decode cX7_isAny 11 = .ok (.iload_n 1, 1) := by decide +kernel
theorem dX7_isAny_12 : decode cX7_isAny 12 = .ok (.iconst 0, 1) := by decide +kernel
theorem dX7_isAny_13 : decode cX7_isAny 13 = .ok (.sipush 1000, 3) := by decide +kernel
theorem dX7_isAny_16 : decode cX7_isAny 16 = .ok (.invokestatic 92, 3) := by decide +kernel
theorem dX7_isAny_19 : decode cX7_isAny 19 = .ok (.ifCond .eq 7, 3) := by decide +kernel
theorem dX7_isAny_22 : decode cX7_isAny 22 = .ok (.iconst 1, 1) := by decide +kernel
theorem dX7_isAny_23 : decode cX7_isAny 23 = .ok (.goto 4, 3) := by decide +kernel
theorem dX7_isAny_26 : decode cX7_isAny 26 = .ok (.iconst 0, 1) := by decide +kernel
theorem dX7_isAny_27 : decode cX7_isAny 27 = .ok (.ireturn, 1) := by decide +kernel
set_option maxRecDepth 20000 in
theorem ggX7_best_X7_isAny : GoodIn wsX7_best wsX7_isAny := goodIn_r _ [4, 5, 6, 3, 7] (by decide +kernel) (by decide +kernel)
set_option maxRecDepth 20000 in
theorem gX7_best_X7_isAny : GoodIn wsX7_best (va_wsS RX7 178 yX7_isAny wsX7_isAny) := goodIn_app (goodIn_of _ (by decide +kernel)) ggX7_best_X7_isAny
set_option maxRecDepth 20000 in
theorem ggX7_best_X7_weeksOf : GoodIn wsX7_best wsX7_weeksOf := goodIn_r _ [11, 12, 13, 14, 3, 15, 16, 17, 18, 19, 20, 21, 22, 23, 24, 25, 26, 27, 28, 29, 30, 31, 32, 33, 34, 35, 36, 37, 38, 39, 40, 41, 42, 43, 44, 45, 46, 47, 48, 49, 50, 51, 52] (by decide +kernel) (by decide +kernel)
set_option maxRecDepth 20000 in
theorem gX7_best_X7_weeksOf : GoodIn wsX7_best (wsV RX7 182 RX7 yX7_weeksOf wsX7_weeksOf) := goodIn_app (goodIn_of _ (by decide +kernel)) ggX7_best_X7_weeksOf
set_option maxRecDepth 20000 in
theorem ggX7_best_X7_brings : GoodIn wsX7_best wsX7_brings := goodIn_r _ [15, 16, 17, 18, 19, 20, 21, 22, 23, 24, 25, 26, 27, 28, 29, 30, 31, 32, 33, 34, 35, 36, 37, 38, 39, 40, 41, 42, 43, 44, 45, 46, 47, 48, 49, 50, 51, 52] (by decide +kernel) (by decide +kernel)
set_option maxRecDepth 20000 in
theorem gX7_best_X7_brings : GoodIn wsX7_best (wsV RX7 174 RX7 yX7_brings wsX7_brings) := goodIn_app (goodIn_of _ (by decide +kernel)) ggX7_best_X7_brings
theorem dX7_best_0 : decode cX7_best 0 = .ok (.iload_n 1, 1) := by decide +kernel
theorem dX7_best_1 : decode cX7_best 1 = .ok (.iload_n 2, 1) := by decide +kernel
theorem dX7_best_2 : decode cX7_best 2 = .ok (.invokestatic 178, 3) := by decide +kernel
theorem dX7_best_5 : decode cX7_best 5 = .ok (.ifCond .ne 5, 3) := by decide +kernel
theorem dX7_best_8 : decode cX7_best 8 = .ok (.iconst (-1), 1) := by decide +kernel
theorem dX7_best_9 : decode cX7_best 9 = .ok (.ireturn, 1) := by decide +kernel
theorem dX7_best_10 : decode cX7_best 10 = .ok (.iconst 0, 1) := by decide +kernel
theorem dX7_best_11 : decode cX7_best 11 = .ok (.istore_n 3, 1) := by decide +kernel
theorem dX7_best_12 : decode cX7_best 12 = .ok (.iconst 0, 1) := by decide +kernel
theorem dX7_best_13 : decode cX7_best 13 = .ok (.istore 4, 2) := by decide +kernel
theorem dX7_best_15 : decode cX7_best 15 = .ok (.iconst 0, 1) := by decide +kernel
theorem dX7_best_16 : decode cX7_best 16 = .ok (.istore 5, 2) := by decide +kernel
theorem dX7_best_18 : decode cX7_best 18 = .ok (.iconst 0, 1) := by decide +kernel
theorem dX7_best_19 : decode cX7_best 19 = .ok (.istore 6, 2) := by decide +kernel
theorem dX7_best_21 : decode cX7_best 21 = .ok (.iload 6, 2) := by decide +kernel
theorem dX7_best_23 : decode cX7_best 23 = .ok (.bipush 50, 2) := by decide +kernel
theorem dX7_best_25 : decode cX7_best 25 = .ok (.if_icmp .ge 49, 3) := by decide +kernel
theorem dX7_best_28 : decode cX7_best 28 = .ok (.iload 5, 2) := by decide +kernel
theorem dX7_best_30 : decode cX7_best 30 = .ok (.aload_n 0, 1) := by decide +kernel
theorem dX7_best_31 : decode cX7_best 31 = .ok (.iload_n 1, 1) := by decide +kernel
theorem dX7_best_32 : decode cX7_best 32 = .ok (.iload 6, 2) := by decide +kernel
theorem dX7_best_34 : decode cX7_best 34 = .ok (.aload_n 0, 1) := by decide +kernel
theorem dX7_best_35 : decode cX7_best 35 = .ok (.iload_n 1, 1) := by decide +kernel
theorem dX7_best_36 : decode cX7_best 36 = .ok (.iload 6, 2) := by decide +kernel
theorem dX7_best_38 : decode cX7_best 38 = .ok (.invokevirtual 182, 3) := by decide +kernel
theorem dX7_best_41 : decode cX7_best 41 = .ok (.invokevirtual 174, 3) := by decide +kernel
theorem dX7_best_44 : decode cX7_best 44 = .ok (.iload_n 2, 1) := by decide +kernel
theorem dX7_best_45 : decode cX7_best 45 = .ok (.isub, 1) := by decide +kernel
theorem dX7_best_46 : decode cX7_best 46 = .ok (.iadd, 1) := by decide +kernel
theorem dX7_best_47 : decode cX7_best 47 = .ok (.istore 5, 2) := by decide +kernel
theorem dX7_best_49 : decode cX7_best 49 = .ok (.iload 5, 2) := by decide +kernel
theorem dX7_best_51 : decode cX7_best 51 = .ok (.iload 4, 2) := by decide +kernel
theorem dX7_best_53 : decode cX7_best 53 = .ok (.if_icmp .gt 6, 3) := by decide +kernel
theorem dX7_best_56 : decode cX7_best 56 = .ok (.goto 12, 3) := by decide +kernel
theorem dX7_best_59 : decode cX7_best 59 = .ok (.iload 5, 2) := by decide +kernel
theorem dX7_best_61 : decode cX7_best 61 = .ok (.istore 4, 2) := by decide +kernel
theorem dX7_best_63 : decode cX7_best 63 = .ok (.iload 6, 2) := by decide +kernel
theorem dX7_best_65 : decode cX7_best 65 = .ok (.iconst 1, 1) := by decide +kernel
theorem dX7_best_66 : decode cX7_best 66 = .ok (.iadd, 1) := by decide +kernel
theorem dX7_best_67 : decode cX7_best 67 = .ok (.istore_n 3, 1) := by decide +kernel
theorem dX7_best_68 : decode cX7_best 68 = .ok (.iinc 6 1, 3) := by decide +kernel
theorem dX7_best_71 : decode cX7_best 71 = .ok (.goto (-50), 3) := by decide +kernel
theorem dX7_best_74 : decode cX7_best 74 = .ok (.iload_n 3, 1) := by decide +kernel
theorem dX7_best_75 : decode cX7_best 75 = .ok (.ireturn, 1) := by decide +kernel
set_option maxRecDepth 20000 in
theorem ggX7_gain_X7_isAny : GoodIn wsX7_gain wsX7_isAny := goodIn_r _ [4, 5, 6, 3, 7] (by decide +kernel) (by decide +kernel)
set_option maxRecDepth 20000 in
theorem gX7_gain_X7_isAny : GoodIn wsX7_gain (va_wsS RX7 178 yX7_isAny wsX7_isAny) := goodIn_app (goodIn_of _ (by decide +kernel)) ggX7_gain_X7_isAny
set_option maxRecDepth 20000 in
theorem ggX7_gain_X7_best : GoodIn wsX7_gain wsX7_best := goodIn_r _ [11, 1, 2, 3, 4, 5, 6, 7, 12, 13, 14, 15, 16, 17, 18, 19, 20, 21, 22, 23, 24, 25, 26, 27, 28, 29, 30, 31, 32, 33, 34, 35, 36, 37, 38, 39, 40, 41, 42, 43, 44, 45, 46, 47, 48, 49, 50, 51, 52, 53, 54, 55, 56] (by decide +kernel) (by decide +kernel)
set_option maxRecDepth 20000 in
theorem gX7_gain_X7_best : GoodIn wsX7_gain (wsV RX7 185 RX7 yX7_best wsX7_best) := goodIn_app (goodIn_of _ (by decide +kernel)) ggX7_gain_X7_best
set_option maxRecDepth 20000 in
theorem ggX7_gain_X7_weeksOf : GoodIn wsX7_gain wsX7_weeksOf := goodIn_r _ [15, 16, 17, 18, 3, 19, 20, 21, 22, 23, 24, 25, 26, 27, 28, 29, 30, 31, 32, 33, 34, 35, 36, 37, 38, 39, 40, 41, 42, 43, 44, 45, 46, 47, 48, 49, 50, 51, 52, 53, 54, 55, 56] (by decide +kernel) (by decide +kernel)
set_option maxRecDepth 20000 in
theorem gX7_gain_X7_weeksOf : GoodIn wsX7_gain (wsV RX7 182 RX7 yX7_weeksOf wsX7_weeksOf) := goodIn_app (goodIn_of _ (by decide +kernel)) ggX7_gain_X7_weeksOf
set_option maxRecDepth 20000 in
theorem ggX7_gain_X7_brings : GoodIn wsX7_gain wsX7_brings := goodIn_r _ [19, 20, 21, 22, 23, 24, 25, 26, 27, 28, 29, 30, 31, 32, 33, 34, 35, 36, 37, 38, 39, 40, 41, 42, 43, 44, 45, 46, 47, 48, 49, 50, 51, 52, 53, 54, 55, 56] (by decide +kernel) (by decide +kernel)
set_option maxRecDepth 20000 in
theorem gX7_gain_X7_brings : GoodIn wsX7_gain (wsV RX7 174 RX7 yX7_brings wsX7_brings) := goodIn_app (goodIn_of _ (by decide +kernel)) ggX7_gain_X7_brings
theorem dX7_gain_0 : decode cX7_gain 0 = .ok (.iload_n 1, 1) := by decide +kernel
theorem dX7_gain_1 : decode cX7_gain 1 = .ok (.iload_n 2, 1) := by decide +kernel
theorem dX7_gain_2 : decode cX7_gain 2 = .ok (.invokestatic 178, 3) := by decide +kernel
theorem dX7_gain_5 : decode cX7_gain 5 = .ok (.ifCond .ne 5, 3) := by decide +kernel
theorem dX7_gain_8 : decode cX7_gain 8 = .ok (.iconst (-1), 1) := by decide +kernel
theorem dX7_gain_9 : decode cX7_gain 9 = .ok (.ireturn, 1) := by decide +kernel
theorem dX7_gain_10 : decode cX7_gain 10 = .ok (.iconst 0, 1) := by decide +kernel
theorem dX7_gain_11 : decode cX7_gain 11 = .ok (.istore_n 3, 1) := by decide +kernel
theorem dX7_gain_12 : decode cX7_gain 12 = .ok (.iconst 0, 1) := by decide +kernel
theorem dX7_gain_13 : decode cX7_gain 13 = .ok (.istore 4, 2) := by decide +kernel
theorem dX7_gain_15 : decode cX7_gain 15 = .ok (.iload 4, 2) := by decide +kernel
theorem dX7_gain_17 : decode cX7_gain 17 = .ok (.aload_n 0, 1) := by decide +kernel
theorem dX7_gain_18 : decode cX7_gain 18 = .ok (.iload_n 1, 1) := by decide +kernel
theorem dX7_gain_19 : decode cX7_gain 19 = .ok (.iload_n 2, 1) := by decide +kernel
theorem dX7_gain_20 : decode cX7_gain 20 = .ok (.invokevirtual 185, 3) := by decide +kernel
theorem dX7_gain_23 : decode cX7_gain 23 = .ok (.if_icmp .ge 28, 3) := by decide +kernel
theorem dX7_gain_26 : decode cX7_gain 26 = .ok (.iload_n 3, 1) := by decide +kernel
theorem dX7_gain_27 : decode cX7_gain 27 = .ok (.aload_n 0, 1) := by decide +kernel
theorem dX7_gain_28 : decode cX7_gain 28 = .ok (.iload_n 1, 1) := by decide +kernel
theorem dX7_gain_29 : decode cX7_gain 29 = .ok (.iload 4, 2) := by decide +kernel
theorem dX7_gain_31 : decode cX7_gain 31 = .ok (.aload_n 0, 1) := by decide +kernel
theorem dX7_gain_32 : decode cX7_gain 32 = .ok (.iload_n 1, 1) := by decide +kernel
theorem dX7_gain_33 : decode cX7_gain 33 = .ok (.iload 4, 2) := by decide +kernel
theorem dX7_gain_35 : decode cX7_gain 35 = .ok (.invokevirtual 182, 3) := by decide +kernel
theorem dX7_gain_38 : decode cX7_gain 38 = .ok (.invokevirtual 174, 3) := by decide +kernel
theorem dX7_gain_41 : decode cX7_gain 41 = .ok (.iload_n 2, 1) := by decide +kernel
theorem dX7_gain_42 : decode cX7_gain 42 = .ok (.isub, 1) := by decide +kernel
theorem dX7_gain_43 : decode cX7_gain 43 = .ok (.iadd, 1) := by decide +kernel
theorem dX7_gain_44 : decode cX7_gain 44 = .ok (.istore_n 3, 1) := by decide +kernel
theorem dX7_gain_45 : decode cX7_gain 45 = .ok (.iinc 4 1, 3) := by decide +kernel
theorem dX7_gain_48 : decode cX7_gain 48 = .ok (.goto (-33), 3) := by decide +kernel
theorem dX7_gain_51 : decode cX7_gain 51 = .ok (.iload_n 3, 1) := by decide +kernel
theorem dX7_gain_52 : decode cX7_gain 52 = .ok (.ireturn, 1) := by decide +kernel
set_option maxRecDepth 20000 in
theorem ggX7_kept_X7_isAny : GoodIn wsX7_kept wsX7_isAny := goodIn_r _ [4, 5, 6, 3, 7] (by decide +kernel) (by decide +kernel)
set_option maxRecDepth 20000 in
theorem gX7_kept_X7_isAny : GoodIn wsX7_kept (va_wsS RX7 178 yX7_isAny wsX7_isAny) := goodIn_app (goodIn_of _ (by decide +kernel)) ggX7_kept_X7_isAny
set_option maxRecDepth 20000 in
theorem ggX7_kept_X7_best : GoodIn wsX7_kept wsX7_best := goodIn_r _ [11, 1, 2, 3, 4, 5, 6, 7, 12, 13, 14, 15, 16, 17, 18, 19, 20, 21, 22, 23, 24, 25, 26, 27, 28, 29, 30, 31, 32, 33, 34, 35, 36, 37, 38, 39, 40, 41, 42, 43, 44, 45, 46, 47, 48, 49, 50, 51, 52, 53, 54, 55, 56] (by decide +kernel) (by decide +kernel)
set_option maxRecDepth 20000 in
theorem gX7_kept_X7_best : GoodIn wsX7_kept (wsV RX7 185 RX7 yX7_best wsX7_best) := goodIn_app (goodIn_of _ (by decide +kernel)) ggX7_kept_X7_best
set_option maxRecDepth 20000 in
theorem ggX7_kept_X7_in : GoodIn wsX7_kept wsX7_in := goodIn_r _ [7] (by decide +kernel) (by decide +kernel)
set_option maxRecDepth 20000 in
theorem gX7_kept_X7_in : GoodIn wsX7_kept (va_wsS RX7 92 yX7_in wsX7_in) := goodIn_app (goodIn_of _ (by decide +kernel)) ggX7_kept_X7_in
set_option maxRecDepth 20000 in
theorem ggX7_kept_X7_weeksOf : GoodIn wsX7_kept wsX7_weeksOf := goodIn_r _ [15, 16, 17, 18, 3, 19, 20, 21, 22, 23, 24, 25, 26, 27, 28, 29, 30, 31, 32, 33, 34, 35, 36, 37, 38, 39, 40, 41, 42, 43, 44, 45, 46, 47, 48, 49, 50, 51, 52, 53, 54, 55, 56] (by decide +kernel) (by decide +kernel)
set_option maxRecDepth 20000 in
theorem gX7_kept_X7_weeksOf : GoodIn wsX7_kept (wsV RX7 182 RX7 yX7_weeksOf wsX7_weeksOf) := goodIn_app (goodIn_of _ (by decide +kernel)) ggX7_kept_X7_weeksOf
theorem dX7_kept_0 : decode cX7_kept 0 = .ok (.iload_n 1, 1) := by decide +kernel
theorem dX7_kept_1 : decode cX7_kept 1 = .ok (.iload_n 2, 1) := by decide +kernel
theorem dX7_kept_2 : decode cX7_kept 2 = .ok (.invokestatic 178, 3) := by decide +kernel
theorem dX7_kept_5 : decode cX7_kept 5 = .ok (.ifCond .eq 28, 3) := by decide +kernel
theorem dX7_kept_8 : decode cX7_kept 8 = .ok (.iload_n 3, 1) := by decide +kernel
theorem dX7_kept_9 : decode cX7_kept 9 = .ok (.iconst 0, 1) := by decide +kernel
theorem dX7_kept_10 : decode cX7_kept 10 = .ok (.aload_n 0, 1) := by decide +kernel
theorem dX7_kept_11 : decode cX7_kept 11 = .ok (.iload_n 1, 1) := by decide +kernel
theorem dX7_kept_12 : decode cX7_kept 12 = .ok (.iload_n 2, 1) := by decide +kernel
theorem dX7_kept_13 : decode cX7_kept 13 = .ok (.invokevirtual 185, 3) := by decide +kernel
theorem dX7_kept_16 : decode cX7_kept 16 = .ok (.iconst 1, 1) := by decide +kernel
theorem dX7_kept_17 : decode cX7_kept 17 = .ok (.isub, 1) := by decide +kernel
theorem dX7_kept_18 : decode cX7_kept 18 = .ok (.invokestatic 92, 3) := by decide +kernel
theorem dX7_kept_21 : decode cX7_kept 21 = .ok (.ifCond .eq 12, 3) := by decide +kernel
theorem dX7_kept_24 : decode cX7_kept 24 = .ok (.aload_n 0, 1) := by decide +kernel
theorem dX7_kept_25 : decode cX7_kept 25 = .ok (.iload_n 1, 1) := by decide +kernel
theorem dX7_kept_26 : decode cX7_kept 26 = .ok (.iload_n 3, 1) := by decide +kernel
theorem dX7_kept_27 : decode cX7_kept 27 = .ok (.invokevirtual 182, 3) := by decide +kernel
theorem dX7_kept_30 : decode cX7_kept 30 = .ok (.goto 4, 3) := by decide +kernel
theorem dX7_kept_33 : decode cX7_kept 33 = .ok (.iconst (-1), 1) := by decide +kernel
theorem dX7_kept_34 : decode cX7_kept 34 = .ok (.ireturn, 1) := by decide +kernel
theorem dX7_count_0 : decode cX7_count 0 = .ok (.iconst 0, 1) := by decide +kernel
theorem dX7_count_1 : decode cX7_count 1 = .ok (.istore_n 2, 1) := by decide +kernel
theorem dX7_count_2 : decode cX7_count 2 = .ok (.iload_n 1, 1) := by decide +kernel
theorem dX7_count_3 : decode cX7_count 3 = .ok (.tableswitch 125 0 8 #[49, 54, 59, 64, 69, 74, 79, 84, 89], 49) := by decide +kernel
theorem dX7_count_52 : decode cX7_count 52 = .ok (.aload_n 0, 1) := by decide +kernel
theorem dX7_count_53 : decode cX7_count 53 = .ok (.getfield 112, 3) := by decide +kernel
theorem dX7_count_56 : decode cX7_count 56 = .ok (.ireturn, 1) := by decide +kernel
theorem dX7_count_57 : decode cX7_count 57 = .ok (.aload_n 0, 1) := by decide +kernel
theorem dX7_count_58 : decode cX7_count 58 = .ok (.getfield 88, 3) := by decide +kernel
theorem dX7_count_61 : decode cX7_count 61 = .ok (.ireturn, 1) := by decide +kernel
theorem dX7_count_62 : decode cX7_count 62 = .ok (.aload_n 0, 1) := by decide +kernel
theorem dX7_count_63 : decode cX7_count 63 = .ok (.getfield 99, 3) := by decide +kernel
theorem dX7_count_66 : decode cX7_count 66 = .ok (.ireturn, 1) := by decide +kernel
theorem dX7_count_67 : decode cX7_count 67 = .ok (.aload_n 0, 1) := by decide +kernel
theorem dX7_count_68 : decode cX7_count 68 = .ok (.getfield 96, 3) := by decide +kernel
theorem dX7_count_71 : decode cX7_count 71 = .ok (.ireturn, 1) := by decide +kernel
theorem dX7_count_72 : decode cX7_count 72 = .ok (.aload_n 0, 1) := by decide +kernel
theorem dX7_count_73 : decode cX7_count 73 = .ok (.getfield 102, 3) := by decide +kernel
theorem dX7_count_76 : decode cX7_count 76 = .ok (.ireturn, 1) := by decide +kernel
theorem dX7_count_77 : decode cX7_count 77 = .ok (.aload_n 0, 1) := by decide +kernel
theorem dX7_count_78 : decode cX7_count 78 = .ok (.getfield 119, 3) := by decide +kernel
theorem dX7_count_81 : decode cX7_count 81 = .ok (.ireturn, 1) := by decide +kernel
theorem dX7_count_82 : decode cX7_count 82 = .ok (.aload_n 0, 1) := by decide +kernel
theorem dX7_count_83 : decode cX7_count 83 = .ok (.getfield 125, 3) := by decide +kernel
theorem dX7_count_86 : decode cX7_count 86 = .ok (.ireturn, 1) := by decide +kernel
theorem dX7_count_87 : decode cX7_count 87 = .ok (.aload_n 0, 1) := by decide +kernel
theorem dX7_count_88 : decode cX7_count 88 = .ok (.getfield 171, 3) := by decide +kernel
theorem dX7_count_91 : decode cX7_count 91 = .ok (.ireturn, 1) := by decide +kernel
theorem dX7_count_92 : decode cX7_count 92 = .ok (.iconst 0, 1) := by decide +kernel
theorem dX7_count_93 : decode cX7_count 93 = .ok (.istore_n 3, 1) := by decide +kernel
theorem dX7_count_94 : decode cX7_count 94 = .ok (.iload_n 3, 1) := by decide +kernel
theorem dX7_count_95 : decode cX7_count 95 = .ok (.aload_n 0, 1) := by decide +kernel
theorem dX7_count_96 : decode cX7_count 96 = .ok (.getfield 99, 3) := by decide +kernel
theorem dX7_count_99 : decode cX7_count 99 = .ok (.if_icmp .ge 27, 3) := by decide +kernel
theorem dX7_count_102 : decode cX7_count 102 = .ok (.iload_n 2, 1) := by decide +kernel
theorem dX7_count_103 : decode cX7_count 103 = .ok (.aload_n 0, 1) := by decide +kernel
theorem dX7_count_104 : decode cX7_count 104 = .ok (.getfield 22, 3) := by decide +kernel
theorem dX7_count_107 : decode cX7_count 107 = .ok (.iload_n 3, 1) := by decide +kernel
theorem dX7_count_108 : decode cX7_count 108 = .ok (.iaload, 1) := by decide +kernel
theorem dX7_count_109 : decode cX7_count 109 = .ok (.iconst 5, 1) := by decide +kernel
theorem dX7_count_110 : decode cX7_count 110 = .ok (.if_icmp .ne 7, 3) := by decide +kernel
theorem dX7_count_113 : decode cX7_count 113 = .ok (.iconst 1, 1) := by decide +kernel
theorem dX7_count_114 : decode cX7_count 114 = .ok (.goto 4, 3) := by decide +kernel
theorem dX7_count_117 : decode cX7_count 117 = .ok (.iconst 0, 1) := by decide +kernel
theorem dX7_count_118 : decode cX7_count 118 = .ok (.iadd, 1) := by decide +kernel
theorem dX7_count_119 : decode cX7_count 119 = .ok (.istore_n 2, 1) := by decide +kernel
theorem dX7_count_120 : decode cX7_count 120 = .ok (.iinc 3 1, 3) := by decide +kernel
theorem dX7_count_123 : decode cX7_count 123 = .ok (.goto (-29), 3) := by decide +kernel
theorem dX7_count_126 : decode cX7_count 126 = .ok (.iload_n 2, 1) := by decide +kernel
theorem dX7_count_127 : decode cX7_count 127 = .ok (.ireturn, 1) := by decide +kernel
theorem dX7_count_128 : decode cX7_count 128 = .ok (.iconst (-1), 1) := by decide +kernel
theorem dX7_count_129 : decode cX7_count 129 = .ok (.ireturn, 1) := by decide +kernel
