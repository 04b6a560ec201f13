theorem dX6_within_0 : decode cX6_within 0 = .ok (.iload_n 0, 1) := by decide +kernel
theorem dX6_within_1 : decode cX6_within 1 = .ok (.iload_n 1, 1) := by decide +kernel
theorem dX6_within_2 : decode cX6_within 2 = .ok (.if_icmp .lt 12, 3) := by decide +kernel
theorem dX6_within_5 : decode cX6_within 5 = .ok (.iload_n 0, 1) := by decide +kernel
theorem dX6_within_6 : decode cX6_within 6 = .ok (.iload_n 2, 1) := by decide +kernel
theorem dX6_within_7 : decode cX6_within 7 = .ok (.if_icmp .gt 7, 3) := by decide +kernel
theorem dX6_within_10 : decode cX6_within 10 = .ok (.iconst 1, 1) := by decide +kernel
theorem dX6_within_11 : decode cX6_within 11 = .ok (.goto 4, 3) := by decide +kernel
theorem dX6_within_14 : decode cX6_within 14 = .ok (.iconst 0, 1) := by decide +kernel
theorem dX6_within_15 : decode cX6_within 15 = .ok (.ireturn, 1) := by decide +kernel
set_option maxRecDepth 20000 in
theorem ggX6_canPlan_X6_within : GoodIn wsX6_canPlan wsX6_within := goodIn_r _ [4] (by decide +kernel) (by decide +kernel)
set_option maxRecDepth 20000 in
theorem gX6_canPlan_X6_within : GoodIn wsX6_canPlan (va_wsS RX6 64 yX6_within wsX6_within) := goodIn_app (goodIn_of _ (by decide +kernel)) ggX6_canPlan_X6_within
theorem dX6_canPlan_0 : decode cX6_canPlan 0 = .ok (.iload_n 0, 1) := by decide +kernel
theorem dX6_canPlan_1 : decode cX6_canPlan 1 = .ok (.iconst 0, 1) := by decide +kernel
theorem dX6_canPlan_2 : decode cX6_canPlan 2 = .ok (.sipush 1000, 3) := by decide +kernel
theorem dX6_canPlan_5 : decode cX6_canPlan 5 = .ok (.invokestatic 64, 3) := by decide +kernel
theorem dX6_canPlan_8 : decode cX6_canPlan 8 = .ok (.ifCond .eq 18, 3) := by decide +kernel
theorem dX6_canPlan_11 : decode cX6_canPlan 11 = .ok (.iload_n 1, 1) := by decide +kernel
theorem dX6_canPlan_12 : decode cX6_canPlan 12 = .ok (.iconst 0, 1) := by decide +kernel
theorem dX6_canPlan_13 : decode cX6_canPlan 13 = .ok (.sipush 1000, 3) := by decide +kernel
theorem dX6_canPlan_16 : decode cX6_canPlan 16 = .ok (.invokestatic 64, 3) := by decide +kernel
theorem dX6_canPlan_19 : decode cX6_canPlan 19 = .ok (.ifCond .eq 7, 3) := by decide +kernel
theorem dX6_canPlan_22 : decode cX6_canPlan 22 = .ok (.iconst 1, 1) := by decide +kernel
theorem dX6_canPlan_23 : decode cX6_canPlan 23 = .ok (.goto 4, 3) := by decide +kernel
theorem dX6_canPlan_26 : decode cX6_canPlan 26 = .ok (.iconst 0, 1) := by decide +kernel
theorem dX6_canPlan_27 : decode cX6_canPlan 27 = .ok (.ireturn, 1) := by decide +kernel
set_option maxRecDepth 20000 in
theorem ggX6_moveBoxes_X1_comesToday : GoodIn wsX6_moveBoxes wsX1_comesToday := goodIn_r _ [5, 6, 7, 8, 9, 3, 10, 11, 64, 65, 66, 67, 68, 69, 70, 71, 72, 73, 74, 75, 76] (by decide +kernel) (by decide +kernel)
set_option maxRecDepth 20000 in
theorem gX6_moveBoxes_X1_comesToday_n242 : GoodIn wsX6_moveBoxes (wsX1_comesToday) := ggX6_moveBoxes_X1_comesToday
set_option maxRecDepth 20000 in
theorem ggX6_moveBoxes_X6_unpack : GoodIn wsX6_moveBoxes wsX6_unpack := goodIn_r _ [16, 1, 17, 18, 19, 20, 21, 22, 23, 24, 3, 25, 26, 27, 28, 29, 30, 11, 31, 32, 33, 34, 35, 36, 37, 38, 39, 40, 41, 42, 43, 7, 8, 9, 10, 44, 45, 46, 47, 48, 49, 50, 6, 51, 52, 53, 54, 55, 56, 57, 58, 59, 60, 61, 62, 63, 64, 65, 66, 67, 68, 69, 70, 71, 72, 73, 74, 75, 76, 77, 78, 79, 80, 81, 82, 83] (by decide +kernel) (by decide +kernel)
set_option maxRecDepth 20000 in
theorem gX6_moveBoxes_X6_unpack : GoodIn wsX6_moveBoxes (wsV RX6 245 RX6 yX6_unpack wsX6_unpack) := goodIn_app (goodIn_of _ (by decide +kernel)) ggX6_moveBoxes_X6_unpack
theorem dX6_moveBoxes_0 : decode cX6_moveBoxes 0 = .ok (.iconst 0, 1) := by decide +kernel
theorem dX6_moveBoxes_1 : decode cX6_moveBoxes 1 = .ok (.istore_n 1, 1) := by decide +kernel
theorem dX6_moveBoxes_2 : decode cX6_moveBoxes 2 = .ok (.aload_n 0, 1) := by decide +kernel
theorem dX6_moveBoxes_3 : decode cX6_moveBoxes 3 = .ok (.getfield 26, 3) := by decide +kernel
theorem dX6_moveBoxes_6 : decode cX6_moveBoxes 6 = .ok (.getfield 240, 3) := by decide +kernel
theorem dX6_moveBoxes_9 : decode cX6_moveBoxes 9 = .ok (.ifCond .ne 5, 3) := by decide +kernel
theorem dX6_moveBoxes_12 : decode cX6_moveBoxes 12 = .ok (.iload_n 1, 1) := by decide +kernel
theorem dX6_moveBoxes_13 : decode cX6_moveBoxes 13 = .ok (.ireturn, 1) := by decide +kernel
theorem dX6_moveBoxes_14 : decode cX6_moveBoxes 14 = .ok (.iconst 0, 1) := by decide +kernel
theorem dX6_moveBoxes_15 : decode cX6_moveBoxes 15 = .ok (.istore_n 2, 1) := by decide +kernel
theorem dX6_moveBoxes_16 : decode cX6_moveBoxes 16 = .ok (.iload_n 2, 1) := by decide +kernel
theorem dX6_moveBoxes_17 : decode cX6_moveBoxes 17 = .ok (.aload_n 0, 1) := by decide +kernel
theorem dX6_moveBoxes_18 : decode cX6_moveBoxes 18 = .ok (.getfield 26, 3) := by decide +kernel
theorem dX6_moveBoxes_21 : decode cX6_moveBoxes 21 = .ok (.getfield 86, 3) := by decide +kernel
theorem dX6_moveBoxes_24 : decode cX6_moveBoxes 24 = .ok (.if_icmp .ge 48, 3) := by decide +kernel
theorem dX6_moveBoxes_27 : decode cX6_moveBoxes 27 = .ok (.aload_n 0, 1) := by decide +kernel
theorem dX6_moveBoxes_28 : decode cX6_moveBoxes 28 = .ok (.getfield 26, 3) := by decide +kernel
theorem dX6_moveBoxes_31 : decode cX6_moveBoxes 31 = .ok (.iload_n 2, 1) := by decide +kernel
theorem dX6_moveBoxes_32 : decode cX6_moveBoxes 32 = .ok (.invokevirtual 242, 3) := by decide +kernel
theorem dX6_moveBoxes_35 : decode cX6_moveBoxes 35 = .ok (.ifCond .eq 31, 3) := by decide +kernel
theorem dX6_moveBoxes_38 : decode cX6_moveBoxes 38 = .ok (.iload_n 1, 1) := by decide +kernel
theorem dX6_moveBoxes_39 : decode cX6_moveBoxes 39 = .ok (.ifCond .ne 16, 3) := by decide +kernel
theorem dX6_moveBoxes_42 : decode cX6_moveBoxes 42 = .ok (.aload_n 0, 1) := by decide +kernel
theorem dX6_moveBoxes_43 : decode cX6_moveBoxes 43 = .ok (.getfield 26, 3) := by decide +kernel
theorem dX6_moveBoxes_46 : decode cX6_moveBoxes 46 = .ok (.getfield 175, 3) := by decide +kernel
theorem dX6_moveBoxes_49 : decode cX6_moveBoxes 49 = .ok (.iload_n 2, 1) := by decide +kernel
theorem dX6_moveBoxes_50 : decode cX6_moveBoxes 50 = .ok (.iaload, 1) := by decide +kernel
theorem dX6_moveBoxes_51 : decode cX6_moveBoxes 51 = .ok (.iconst 3, 1) := by decide +kernel
theorem dX6_moveBoxes_52 : decode cX6_moveBoxes 52 = .ok (.if_icmp .ne 7, 3) := by decide +kernel
theorem dX6_moveBoxes_55 : decode cX6_moveBoxes 55 = .ok (.iconst 1, 1) := by decide +kernel
theorem dX6_moveBoxes_56 : decode cX6_moveBoxes 56 = .ok (.goto 4, 3) := by decide +kernel
theorem dX6_moveBoxes_59 : decode cX6_moveBoxes 59 = .ok (.iconst 0, 1) := by decide +kernel
theorem dX6_moveBoxes_60 : decode cX6_moveBoxes 60 = .ok (.istore_n 1, 1) := by decide +kernel
theorem dX6_moveBoxes_61 : decode cX6_moveBoxes 61 = .ok (.aload_n 0, 1) := by decide +kernel
theorem dX6_moveBoxes_62 : decode cX6_moveBoxes 62 = .ok (.iload_n 2, 1) := by decide +kernel
theorem dX6_moveBoxes_63 : decode cX6_moveBoxes 63 = .ok (.invokevirtual 245, 3) := by decide +kernel
theorem dX6_moveBoxes_66 : decode cX6_moveBoxes 66 = .ok (.iinc 2 1, 3) := by decide +kernel
theorem dX6_moveBoxes_69 : decode cX6_moveBoxes 69 = .ok (.goto (-53), 3) := by decide +kernel
theorem dX6_moveBoxes_72 : decode cX6_moveBoxes 72 = .ok (.iload_n 1, 1) := by decide +kernel
theorem dX6_moveBoxes_73 : decode cX6_moveBoxes 73 = .ok (.ireturn, 1) := by decide +kernel
set_option maxRecDepth 20000 in
theorem ggX6_unpack_X3_has : GoodIn wsX6_unpack wsX3_has := goodIn_r _ [7, 8, 69, 70, 71, 72, 73, 74, 75] (by decide +kernel) (by decide +kernel)
set_option maxRecDepth 20000 in
theorem gX6_unpack_X3_has_n109 : GoodIn wsX6_unpack (wsX3_has) := ggX6_unpack_X3_has
set_option maxRecDepth 20000 in
theorem ggX6_unpack_X1_shelve : GoodIn wsX6_unpack wsX1_shelve := goodIn_r _ [12, 13, 14, 15, 10, 16, 17, 18, 19, 20, 21, 22, 23, 24, 25, 26, 27, 28, 29, 30, 31, 32, 33, 34, 35, 36, 37, 38, 39, 40, 41, 42, 56, 57, 58, 59, 60, 61, 62, 63, 64, 65, 66, 67, 68] (by decide +kernel) (by decide +kernel)
set_option maxRecDepth 20000 in
theorem gX6_unpack_X1_shelve_n159 : GoodIn wsX6_unpack (wsX1_shelve) := ggX6_unpack_X1_shelve
set_option maxRecDepth 20000 in
theorem ggX6_unpack_X1_handOver : GoodIn wsX6_unpack wsX1_handOver := goodIn_r _ [45, 41, 42, 13, 14, 15, 10, 16, 17, 18, 19, 20, 21, 22, 23, 24, 25, 26, 27, 28, 29, 30, 31, 32, 33, 34, 56, 57, 58, 59, 60, 61, 62, 63, 64, 65, 66, 67, 68] (by decide +kernel) (by decide +kernel)
set_option maxRecDepth 20000 in
theorem gX6_unpack_X1_handOver_n248 : GoodIn wsX6_unpack (wsX1_handOver) := ggX6_unpack_X1_handOver
theorem dX6_unpack_0 : decode cX6_unpack 0 = .ok (.aload_n 0, 1) := by decide +kernel
theorem dX6_unpack_1 : decode cX6_unpack 1 = .ok (.getfield 26, 3) := by decide +kernel
theorem dX6_unpack_4 : decode cX6_unpack 4 = .ok (.getfield 137, 3) := by decide +kernel
theorem dX6_unpack_7 : decode cX6_unpack 7 = .ok (.iload_n 1, 1) := by decide +kernel
theorem dX6_unpack_8 : decode cX6_unpack 8 = .ok (.iaload, 1) := by decide +kernel
theorem dX6_unpack_9 : decode cX6_unpack 9 = .ok (.istore_n 2, 1) := by decide +kernel
theorem dX6_unpack_10 : decode cX6_unpack 10 = .ok (.aload_n 0, 1) := by decide +kernel
theorem dX6_unpack_11 : decode cX6_unpack 11 = .ok (.getfield 33, 3) := by decide +kernel
theorem dX6_unpack_14 : decode cX6_unpack 14 = .ok (.iload_n 2, 1) := by decide +kernel
theorem dX6_unpack_15 : decode cX6_unpack 15 = .ok (.invokevirtual 109, 3) := by decide +kernel
theorem dX6_unpack_18 : decode cX6_unpack 18 = .ok (.ifCond .ne 4, 3) := by decide +kernel
theorem dX6_unpack_21 : decode cX6_unpack 21 = .ok (.return_, 1) := by decide +kernel
theorem dX6_unpack_22 : decode cX6_unpack 22 = .ok (.aload_n 0, 1) := by decide +kernel
theorem dX6_unpack_23 : decode cX6_unpack 23 = .ok (.getfield 33, 3) := by decide +kernel
theorem dX6_unpack_26 : decode cX6_unpack 26 = .ok (.getfield 165, 3) := by decide +kernel
theorem dX6_unpack_29 : decode cX6_unpack 29 = .ok (.iload_n 2, 1) := by decide +kernel
theorem dX6_unpack_30 : decode cX6_unpack 30 = .ok (.dup2, 1) := by decide +kernel
theorem dX6_unpack_31 : decode cX6_unpack 31 = .ok (.iaload, 1) := by decide +kernel
theorem dX6_unpack_32 : decode cX6_unpack 32 = .ok (.iconst 1, 1) := by decide +kernel
theorem dX6_unpack_33 : decode cX6_unpack 33 = .ok (.isub, 1) := by decide +kernel
theorem dX6_unpack_34 : decode cX6_unpack 34 = .ok (.iastore, 1) := by decide +kernel
theorem dX6_unpack_35 : decode cX6_unpack 35 = .ok (.aload_n 0, 1) := by decide +kernel
theorem dX6_unpack_36 : decode cX6_unpack 36 = .ok (.getfield 26, 3) := by decide +kernel
theorem dX6_unpack_39 : decode cX6_unpack 39 = .ok (.getfield 175, 3) := by decide +kernel
theorem dX6_unpack_42 : decode cX6_unpack 42 = .ok (.iload_n 1, 1) := by decide +kernel
theorem dX6_unpack_43 : decode cX6_unpack 43 = .ok (.iaload, 1) := by decide +kernel
theorem dX6_unpack_44 : decode cX6_unpack 44 = .ok (.iconst 3, 1) := by decide +kernel
theorem dX6_unpack_45 : decode cX6_unpack 45 = .ok (.if_icmp .ne 14, 3) := by decide +kernel
theorem dX6_unpack_48 : decode cX6_unpack 48 = .ok (.aload_n 0, 1) := by decide +kernel
theorem dX6_unpack_49 : decode cX6_unpack 49 = .ok (.getfield 26, 3) := by decide +kernel
theorem dX6_unpack_52 : decode cX6_unpack 52 = .ok (.iload_n 1, 1) := by decide +kernel
theorem dX6_unpack_53 : decode cX6_unpack 53 = .ok (.invokevirtual 159, 3) := by decide +kernel
theorem dX6_unpack_56 : decode cX6_unpack 56 = .ok (.goto 28, 3) := by decide +kernel
theorem dX6_unpack_59 : decode cX6_unpack 59 = .ok (.aload_n 0, 1) := by decide +kernel
theorem dX6_unpack_60 : decode cX6_unpack 60 = .ok (.getfield 26, 3) := by decide +kernel
theorem dX6_unpack_63 : decode cX6_unpack 63 = .ok (.iload_n 1, 1) := by decide +kernel
theorem dX6_unpack_64 : decode cX6_unpack 64 = .ok (.aload_n 0, 1) := by decide +kernel
theorem dX6_unpack_65 : decode cX6_unpack 65 = .ok (.getfield 51, 3) := by decide +kernel
theorem dX6_unpack_68 : decode cX6_unpack 68 = .ok (.invokevirtual 248, 3) := by decide +kernel
theorem dX6_unpack_71 : decode cX6_unpack 71 = .ok (.aload_n 0, 1) := by decide +kernel
theorem dX6_unpack_72 : decode cX6_unpack 72 = .ok (.getfield 33, 3) := by decide +kernel
theorem dX6_unpack_75 : decode cX6_unpack 75 = .ok (.getfield 153, 3) := by decide +kernel
theorem dX6_unpack_78 : decode cX6_unpack 78 = .ok (.iload_n 2, 1) := by decide +kernel
theorem dX6_unpack_79 : decode cX6_unpack 79 = .ok (.dup2, 1) := by decide +kernel
theorem dX6_unpack_80 : decode cX6_unpack 80 = .ok (.iaload, 1) := by decide +kernel
theorem dX6_unpack_81 : decode cX6_unpack 81 = .ok (.iconst 1, 1) := by decide +kernel
theorem dX6_unpack_82 : decode cX6_unpack 82 = .ok (.iadd, 1) := by decide +kernel
theorem dX6_unpack_83 : decode cX6_unpack 83 = .ok (.iastore, 1) := by decide +kernel
theorem dX6_unpack_84 : decode cX6_unpack 84 = .ok (.return_, 1) := by decide +kernel
set_option maxRecDepth 20000 in
theorem ggX6_takeTurns_X6_nextInTurn : GoodIn wsX6_takeTurns wsX6_nextInTurn := goodIn_r _ [5, 6, 7, 8, 9, 4, 10, 11, 12, 13, 14, 15, 16, 17, 18, 19, 20, 21, 22, 23, 24, 25, 26, 27, 28, 29, 30, 31, 32, 33, 34, 35, 36, 37, 38, 39, 40, 41, 42, 43, 44, 45, 46, 47, 48, 49, 50, 51, 52, 53, 54, 55, 56, 57, 97, 98, 99, 100, 101, 102, 103, 104, 105, 106, 107, 108, 109, 110, 111, 112, 113, 114, 115, 116, 117, 118, 119, 120, 121, 122, 123, 124, 125, 126, 127, 128, 129, 130, 131, 132, 133] (by decide +kernel) (by decide +kernel)
set_option maxRecDepth 20000 in
theorem gX6_takeTurns_X6_nextInTurn : GoodIn wsX6_takeTurns (wsV RX6 251 RX6 yX6_nextInTurn wsX6_nextInTurn) := goodIn_app (goodIn_of _ (by decide +kernel)) ggX6_takeTurns_X6_nextInTurn
set_option maxRecDepth 20000 in
theorem ggX6_takeTurns_X6_lendFor : GoodIn wsX6_takeTurns wsX6_lendFor := goodIn_r _ [61, 6, 13, 11, 12, 62, 43, 63, 64, 65, 66, 67, 68, 38, 30, 39, 40, 41, 69, 70, 71, 72, 73, 74, 75, 76, 77, 78, 79, 80, 81, 82, 83, 84, 85, 86, 87, 46, 88, 89, 47, 48, 49, 50, 90, 91, 92, 93, 94, 95, 96, 97, 98, 99, 100, 101, 102, 103, 104, 105, 106, 107, 108, 109, 110, 111, 112, 113, 114, 115, 116, 117, 118, 119, 120, 121, 122, 123, 124, 125, 126, 127, 128, 129, 130, 131, 132, 133] (by decide +kernel) (by decide +kernel)
set_option maxRecDepth 20000 in
theorem gX6_takeTurns_X6_lendFor : GoodIn wsX6_takeTurns (wsV RX6 255 RX6 yX6_lendFor wsX6_lendFor) := goodIn_app (goodIn_of _ (by decide +kernel)) ggX6_takeTurns_X6_lendFor
theorem dX6_takeTurns_0 : decode cX6_takeTurns 0 = .ok (.iconst 0, 1) := by decide +kernel
theorem dX6_takeTurns_1 : decode cX6_takeTurns 1 = .ok (.istore_n 1, 1) := by decide +kernel
theorem dX6_takeTurns_2 : decode cX6_takeTurns 2 = .ok (.iload_n 1, 1) := by decide +kernel
theorem dX6_takeTurns_3 : decode cX6_takeTurns 3 = .ok (.sipush 200, 3) := by decide +kernel
theorem dX6_takeTurns_6 : decode cX6_takeTurns 6 = .ok (.if_icmp .ge 25, 3) := by decide +kernel
theorem dX6_takeTurns_9 : decode cX6_takeTurns 9 = .ok (.aload_n 0, 1) := by decide +kernel
theorem dX6_takeTurns_10 : decode cX6_takeTurns 10 = .ok (.invokevirtual 251, 3) := by decide +kernel
theorem dX6_takeTurns_13 : decode cX6_takeTurns 13 = .ok (.istore_n 2, 1) := by decide +kernel
theorem dX6_takeTurns_14 : decode cX6_takeTurns 14 = .ok (.iload_n 2, 1) := by decide +kernel
theorem dX6_takeTurns_15 : decode cX6_takeTurns 15 = .ok (.iconst (-1), 1) := by decide +kernel
theorem dX6_takeTurns_16 : decode cX6_takeTurns 16 = .ok (.if_icmp .ne 4, 3) := by decide +kernel
theorem dX6_takeTurns_19 : decode cX6_takeTurns 19 = .ok (.return_, 1) := by decide +kernel
theorem dX6_takeTurns_20 : decode cX6_takeTurns 20 = .ok (.aload_n 0, 1) := by decide +kernel
theorem dX6_takeTurns_21 : decode cX6_takeTurns 21 = .ok (.iload_n 2, 1) := by decide +kernel
theorem dX6_takeTurns_22 : decode cX6_takeTurns 22 = .ok (.invokevirtual 255, 3) := by decide +kernel
theorem dX6_takeTurns_25 : decode cX6_takeTurns 25 = .ok (.iinc 1 1, 3) := by decide +kernel
theorem dX6_takeTurns_28 : decode cX6_takeTurns 28 = .ok (.goto (-26), 3) := by decide +kernel
theorem dX6_takeTurns_31 : decode cX6_takeTurns 31 = .ok (.return_, 1) := by decide +kernel
set_option maxRecDepth 20000 in
theorem ggX6_nextInTurn_X6_canGet : GoodIn wsX6_nextInTurn wsX6_canGet := goodIn_r _ [6, 1, 7, 8, 9, 10, 11, 12, 13, 14, 15, 16, 17, 18, 19, 20, 21, 22, 23, 24, 25, 26, 27, 28, 29, 30, 31, 32, 33, 34, 35, 36, 37, 38, 39, 40, 41, 42, 43, 44, 45, 46, 54, 55, 56, 57, 58, 59, 60, 61, 62, 63, 64, 65, 66, 67, 68, 69, 70, 71, 72, 73, 74, 75, 76, 77, 78, 79, 80, 81, 82, 83, 84, 85, 86, 87, 88, 89, 90] (by decide +kernel) (by decide +kernel)
set_option maxRecDepth 20000 in
theorem gX6_nextInTurn_X6_canGet : GoodIn wsX6_nextInTurn (wsV RX6 258 RX6 yX6_canGet wsX6_canGet) := goodIn_app (goodIn_of _ (by decide +kernel)) ggX6_nextInTurn_X6_canGet
set_option maxRecDepth 20000 in
theorem ggX6_nextInTurn_X6_goesAhead : GoodIn wsX6_nextInTurn wsX6_goesAhead := goodIn_r _ [50, 7, 1, 51, 26, 52, 53, 32, 33, 34, 35, 36, 37, 54, 55, 56, 57, 58, 59, 60, 61, 62, 63, 64, 65, 66, 67, 68, 69, 70, 71, 72, 73, 74, 75, 76, 77] (by decide +kernel) (by decide +kernel)
set_option maxRecDepth 20000 in
theorem gX6_nextInTurn_X6_goesAhead : GoodIn wsX6_nextInTurn (wsV RX6 261 RX6 yX6_goesAhead wsX6_goesAhead) := goodIn_app (goodIn_of _ (by decide +kernel)) ggX6_nextInTurn_X6_goesAhead
theorem dX6_nextInTurn_0 : decode cX6_nextInTurn 0 = .ok (.iconst (-1), 1) := by decide +kernel
theorem dX6_nextInTurn_1 : decode cX6_nextInTurn 1 = .ok (.istore_n 1, 1) := by decide +kernel
theorem dX6_nextInTurn_2 : decode cX6_nextInTurn 2 = .ok (.iconst 0, 1) := by decide +kernel
theorem dX6_nextInTurn_3 : decode cX6_nextInTurn 3 = .ok (.istore_n 2, 1) := by decide +kernel
theorem dX6_nextInTurn_4 : decode cX6_nextInTurn 4 = .ok (.iload_n 2, 1) := by decide +kernel
theorem dX6_nextInTurn_5 : decode cX6_nextInTurn 5 = .ok (.aload_n 0, 1) := by decide +kernel
theorem dX6_nextInTurn_6 : decode cX6_nextInTurn 6 = .ok (.getfield 40, 3) := by decide +kernel
theorem dX6_nextInTurn_9 : decode cX6_nextInTurn 9 = .ok (.getfield 114, 3) := by decide +kernel
theorem dX6_nextInTurn_12 : decode cX6_nextInTurn 12 = .ok (.if_icmp .ge 33, 3) := by decide +kernel
theorem dX6_nextInTurn_15 : decode cX6_nextInTurn 15 = .ok (.aload_n 0, 1) := by decide +kernel
theorem dX6_nextInTurn_16 : decode cX6_nextInTurn 16 = .ok (.iload_n 2, 1) := by decide +kernel
theorem dX6_nextInTurn_17 : decode cX6_nextInTurn 17 = .ok (.invokevirtual 258, 3) := by decide +kernel
theorem dX6_nextInTurn_20 : decode cX6_nextInTurn 20 = .ok (.ifCond .eq 19, 3) := by decide +kernel
theorem dX6_nextInTurn_23 : decode cX6_nextInTurn 23 = .ok (.iload_n 1, 1) := by decide +kernel
theorem dX6_nextInTurn_24 : decode cX6_nextInTurn 24 = .ok (.iconst (-1), 1) := by decide +kernel
theorem dX6_nextInTurn_25 : decode cX6_nextInTurn 25 = .ok (.if_icmp .eq 12, 3) := by decide +kernel
theorem dX6_nextInTurn_28 : decode cX6_nextInTurn 28 = .ok (.aload_n 0, 1) := by decide +kernel
theorem dX6_nextInTurn_29 : decode cX6_nextInTurn 29 = .ok (.iload_n 2, 1) := by decide +kernel
theorem dX6_nextInTurn_30 : decode cX6_nextInTurn 30 = .ok (.iload_n 1, 1) := by decide +kernel
theorem dX6_nextInTurn_31 : decode cX6_nextInTurn 31 = .ok (.invokevirtual 261, 3) := by decide +kernel
theorem dX6_nextInTurn_34 : decode cX6_nextInTurn 34 = .ok (.ifCond .eq 5, 3) := by decide +kernel
theorem dX6_nextInTurn_37 : decode cX6_nextInTurn 37 = .ok (.iload_n 2, 1) := by decide +kernel
theorem dX6_nextInTurn_38 : decode cX6_nextInTurn 38 = .ok (.istore_n 1, 1) := by decide +kernel
theorem dX6_nextInTurn_39 : decode cX6_nextInTurn 39 = .ok (.iinc 2 1, 3) := by decide +kernel
theorem dX6_nextInTurn_42 : decode cX6_nextInTurn 42 = .ok (.goto (-38), 3) := by decide +kernel
theorem dX6_nextInTurn_45 : decode cX6_nextInTurn 45 = .ok (.iload_n 1, 1) := by decide +kernel
theorem dX6_nextInTurn_46 : decode cX6_nextInTurn 46 = .ok (.ireturn, 1) := by decide +kernel
set_option maxRecDepth 20000 in
theorem ggX6_canGet_X5_waits : GoodIn wsX6_canGet wsX5_waits := goodIn_r _ [8, 9, 10, 11, 12, 6, 13, 14, 15, 16, 17, 18, 19, 52, 53, 54, 55, 56, 57, 58] (by decide +kernel) (by decide +kernel)
set_option maxRecDepth 20000 in
theorem gX6_canGet_X5_waits_n206 : GoodIn wsX6_canGet (wsX5_waits) := ggX6_canGet_X5_waits
set_option maxRecDepth 20000 in
theorem ggX6_canGet_X3_mayTake : GoodIn wsX6_canGet wsX3_mayTake := goodIn_r _ [23, 24, 25, 26, 27, 28, 29, 30, 21, 31, 32, 59, 60, 61, 62, 63, 64, 65] (by decide +kernel) (by decide +kernel)
set_option maxRecDepth 20000 in
theorem gX6_canGet_X3_mayTake_n265 : GoodIn wsX6_canGet (wsX3_mayTake) := ggX6_canGet_X3_mayTake
set_option maxRecDepth 20000 in
theorem ggX6_canGet_X1_onShelf : GoodIn wsX6_canGet wsX1_onShelf := goodIn_r _ [36, 37, 38, 39, 40, 34, 41, 66, 67, 68, 69, 70, 71, 72, 73, 74, 75, 76, 77, 78] (by decide +kernel) (by decide +kernel)
set_option maxRecDepth 20000 in
theorem gX6_canGet_X1_onShelf_n269 : GoodIn wsX6_canGet (wsX1_onShelf) := ggX6_canGet_X1_onShelf
theorem dX6_canGet_0 : decode cX6_canGet 0 = .ok (.aload_n 0, 1) := by decide +kernel
theorem dX6_canGet_1 : decode cX6_canGet 1 = .ok (.getfield 40, 3) := by decide +kernel
theorem dX6_canGet_4 : decode cX6_canGet 4 = .ok (.iload_n 1, 1) := by decide +kernel
theorem dX6_canGet_5 : decode cX6_canGet 5 = .ok (.invokevirtual 206, 3) := by decide +kernel
theorem dX6_canGet_8 : decode cX6_canGet 8 = .ok (.ifCond .eq 58, 3) := by decide +kernel
theorem dX6_canGet_11 : decode cX6_canGet 11 = .ok (.aload_n 0, 1) := by decide +kernel
theorem dX6_canGet_12 : decode cX6_canGet 12 = .ok (.getfield 33, 3) := by decide +kernel
theorem dX6_canGet_15 : decode cX6_canGet 15 = .ok (.aload_n 0, 1) := by decide +kernel
theorem dX6_canGet_16 : decode cX6_canGet 16 = .ok (.getfield 40, 3) := by decide +kernel
theorem dX6_canGet_19 : decode cX6_canGet 19 = .ok (.getfield 264, 3) := by decide +kernel
theorem dX6_canGet_22 : decode cX6_canGet 22 = .ok (.iload_n 1, 1) := by decide +kernel
theorem dX6_canGet_23 : decode cX6_canGet 23 = .ok (.iaload, 1) := by decide +kernel
theorem dX6_canGet_24 : decode cX6_canGet 24 = .ok (.aload_n 0, 1) := by decide +kernel
theorem dX6_canGet_25 : decode cX6_canGet 25 = .ok (.getfield 51, 3) := by decide +kernel
theorem dX6_canGet_28 : decode cX6_canGet 28 = .ok (.invokevirtual 265, 3) := by decide +kernel
theorem dX6_canGet_31 : decode cX6_canGet 31 = .ok (.ifCond .eq 35, 3) := by decide +kernel
theorem dX6_canGet_34 : decode cX6_canGet 34 = .ok (.aload_n 0, 1) := by decide +kernel
theorem dX6_canGet_35 : decode cX6_canGet 35 = .ok (.getfield 26, 3) := by decide +kernel
theorem dX6_canGet_38 : decode cX6_canGet 38 = .ok (.aload_n 0, 1) := by decide +kernel
theorem dX6_canGet_39 : decode cX6_canGet 39 = .ok (.getfield 40, 3) := by decide +kernel
theorem dX6_canGet_42 : decode cX6_canGet 42 = .ok (.getfield 268, 3) := by decide +kernel
theorem dX6_canGet_45 : decode cX6_canGet 45 = .ok (.iload_n 1, 1) := by decide +kernel
theorem dX6_canGet_46 : decode cX6_canGet 46 = .ok (.iaload, 1) := by decide +kernel
theorem dX6_canGet_47 : decode cX6_canGet 47 = .ok (.aload_n 0, 1) := by decide +kernel
theorem dX6_canGet_48 : decode cX6_canGet 48 = .ok (.getfield 40, 3) := by decide +kernel
theorem dX6_canGet_51 : decode cX6_canGet 51 = .ok (.getfield 200, 3) := by decide +kernel
theorem dX6_canGet_54 : decode cX6_canGet 54 = .ok (.iload_n 1, 1) := by decide +kernel
theorem dX6_canGet_55 : decode cX6_canGet 55 = .ok (.iaload, 1) := by decide +kernel
theorem dX6_canGet_56 : decode cX6_canGet 56 = .ok (.invokevirtual 269, 3) := by decide +kernel
theorem dX6_canGet_59 : decode cX6_canGet 59 = .ok (.ifCond .le 7, 3) := by decide +kernel
theorem dX6_canGet_62 : decode cX6_canGet 62 = .ok (.iconst 1, 1) := by decide +kernel
theorem dX6_canGet_63 : decode cX6_canGet 63 = .ok (.goto 4, 3) := by decide +kernel
theorem dX6_canGet_66 : decode cX6_canGet 66 = .ok (.iconst 0, 1) := by decide +kernel
theorem dX6_canGet_67 : decode cX6_canGet 67 = .ok (.ireturn, 1) := by decide +kernel
set_option maxRecDepth 20000 in
theorem ggX6_goesAhead_X3_rankOf : GoodIn wsX6_goesAhead wsX3_rankOf := goodIn_r _ [6, 7, 8, 9, 10, 4, 11, 12, 30, 31, 32, 33, 34, 35, 36] (by decide +kernel) (by decide +kernel)
set_option maxRecDepth 20000 in
theorem gX6_goesAhead_X3_rankOf_n272 : GoodIn wsX6_goesAhead (wsX3_rankOf) := ggX6_goesAhead_X3_rankOf
theorem dX6_goesAhead_0 : decode cX6_goesAhead 0 = .ok (.aload_n 0, 1) := by decide +kernel
theorem dX6_goesAhead_1 : decode cX6_goesAhead 1 = .ok (.getfield 33, 3) := by decide +kernel
theorem dX6_goesAhead_4 : decode cX6_goesAhead 4 = .ok (.aload_n 0, 1) := by decide +kernel
theorem dX6_goesAhead_5 : decode cX6_goesAhead 5 = .ok (.getfield 40, 3) := by decide +kernel
theorem dX6_goesAhead_8 : decode cX6_goesAhead 8 = .ok (.getfield 264, 3) := by decide +kernel
theorem dX6_goesAhead_11 : decode cX6_goesAhead 11 = .ok (.iload_n 1, 1) := by decide +kernel
theorem dX6_goesAhead_12 : decode cX6_goesAhead 12 = .ok (.iaload, 1) := by decide +kernel
theorem dX6_goesAhead_13 : decode cX6_goesAhead 13 = .ok (.invokevirtual 272, 3) := by decide +kernel
theorem dX6_goesAhead_16 : decode cX6_goesAhead 16 = .ok (.istore_n 3, 1) := by decide +kernel
theorem dX6_goesAhead_17 : decode cX6_goesAhead 17 = .ok (.aload_n 0, 1) := by decide +kernel
theorem dX6_goesAhead_18 : decode cX6_goesAhead 18 = .ok (.getfield 33, 3) := by decide +kernel
theorem dX6_goesAhead_21 : decode cX6_goesAhead 21 = .ok (.aload_n 0, 1) := by decide +kernel
theorem dX6_goesAhead_22 : decode cX6_goesAhead 22 = .ok (.getfield 40, 3) := by decide +kernel
theorem dX6_goesAhead_25 : decode cX6_goesAhead 25 = .ok (.getfield 264, 3) := by decide +kernel
theorem dX6_goesAhead_28 : decode cX6_goesAhead 28 = .ok (.iload_n 2, 1) := by decide +kernel
theorem dX6_goesAhead_29 : decode cX6_goesAhead 29 = .ok (.iaload, 1) := by decide +kernel
theorem dX6_goesAhead_30 : decode cX6_goesAhead 30 = .ok (.invokevirtual 272, 3) := by decide +kernel
theorem dX6_goesAhead_33 : decode cX6_goesAhead 33 = .ok (.istore 4, 2) := by decide +kernel
theorem dX6_goesAhead_35 : decode cX6_goesAhead 35 = .ok (.iload_n 3, 1) := by decide +kernel
theorem dX6_goesAhead_36 : decode cX6_goesAhead 36 = .ok (.iload 4, 2) := by decide +kernel
theorem dX6_goesAhead_38 : decode cX6_goesAhead 38 = .ok (.if_icmp .eq 15, 3) := by decide +kernel
theorem dX6_goesAhead_41 : decode cX6_goesAhead 41 = .ok (.iload_n 3, 1) := by decide +kernel
theorem dX6_goesAhead_42 : decode cX6_goesAhead 42 = .ok (.iload 4, 2) := by decide +kernel
theorem dX6_goesAhead_44 : decode cX6_goesAhead 44 = .ok (.if_icmp .le 7, 3) := by decide +kernel
theorem dX6_goesAhead_47 : decode cX6_goesAhead 47 = .ok (.iconst 1, 1) := by decide +kernel
theorem dX6_goesAhead_48 : decode cX6_goesAhead 48 = .ok (.goto 4, 3) := by decide +kernel
theorem dX6_goesAhead_51 : decode cX6_goesAhead 51 = .ok (.iconst 0, 1) := by decide +kernel
theorem dX6_goesAhead_52 : decode cX6_goesAhead 52 = .ok (.ireturn, 1) := by decide +kernel
theorem dX6_goesAhead_53 : decode cX6_goesAhead 53 = .ok (.aload_n 0, 1) := by decide +kernel
theorem dX6_goesAhead_54 : decode cX6_goesAhead 54 = .ok (.getfield 40, 3) := by decide +kernel
theorem dX6_goesAhead_57 : decode cX6_goesAhead 57 = .ok (.getfield 209, 3) := by decide +kernel
theorem dX6_goesAhead_60 : decode cX6_goesAhead 60 = .ok (.iload_n 1, 1) := by decide +kernel
theorem dX6_goesAhead_61 : decode cX6_goesAhead 61 = .ok (.iaload, 1) := by decide +kernel
theorem dX6_goesAhead_62 : decode cX6_goesAhead 62 = .ok (.aload_n 0, 1) := by decide +kernel
theorem dX6_goesAhead_63 : decode cX6_goesAhead 63 = .ok (.getfield 40, 3) := by decide +kernel
theorem dX6_goesAhead_66 : decode cX6_goesAhead 66 = .ok (.getfield 209, 3) := by decide +kernel
theorem dX6_goesAhead_69 : decode cX6_goesAhead 69 = .ok (.iload_n 2, 1) := by decide +kernel
theorem dX6_goesAhead_70 : decode cX6_goesAhead 70 = .ok (.iaload, 1) := by decide +kernel
theorem dX6_goesAhead_71 : decode cX6_goesAhead 71 = .ok (.if_icmp .ge 7, 3) := by decide +kernel
theorem dX6_goesAhead_74 : decode cX6_goesAhead 74 = .ok (.iconst 1, 1) := by decide +kernel
theorem dX6_goesAhead_75 : decode cX6_goesAhead 75 = .ok (.goto 4, 3) := by decide +kernel
theorem dX6_goesAhead_78 : decode cX6_goesAhead 78 = .ok (.iconst 0, 1) := by decide +kernel
theorem dX6_goesAhead_79 : decode cX6_goesAhead 79 = .ok (.ireturn, 1) := by decide +kernel
set_option maxRecDepth 20000 in
theorem ggX6_lendFor_X1_leastOnShelf : GoodIn wsX6_lendFor wsX1_leastOnShelf := goodIn_r _ [8, 9, 10, 11, 12, 75, 76, 77, 78, 79, 80, 81, 82, 83, 84, 85, 86, 87] (by decide +kernel) (by decide +kernel)
set_option maxRecDepth 20000 in
theorem gX6_lendFor_X1_leastOnShelf_n275 : GoodIn wsX6_lendFor (wsX1_leastOnShelf) := ggX6_lendFor_X1_leastOnShelf
set_option maxRecDepth 20000 in
theorem ggX6_lendFor_X3_has : GoodIn wsX6_lendFor wsX3_has := goodIn_r _ [16, 17, 68, 69, 70, 71, 72, 73, 74] (by decide +kernel) (by decide +kernel)
set_option maxRecDepth 20000 in
theorem gX6_lendFor_X3_has_n109 : GoodIn wsX6_lendFor (wsX3_has) := ggX6_lendFor_X3_has
set_option maxRecDepth 20000 in
theorem ggX6_lendFor_X1_lend : GoodIn wsX6_lendFor wsX1_lend := goodIn_r _ [20, 21, 22, 23, 75, 76, 77, 78, 79, 80, 81, 82, 83, 84, 85, 86, 87] (by decide +kernel) (by decide +kernel)
set_option maxRecDepth 20000 in
theorem gX6_lendFor_X1_lend_n278 : GoodIn wsX6_lendFor (wsX1_lend) := ggX6_lendFor_X1_lend
set_option maxRecDepth 20000 in
theorem ggX6_lendFor_X1_handOver : GoodIn wsX6_lendFor wsX1_handOver := goodIn_r _ [26, 27, 28, 29, 30, 31, 6, 32, 10, 33, 34, 35, 36, 11, 12, 37, 38, 39, 40, 41, 42, 43, 44, 45, 46, 47, 75, 76, 77, 78, 79, 80, 81, 82, 83, 84, 85, 86, 87] (by decide +kernel) (by decide +kernel)
set_option maxRecDepth 20000 in
theorem gX6_lendFor_X1_handOver_n248 : GoodIn wsX6_lendFor (wsX1_handOver) := ggX6_lendFor_X1_handOver
set_option maxRecDepth 20000 in
theorem ggX6_lendFor_X1_sendOut : GoodIn wsX6_lendFor wsX1_sendOut := goodIn_r _ [50, 28, 29, 30, 31, 6, 32, 10, 33, 34, 35, 36, 11, 12, 37, 38, 39, 40, 41, 42, 43, 44, 45, 46, 47, 75, 76, 77, 78, 79, 80, 81, 82, 83, 84, 85, 86, 87] (by decide +kernel) (by decide +kernel)
set_option maxRecDepth 20000 in
theorem gX6_lendFor_X1_sendOut_n281 : GoodIn wsX6_lendFor (wsX1_sendOut) := ggX6_lendFor_X1_sendOut
theorem dX6_lendFor_0 : decode cX6_lendFor 0 = .ok (.aload_n 0, 1) := by decide +kernel
theorem dX6_lendFor_1 : decode cX6_lendFor 1 = .ok (.getfield 40, 3) := by decide +kernel
theorem dX6_lendFor_4 : decode cX6_lendFor 4 = .ok (.getfield 264, 3) := by decide +kernel
theorem dX6_lendFor_7 : decode cX6_lendFor 7 = .ok (.iload_n 1, 1) := by decide +kernel
theorem dX6_lendFor_8 : decode cX6_lendFor 8 = .ok (.iaload, 1) := by decide +kernel
theorem dX6_lendFor_9 : decode cX6_lendFor 9 = .ok (.istore_n 2, 1) := by decide +kernel
theorem dX6_lendFor_10 : decode cX6_lendFor 10 = .ok (.aload_n 0, 1) := by decide +kernel
theorem dX6_lendFor_11 : decode cX6_lendFor 11 = .ok (.getfield 26, 3) := by decide +kernel
theorem dX6_lendFor_14 : decode cX6_lendFor 14 = .ok (.aload_n 0, 1) := by decide +kernel
theorem dX6_lendFor_15 : decode cX6_lendFor 15 = .ok (.getfield 40, 3) := by decide +kernel
theorem dX6_lendFor_18 : decode cX6_lendFor 18 = .ok (.getfield 268, 3) := by decide +kernel
theorem dX6_lendFor_21 : decode cX6_lendFor 21 = .ok (.iload_n 1, 1) := by decide +kernel
theorem dX6_lendFor_22 : decode cX6_lendFor 22 = .ok (.iaload, 1) := by decide +kernel
theorem dX6_lendFor_23 : decode cX6_lendFor 23 = .ok (.aload_n 0, 1) := by decide +kernel
theorem dX6_lendFor_24 : decode cX6_lendFor 24 = .ok (.getfield 40, 3) := by decide +kernel
theorem dX6_lendFor_27 : decode cX6_lendFor 27 = .ok (.getfield 200, 3) := by decide +kernel
theorem dX6_lendFor_30 : decode cX6_lendFor 30 = .ok (.iload_n 1, 1) := by decide +kernel
theorem dX6_lendFor_31 : decode cX6_lendFor 31 = .ok (.iaload, 1) := by decide +kernel
theorem dX6_lendFor_32 : decode cX6_lendFor 32 = .ok (.invokevirtual 275, 3) := by decide +kernel
theorem dX6_lendFor_35 : decode cX6_lendFor 35 = .ok (.istore_n 3, 1) := by decide +kernel
theorem dX6_lendFor_36 : decode cX6_lendFor 36 = .ok (.iload_n 3, 1) := by decide +kernel
theorem dX6_lendFor_37 : decode cX6_lendFor 37 = .ok (.iconst (-1), 1) := by decide +kernel
theorem dX6_lendFor_38 : decode cX6_lendFor 38 = .ok (.if_icmp .eq 14, 3) := by decide +kernel
theorem dX6_lendFor_41 : decode cX6_lendFor 41 = .ok (.aload_n 0, 1) := by decide +kernel
theorem dX6_lendFor_42 : decode cX6_lendFor 42 = .ok (.getfield 33, 3) := by decide +kernel
theorem dX6_lendFor_45 : decode cX6_lendFor 45 = .ok (.iload_n 2, 1) := by decide +kernel
theorem dX6_lendFor_46 : decode cX6_lendFor 46 = .ok (.invokevirtual 109, 3) := by decide +kernel
theorem dX6_lendFor_49 : decode cX6_lendFor 49 = .ok (.ifCond .ne 4, 3) := by decide +kernel
theorem dX6_lendFor_52 : decode cX6_lendFor 52 = .ok (.return_, 1) := by decide +kernel
theorem dX6_lendFor_53 : decode cX6_lendFor 53 = .ok (.aload_n 0, 1) := by decide +kernel
theorem dX6_lendFor_54 : decode cX6_lendFor 54 = .ok (.getfield 40, 3) := by decide +kernel
theorem dX6_lendFor_57 : decode cX6_lendFor 57 = .ok (.getfield 203, 3) := by decide +kernel
theorem dX6_lendFor_60 : decode cX6_lendFor 60 = .ok (.iload_n 1, 1) := by decide +kernel
theorem dX6_lendFor_61 : decode cX6_lendFor 61 = .ok (.iload_n 3, 1) := by decide +kernel
theorem dX6_lendFor_62 : decode cX6_lendFor 62 = .ok (.iastore, 1) := by decide +kernel
theorem dX6_lendFor_63 : decode cX6_lendFor 63 = .ok (.aload_n 0, 1) := by decide +kernel
theorem dX6_lendFor_64 : decode cX6_lendFor 64 = .ok (.getfield 26, 3) := by decide +kernel
theorem dX6_lendFor_67 : decode cX6_lendFor 67 = .ok (.iload_n 3, 1) := by decide +kernel
theorem dX6_lendFor_68 : decode cX6_lendFor 68 = .ok (.iload_n 2, 1) := by decide +kernel
theorem dX6_lendFor_69 : decode cX6_lendFor 69 = .ok (.iload_n 1, 1) := by decide +kernel
theorem dX6_lendFor_70 : decode cX6_lendFor 70 = .ok (.invokevirtual 278, 3) := by decide +kernel
theorem dX6_lendFor_73 : decode cX6_lendFor 73 = .ok (.aload_n 0, 1) := by decide +kernel
theorem dX6_lendFor_74 : decode cX6_lendFor 74 = .ok (.getfield 33, 3) := by decide +kernel
theorem dX6_lendFor_77 : decode cX6_lendFor 77 = .ok (.getfield 156, 3) := by decide +kernel
theorem dX6_lendFor_80 : decode cX6_lendFor 80 = .ok (.iload_n 2, 1) := by decide +kernel
theorem dX6_lendFor_81 : decode cX6_lendFor 81 = .ok (.iaload, 1) := by decide +kernel
theorem dX6_lendFor_82 : decode cX6_lendFor 82 = .ok (.ifCond .ne 31, 3) := by decide +kernel
theorem dX6_lendFor_85 : decode cX6_lendFor 85 = .ok (.aload_n 0, 1) := by decide +kernel
theorem dX6_lendFor_86 : decode cX6_lendFor 86 = .ok (.getfield 26, 3) := by decide +kernel
theorem dX6_lendFor_89 : decode cX6_lendFor 89 = .ok (.iload_n 3, 1) := by decide +kernel
theorem dX6_lendFor_90 : decode cX6_lendFor 90 = .ok (.aload_n 0, 1) := by decide +kernel
theorem dX6_lendFor_91 : decode cX6_lendFor 91 = .ok (.getfield 51, 3) := by decide +kernel
theorem dX6_lendFor_94 : decode cX6_lendFor 94 = .ok (.invokevirtual 248, 3) := by decide +kernel
theorem dX6_lendFor_97 : decode cX6_lendFor 97 = .ok (.aload_n 0, 1) := by decide +kernel
theorem dX6_lendFor_98 : decode cX6_lendFor 98 = .ok (.getfield 33, 3) := by decide +kernel
theorem dX6_lendFor_101 : decode cX6_lendFor 101 = .ok (.getfield 153, 3) := by decide +kernel
theorem dX6_lendFor_104 : decode cX6_lendFor 104 = .ok (.iload_n 2, 1) := by decide +kernel
theorem dX6_lendFor_105 : decode cX6_lendFor 105 = .ok (.dup2, 1) := by decide +kernel
theorem dX6_lendFor_106 : decode cX6_lendFor 106 = .ok (.iaload, 1) := by decide +kernel
theorem dX6_lendFor_107 : decode cX6_lendFor 107 = .ok (.iconst 1, 1) := by decide +kernel
theorem dX6_lendFor_108 : decode cX6_lendFor 108 = .ok (.iadd, 1) := by decide +kernel
theorem dX6_lendFor_109 : decode cX6_lendFor 109 = .ok (.iastore, 1) := by decide +kernel
theorem dX6_lendFor_110 : decode cX6_lendFor 110 = .ok (.goto 33, 3) := by decide +kernel
theorem dX6_lendFor_113 : decode cX6_lendFor 113 = .ok (.aload_n 0, 1) := by decide +kernel
theorem dX6_lendFor_114 : decode cX6_lendFor 114 = .ok (.getfield 26, 3) := by decide +kernel
theorem dX6_lendFor_117 : decode cX6_lendFor 117 = .ok (.iload_n 3, 1) := by decide +kernel
theorem dX6_lendFor_118 : decode cX6_lendFor 118 = .ok (.aload_n 0, 1) := by decide +kernel
theorem dX6_lendFor_119 : decode cX6_lendFor 119 = .ok (.getfield 33, 3) := by decide +kernel
theorem dX6_lendFor_122 : decode cX6_lendFor 122 = .ok (.getfield 156, 3) := by decide +kernel
theorem dX6_lendFor_125 : decode cX6_lendFor 125 = .ok (.iload_n 2, 1) := by decide +kernel
theorem dX6_lendFor_126 : decode cX6_lendFor 126 = .ok (.iaload, 1) := by decide +kernel
theorem dX6_lendFor_127 : decode cX6_lendFor 127 = .ok (.invokevirtual 281, 3) := by decide +kernel
theorem dX6_lendFor_130 : decode cX6_lendFor 130 = .ok (.aload_n 0, 1) := by decide +kernel
theorem dX6_lendFor_131 : decode cX6_lendFor 131 = .ok (.getfield 33, 3) := by decide +kernel
theorem dX6_lendFor_134 : decode cX6_lendFor 134 = .ok (.getfield 165, 3) := by decide +kernel
theorem dX6_lendFor_137 : decode cX6_lendFor 137 = .ok (.iload_n 2, 1) := by decide +kernel
theorem dX6_lendFor_138 : decode cX6_lendFor 138 = .ok (.dup2, 1) := by decide +kernel
theorem dX6_lendFor_139 : decode cX6_lendFor 139 = .ok (.iaload, 1) := by decide +kernel
theorem dX6_lendFor_140 : decode cX6_lendFor 140 = .ok (.iconst 1, 1) := by decide +kernel
theorem dX6_lendFor_141 : decode cX6_lendFor 141 = .ok (.iadd, 1) := by decide +kernel
theorem dX6_lendFor_142 : decode cX6_lendFor 142 = .ok (.iastore, 1) := by decide +kernel
theorem dX6_lendFor_143 : decode cX6_lendFor 143 = .ok (.return_, 1) := by decide +kernel
set_option maxRecDepth 20000 in
theorem ggX6_lateCost_X1_isAt : GoodIn wsX6_lateCost wsX1_isAt := goodIn_r _ [7, 8, 9, 10, 11, 5, 12, 13, 42, 43, 44, 45, 46, 47, 48, 49, 50, 51, 52, 53, 54] (by decide +kernel) (by decide +kernel)
set_option maxRecDepth 20000 in
theorem gX6_lateCost_X1_isAt_n97 : GoodIn wsX6_lateCost (wsX1_isAt) := ggX6_lateCost_X1_isAt
set_option maxRecDepth 20000 in
theorem ggX6_lateCost_X3_lateCost : GoodIn wsX6_lateCost wsX3_lateCost := goodIn_r _ [17, 18, 19, 20, 21, 22, 23, 24, 15, 25, 26, 27, 28, 29, 30, 31, 55, 56, 57, 58, 59, 60, 61] (by decide +kernel) (by decide +kernel)
set_option maxRecDepth 20000 in
theorem gX6_lateCost_X3_lateCost_n284 : GoodIn wsX6_lateCost (wsX3_lateCost) := ggX6_lateCost_X3_lateCost
theorem dX6_lateCost_0 : decode cX6_lateCost 0 = .ok (.aload_n 0, 1) := by decide +kernel
theorem dX6_lateCost_1 : decode cX6_lateCost 1 = .ok (.getfield 26, 3) := by decide +kernel
theorem dX6_lateCost_4 : decode cX6_lateCost 4 = .ok (.iload_n 1, 1) := by decide +kernel
theorem dX6_lateCost_5 : decode cX6_lateCost 5 = .ok (.iconst 1, 1) := by decide +kernel
theorem dX6_lateCost_6 : decode cX6_lateCost 6 = .ok (.invokevirtual 97, 3) := by decide +kernel
theorem dX6_lateCost_9 : decode cX6_lateCost 9 = .ok (.ifCond .ne 5, 3) := by decide +kernel
theorem dX6_lateCost_12 : decode cX6_lateCost 12 = .ok (.iconst 0, 1) := by decide +kernel
theorem dX6_lateCost_13 : decode cX6_lateCost 13 = .ok (.ireturn, 1) := by decide +kernel
theorem dX6_lateCost_14 : decode cX6_lateCost 14 = .ok (.aload_n 0, 1) := by decide +kernel
theorem dX6_lateCost_15 : decode cX6_lateCost 15 = .ok (.getfield 33, 3) := by decide +kernel
theorem dX6_lateCost_18 : decode cX6_lateCost 18 = .ok (.iload_n 2, 1) := by decide +kernel
theorem dX6_lateCost_19 : decode cX6_lateCost 19 = .ok (.aload_n 0, 1) := by decide +kernel
theorem dX6_lateCost_20 : decode cX6_lateCost 20 = .ok (.getfield 51, 3) := by decide +kernel
theorem dX6_lateCost_23 : decode cX6_lateCost 23 = .ok (.aload_n 0, 1) := by decide +kernel
theorem dX6_lateCost_24 : decode cX6_lateCost 24 = .ok (.getfield 26, 3) := by decide +kernel
theorem dX6_lateCost_27 : decode cX6_lateCost 27 = .ok (.getfield 184, 3) := by decide +kernel
theorem dX6_lateCost_30 : decode cX6_lateCost 30 = .ok (.iload_n 1, 1) := by decide +kernel
theorem dX6_lateCost_31 : decode cX6_lateCost 31 = .ok (.iaload, 1) := by decide +kernel
theorem dX6_lateCost_32 : decode cX6_lateCost 32 = .ok (.isub, 1) := by decide +kernel
theorem dX6_lateCost_33 : decode cX6_lateCost 33 = .ok (.invokevirtual 284, 3) := by decide +kernel
theorem dX6_lateCost_36 : decode cX6_lateCost 36 = .ok (.ireturn, 1) := by decide +kernel
set_option maxRecDepth 20000 in
theorem ggX6_takeFrom_X1_isAt : GoodIn wsX6_takeFrom wsX1_isAt := goodIn_r _ [6, 7, 8, 9, 10, 4, 11, 12, 30, 31, 32, 33, 34, 35, 36, 37, 38, 39, 40, 41, 42] (by decide +kernel) (by decide +kernel)
set_option maxRecDepth 20000 in
theorem gX6_takeFrom_X1_isAt_n97 : GoodIn wsX6_takeFrom (wsX1_isAt) := ggX6_takeFrom_X1_isAt
theorem dX6_takeFrom_0 : decode cX6_takeFrom 0 = .ok (.aload_n 0, 1) := by decide +kernel
theorem dX6_takeFrom_1 : decode cX6_takeFrom 1 = .ok (.getfield 26, 3) := by decide +kernel
theorem dX6_takeFrom_4 : decode cX6_takeFrom 4 = .ok (.iload_n 2, 1) := by decide +kernel
theorem dX6_takeFrom_5 : decode cX6_takeFrom 5 = .ok (.iconst 1, 1) := by decide +kernel
theorem dX6_takeFrom_6 : decode cX6_takeFrom 6 = .ok (.invokevirtual 97, 3) := by decide +kernel
theorem dX6_takeFrom_9 : decode cX6_takeFrom 9 = .ok (.ifCond .eq 19, 3) := by decide +kernel
theorem dX6_takeFrom_12 : decode cX6_takeFrom 12 = .ok (.aload_n 0, 1) := by decide +kernel
theorem dX6_takeFrom_13 : decode cX6_takeFrom 13 = .ok (.getfield 33, 3) := by decide +kernel
theorem dX6_takeFrom_16 : decode cX6_takeFrom 16 = .ok (.getfield 153, 3) := by decide +kernel
theorem dX6_takeFrom_19 : decode cX6_takeFrom 19 = .ok (.iload_n 1, 1) := by decide +kernel
theorem dX6_takeFrom_20 : decode cX6_takeFrom 20 = .ok (.dup2, 1) := by decide +kernel
theorem dX6_takeFrom_21 : decode cX6_takeFrom 21 = .ok (.iaload, 1) := by decide +kernel
theorem dX6_takeFrom_22 : decode cX6_takeFrom 22 = .ok (.iconst 1, 1) := by decide +kernel
theorem dX6_takeFrom_23 : decode cX6_takeFrom 23 = .ok (.isub, 1) := by decide +kernel
theorem dX6_takeFrom_24 : decode cX6_takeFrom 24 = .ok (.iastore, 1) := by decide +kernel
theorem dX6_takeFrom_25 : decode cX6_takeFrom 25 = .ok (.goto 16, 3) := by decide +kernel
theorem dX6_takeFrom_28 : decode cX6_takeFrom 28 = .ok (.aload_n 0, 1) := by decide +kernel
theorem dX6_takeFrom_29 : decode cX6_takeFrom 29 = .ok (.getfield 33, 3) := by decide +kernel
theorem dX6_takeFrom_32 : decode cX6_takeFrom 32 = .ok (.getfield 165, 3) := by decide +kernel
theorem dX6_takeFrom_35 : decode cX6_takeFrom 35 = .ok (.iload_n 1, 1) := by decide +kernel
theorem dX6_takeFrom_36 : decode cX6_takeFrom 36 = .ok (.dup2, 1) := by decide +kernel
theorem dX6_takeFrom_37 : decode cX6_takeFrom 37 = .ok (.iaload, 1) := by decide +kernel
theorem dX6_takeFrom_38 : decode cX6_takeFrom 38 = .ok (.iconst 1, 1) := by decide +kernel
theorem dX6_takeFrom_39 : decode cX6_takeFrom 39 = .ok (.isub, 1) := by decide +kernel
theorem dX6_takeFrom_40 : decode cX6_takeFrom 40 = .ok (.iastore, 1) := by decide +kernel
theorem dX6_takeFrom_41 : decode cX6_takeFrom 41 = .ok (.return_, 1) := by decide +kernel
set_option maxRecDepth 20000 in
theorem ggX6_countAsHad_X5_has : GoodIn wsX6_countAsHad wsX5_has := goodIn_r _ [7, 8, 36, 37, 38, 39, 40, 41, 42] (by decide +kernel) (by decide +kernel)
set_option maxRecDepth 20000 in
theorem gX6_countAsHad_X5_has_n199 : GoodIn wsX6_countAsHad (wsX5_has) := ggX6_countAsHad_X5_has
set_option maxRecDepth 20000 in
theorem ggX6_countAsHad_X4_volumesOf : GoodIn wsX6_countAsHad wsX4_volumesOf := goodIn_r _ [12, 13, 14, 15, 16, 10, 17, 18, 43, 44] (by decide +kernel) (by decide +kernel)
set_option maxRecDepth 20000 in
theorem gX6_countAsHad_X4_volumesOf_n83 : GoodIn wsX6_countAsHad (wsX4_volumesOf) := ggX6_countAsHad_X4_volumesOf
set_option maxRecDepth 20000 in
theorem ggX6_countAsHad_X5_countAsHad : GoodIn wsX6_countAsHad wsX5_countAsHad := goodIn_r _ [21, 22, 23, 24, 25, 36, 37, 38, 39, 40, 41, 42] (by decide +kernel) (by decide +kernel)
set_option maxRecDepth 20000 in
theorem gX6_countAsHad_X5_countAsHad_n285 : GoodIn wsX6_countAsHad (wsX5_countAsHad) := ggX6_countAsHad_X5_countAsHad
theorem dX6_countAsHad_0 : decode cX6_countAsHad 0 = .ok (.aload_n 0, 1) := by decide +kernel
theorem dX6_countAsHad_1 : decode cX6_countAsHad 1 = .ok (.getfield 40, 3) := by decide +kernel
theorem dX6_countAsHad_4 : decode cX6_countAsHad 4 = .ok (.iload_n 1, 1) := by decide +kernel
theorem dX6_countAsHad_5 : decode cX6_countAsHad 5 = .ok (.invokevirtual 199, 3) := by decide +kernel
theorem dX6_countAsHad_8 : decode cX6_countAsHad 8 = .ok (.ifCond .eq 31, 3) := by decide +kernel
theorem dX6_countAsHad_11 : decode cX6_countAsHad 11 = .ok (.aload_n 0, 1) := by decide +kernel
theorem dX6_countAsHad_12 : decode cX6_countAsHad 12 = .ok (.getfield 40, 3) := by decide +kernel
theorem dX6_countAsHad_15 : decode cX6_countAsHad 15 = .ok (.iload_n 1, 1) := by decide +kernel
theorem dX6_countAsHad_16 : decode cX6_countAsHad 16 = .ok (.aload_n 0, 1) := by decide +kernel
theorem dX6_countAsHad_17 : decode cX6_countAsHad 17 = .ok (.getfield 10, 3) := by decide +kernel
theorem dX6_countAsHad_20 : decode cX6_countAsHad 20 = .ok (.aload_n 0, 1) := by decide +kernel
theorem dX6_countAsHad_21 : decode cX6_countAsHad 21 = .ok (.getfield 40, 3) := by decide +kernel
theorem dX6_countAsHad_24 : decode cX6_countAsHad 24 = .ok (.getfield 268, 3) := by decide +kernel
theorem dX6_countAsHad_27 : decode cX6_countAsHad 27 = .ok (.iload_n 1, 1) := by decide +kernel
theorem dX6_countAsHad_28 : decode cX6_countAsHad 28 = .ok (.iaload, 1) := by decide +kernel
theorem dX6_countAsHad_29 : decode cX6_countAsHad 29 = .ok (.invokevirtual 83, 3) := by decide +kernel
theorem dX6_countAsHad_32 : decode cX6_countAsHad 32 = .ok (.aload_n 0, 1) := by decide +kernel
theorem dX6_countAsHad_33 : decode cX6_countAsHad 33 = .ok (.getfield 51, 3) := by decide +kernel
theorem dX6_countAsHad_36 : decode cX6_countAsHad 36 = .ok (.invokevirtual 285, 3) := by decide +kernel
theorem dX6_countAsHad_39 : decode cX6_countAsHad 39 = .ok (.return_, 1) := by decide +kernel
