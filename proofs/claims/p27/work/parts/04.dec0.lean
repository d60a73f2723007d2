/-! ===== printed: decode rows, inner classes ===== -/
theorem dX0_init_0 : decode cX0_init 0 = .ok (.aload_n 0, 1) := by decide +kernel
theorem dX0_init_1 : decode cX0_init 1 = .ok (.invokespecial 3, 3) := by decide +kernel
theorem dX0_init_4 : decode cX0_init 4 = .ok (.aload_n 0, 1) := by decide +kernel
theorem dX0_init_5 : decode cX0_init 5 = .ok (.bipush 17, 2) := by decide +kernel
theorem dX0_init_7 : decode cX0_init 7 = .ok (.iconst 5, 1) := by decide +kernel
theorem dX0_init_8 : decode cX0_init 8 = .ok (.multianewarray 9 2, 4) := by decide +kernel
theorem dX0_init_12 : decode cX0_init 12 = .ok (.putfield 11, 3) := by decide +kernel
theorem dX0_init_15 : decode cX0_init 15 = .ok (.aload_n 0, 1) := by decide +kernel
theorem dX0_init_16 : decode cX0_init 16 = .ok (.bipush 17, 2) := by decide +kernel
theorem dX0_init_18 : decode cX0_init 18 = .ok (.newarray .int, 2) := by decide +kernel
theorem dX0_init_20 : decode cX0_init 20 = .ok (.putfield 16, 3) := by decide +kernel
theorem dX0_init_23 : decode cX0_init 23 = .ok (.aload_n 0, 1) := by decide +kernel
theorem dX0_init_24 : decode cX0_init 24 = .ok (.bipush 17, 2) := by decide +kernel
theorem dX0_init_26 : decode cX0_init 26 = .ok (.iconst 5, 1) := by decide +kernel
theorem dX0_init_27 : decode cX0_init 27 = .ok (.multianewarray 9 2, 4) := by decide +kernel
theorem dX0_init_31 : decode cX0_init 31 = .ok (.putfield 20, 3) := by decide +kernel
theorem dX0_init_34 : decode cX0_init 34 = .ok (.aload_n 0, 1) := by decide +kernel
theorem dX0_init_35 : decode cX0_init 35 = .ok (.iconst 0, 1) := by decide +kernel
theorem dX0_init_36 : decode cX0_init 36 = .ok (.putfield 23, 3) := by decide +kernel
theorem dX0_init_39 : decode cX0_init 39 = .ok (.aload_n 0, 1) := by decide +kernel
theorem dX0_init_40 : decode cX0_init 40 = .ok (.iconst 0, 1) := by decide +kernel
theorem dX0_init_41 : decode cX0_init 41 = .ok (.putfield 27, 3) := by decide +kernel
theorem dX0_init_44 : decode cX0_init 44 = .ok (.aload_n 0, 1) := by decide +kernel
theorem dX0_init_45 : decode cX0_init 45 = .ok (.iconst 0, 1) := by decide +kernel
theorem dX0_init_46 : decode cX0_init 46 = .ok (.putfield 30, 3) := by decide +kernel
theorem dX0_init_49 : decode cX0_init 49 = .ok (.return_, 1) := by decide +kernel
theorem dX0_begin_0 : decode cX0_begin 0 = .ok (.aload_n 0, 1) := by decide +kernel
theorem dX0_begin_1 : decode cX0_begin 1 = .ok (.iload_n 1, 1) := by decide +kernel
theorem dX0_begin_2 : decode cX0_begin 2 = .ok (.putfield 23, 3) := by decide +kernel
theorem dX0_begin_5 : decode cX0_begin 5 = .ok (.aload_n 0, 1) := by decide +kernel
theorem dX0_begin_6 : decode cX0_begin 6 = .ok (.iload_n 2, 1) := by decide +kernel
theorem dX0_begin_7 : decode cX0_begin 7 = .ok (.putfield 27, 3) := by decide +kernel
theorem dX0_begin_10 : decode cX0_begin 10 = .ok (.aload_n 0, 1) := by decide +kernel
theorem dX0_begin_11 : decode cX0_begin 11 = .ok (.iload_n 3, 1) := by decide +kernel
theorem dX0_begin_12 : decode cX0_begin 12 = .ok (.putfield 30, 3) := by decide +kernel
theorem dX0_begin_15 : decode cX0_begin 15 = .ok (.return_, 1) := by decide +kernel
set_option maxRecDepth 20000 in
theorem ggX0_leastCost_X0_fillRest : GoodIn wsX0_leastCost wsX0_fillRest := goodIn_r _ [7, 1, 8, 2, 9, 10, 11, 12, 6, 13, 14, 15, 16, 17, 18, 19, 20, 21, 22, 23, 24, 25, 26, 27, 28, 29, 30, 31, 32] (by decide +kernel) (by decide +kernel)
set_option maxRecDepth 20000 in
theorem gX0_leastCost_X0_fillRest : GoodIn wsX0_leastCost (wsV RX0 33 RX0 yX0_fillRest wsX0_fillRest) := goodIn_app (goodIn_of _ (by decide +kernel)) ggX0_leastCost_X0_fillRest
set_option maxRecDepth 20000 in
theorem ggX0_leastCost_X0_cheapest : GoodIn wsX0_leastCost wsX0_cheapest := goodIn_r _ [17, 8, 18, 19, 20, 6, 21, 2, 22, 23, 24, 25, 26, 27, 28, 29, 30, 31, 32] (by decide +kernel) (by decide +kernel)
set_option maxRecDepth 20000 in
theorem gX0_leastCost_X0_cheapest : GoodIn wsX0_leastCost (wsV RX0 36 RX0 yX0_cheapest wsX0_cheapest) := goodIn_app (goodIn_of _ (by decide +kernel)) ggX0_leastCost_X0_cheapest
theorem dX0_leastCost_0 : decode cX0_leastCost 0 = .ok (.aload_n 0, 1) := by decide +kernel
theorem dX0_leastCost_1 : decode cX0_leastCost 1 = .ok (.getfield 23, 3) := by decide +kernel
theorem dX0_leastCost_4 : decode cX0_leastCost 4 = .ok (.ifCond .ne 5, 3) := by decide +kernel
theorem dX0_leastCost_7 : decode cX0_leastCost 7 = .ok (.iconst 0, 1) := by decide +kernel
theorem dX0_leastCost_8 : decode cX0_leastCost 8 = .ok (.ireturn, 1) := by decide +kernel
theorem dX0_leastCost_9 : decode cX0_leastCost 9 = .ok (.aload_n 0, 1) := by decide +kernel
theorem dX0_leastCost_10 : decode cX0_leastCost 10 = .ok (.invokevirtual 33, 3) := by decide +kernel
theorem dX0_leastCost_13 : decode cX0_leastCost 13 = .ok (.aload_n 0, 1) := by decide +kernel
theorem dX0_leastCost_14 : decode cX0_leastCost 14 = .ok (.getfield 20, 3) := by decide +kernel
theorem dX0_leastCost_17 : decode cX0_leastCost 17 = .ok (.iconst 0, 1) := by decide +kernel
theorem dX0_leastCost_18 : decode cX0_leastCost 18 = .ok (.aaload, 1) := by decide +kernel
theorem dX0_leastCost_19 : decode cX0_leastCost 19 = .ok (.aload_n 0, 1) := by decide +kernel
theorem dX0_leastCost_20 : decode cX0_leastCost 20 = .ok (.iconst 0, 1) := by decide +kernel
theorem dX0_leastCost_21 : decode cX0_leastCost 21 = .ok (.iconst (-1), 1) := by decide +kernel
theorem dX0_leastCost_22 : decode cX0_leastCost 22 = .ok (.invokevirtual 36, 3) := by decide +kernel
theorem dX0_leastCost_25 : decode cX0_leastCost 25 = .ok (.iaload, 1) := by decide +kernel
theorem dX0_leastCost_26 : decode cX0_leastCost 26 = .ok (.ireturn, 1) := by decide +kernel
set_option maxRecDepth 20000 in
theorem ggX0_leastCostByTrying_X0_leastByTrying : GoodIn wsX0_leastCostByTrying wsX0_leastByTrying := goodIn_r _ [4, 5, 6, 7, 8, 9, 10, 11, 12, 13, 14, 15, 3, 16, 17, 1, 2, 18, 19, 20, 21, 22, 23] (by decide +kernel) (by decide +kernel)
set_option maxRecDepth 20000 in
theorem gX0_leastCostByTrying_X0_leastByTrying : GoodIn wsX0_leastCostByTrying (va_wsS RX0 40 yX0_leastByTrying wsX0_leastByTrying) := goodIn_app (goodIn_of _ (by decide +kernel)) ggX0_leastCostByTrying_X0_leastByTrying
theorem dX0_leastCostByTrying_0 : decode cX0_leastCostByTrying 0 = .ok (.aload_n 0, 1) := by decide +kernel
theorem dX0_leastCostByTrying_1 : decode cX0_leastCostByTrying 1 = .ok (.iconst 0, 1) := by decide +kernel
theorem dX0_leastCostByTrying_2 : decode cX0_leastCostByTrying 2 = .ok (.iconst (-1), 1) := by decide +kernel
theorem dX0_leastCostByTrying_3 : decode cX0_leastCostByTrying 3 = .ok (.invokestatic 40, 3) := by decide +kernel
theorem dX0_leastCostByTrying_6 : decode cX0_leastCostByTrying 6 = .ok (.ireturn, 1) := by decide +kernel
set_option maxRecDepth 20000 in
theorem ggX0_findToldCut_X0_fillRest : GoodIn wsX0_findToldCut wsX0_fillRest := goodIn_r _ [7, 1, 8, 9, 10, 11, 12, 13, 6, 14, 15, 16, 17, 18, 19, 20, 21, 22, 23, 24, 25, 26, 27, 28, 29, 30, 31, 32, 33] (by decide +kernel) (by decide +kernel)
set_option maxRecDepth 20000 in
theorem gX0_findToldCut_X0_fillRest : GoodIn wsX0_findToldCut (wsV RX0 33 RX0 yX0_fillRest wsX0_fillRest) := goodIn_app (goodIn_of _ (by decide +kernel)) ggX0_findToldCut_X0_fillRest
set_option maxRecDepth 20000 in
theorem ggX0_findToldCut_X0_cheapest : GoodIn wsX0_findToldCut wsX0_cheapest := goodIn_r _ [18, 8, 19, 20, 21, 6, 22, 9, 23, 24, 25, 26, 27, 28, 29, 30, 31, 32, 33] (by decide +kernel) (by decide +kernel)
set_option maxRecDepth 20000 in
theorem gX0_findToldCut_X0_cheapest : GoodIn wsX0_findToldCut (wsV RX0 36 RX0 yX0_cheapest wsX0_cheapest) := goodIn_app (goodIn_of _ (by decide +kernel)) ggX0_findToldCut_X0_cheapest
theorem dX0_findToldCut_0 : decode cX0_findToldCut 0 = .ok (.aload_n 0, 1) := by decide +kernel
theorem dX0_findToldCut_1 : decode cX0_findToldCut 1 = .ok (.invokevirtual 33, 3) := by decide +kernel
theorem dX0_findToldCut_4 : decode cX0_findToldCut 4 = .ok (.iconst (-1), 1) := by decide +kernel
theorem dX0_findToldCut_5 : decode cX0_findToldCut 5 = .ok (.istore_n 1, 1) := by decide +kernel
theorem dX0_findToldCut_6 : decode cX0_findToldCut 6 = .ok (.iconst 0, 1) := by decide +kernel
theorem dX0_findToldCut_7 : decode cX0_findToldCut 7 = .ok (.istore_n 2, 1) := by decide +kernel
theorem dX0_findToldCut_8 : decode cX0_findToldCut 8 = .ok (.iload_n 2, 1) := by decide +kernel
theorem dX0_findToldCut_9 : decode cX0_findToldCut 9 = .ok (.aload_n 0, 1) := by decide +kernel
theorem dX0_findToldCut_10 : decode cX0_findToldCut 10 = .ok (.getfield 23, 3) := by decide +kernel
theorem dX0_findToldCut_13 : decode cX0_findToldCut 13 = .ok (.if_icmp .ge 28, 3) := by decide +kernel
theorem dX0_findToldCut_16 : decode cX0_findToldCut 16 = .ok (.aload_n 0, 1) := by decide +kernel
theorem dX0_findToldCut_17 : decode cX0_findToldCut 17 = .ok (.getfield 16, 3) := by decide +kernel
theorem dX0_findToldCut_20 : decode cX0_findToldCut 20 = .ok (.iload_n 2, 1) := by decide +kernel
theorem dX0_findToldCut_21 : decode cX0_findToldCut 21 = .ok (.aload_n 0, 1) := by decide +kernel
theorem dX0_findToldCut_22 : decode cX0_findToldCut 22 = .ok (.iload_n 2, 1) := by decide +kernel
theorem dX0_findToldCut_23 : decode cX0_findToldCut 23 = .ok (.iload_n 1, 1) := by decide +kernel
theorem dX0_findToldCut_24 : decode cX0_findToldCut 24 = .ok (.invokevirtual 36, 3) := by decide +kernel
theorem dX0_findToldCut_27 : decode cX0_findToldCut 27 = .ok (.iastore, 1) := by decide +kernel
theorem dX0_findToldCut_28 : decode cX0_findToldCut 28 = .ok (.aload_n 0, 1) := by decide +kernel
theorem dX0_findToldCut_29 : decode cX0_findToldCut 29 = .ok (.getfield 16, 3) := by decide +kernel
theorem dX0_findToldCut_32 : decode cX0_findToldCut 32 = .ok (.iload_n 2, 1) := by decide +kernel
theorem dX0_findToldCut_33 : decode cX0_findToldCut 33 = .ok (.iaload, 1) := by decide +kernel
theorem dX0_findToldCut_34 : decode cX0_findToldCut 34 = .ok (.istore_n 1, 1) := by decide +kernel
theorem dX0_findToldCut_35 : decode cX0_findToldCut 35 = .ok (.iinc 2 1, 3) := by decide +kernel
theorem dX0_findToldCut_38 : decode cX0_findToldCut 38 = .ok (.goto (-30), 3) := by decide +kernel
theorem dX0_findToldCut_41 : decode cX0_findToldCut 41 = .ok (.return_, 1) := by decide +kernel
theorem dX0_stretchCount_0 : decode cX0_stretchCount 0 = .ok (.iconst 0, 1) := by decide +kernel
theorem dX0_stretchCount_1 : decode cX0_stretchCount 1 = .ok (.istore_n 1, 1) := by decide +kernel
theorem dX0_stretchCount_2 : decode cX0_stretchCount 2 = .ok (.iconst 0, 1) := by decide +kernel
theorem dX0_stretchCount_3 : decode cX0_stretchCount 3 = .ok (.istore_n 2, 1) := by decide +kernel
theorem dX0_stretchCount_4 : decode cX0_stretchCount 4 = .ok (.iload_n 2, 1) := by decide +kernel
theorem dX0_stretchCount_5 : decode cX0_stretchCount 5 = .ok (.aload_n 0, 1) := by decide +kernel
theorem dX0_stretchCount_6 : decode cX0_stretchCount 6 = .ok (.getfield 23, 3) := by decide +kernel
theorem dX0_stretchCount_9 : decode cX0_stretchCount 9 = .ok (.if_icmp .ge 33, 3) := by decide +kernel
theorem dX0_stretchCount_12 : decode cX0_stretchCount 12 = .ok (.iload_n 2, 1) := by decide +kernel
theorem dX0_stretchCount_13 : decode cX0_stretchCount 13 = .ok (.ifCond .eq 20, 3) := by decide +kernel
theorem dX0_stretchCount_16 : decode cX0_stretchCount 16 = .ok (.aload_n 0, 1) := by decide +kernel
theorem dX0_stretchCount_17 : decode cX0_stretchCount 17 = .ok (.getfield 16, 3) := by decide +kernel
theorem dX0_stretchCount_20 : decode cX0_stretchCount 20 = .ok (.iload_n 2, 1) := by decide +kernel
theorem dX0_stretchCount_21 : decode cX0_stretchCount 21 = .ok (.iaload, 1) := by decide +kernel
theorem dX0_stretchCount_22 : decode cX0_stretchCount 22 = .ok (.aload_n 0, 1) := by decide +kernel
theorem dX0_stretchCount_23 : decode cX0_stretchCount 23 = .ok (.getfield 16, 3) := by decide +kernel
theorem dX0_stretchCount_26 : decode cX0_stretchCount 26 = .ok (.iload_n 2, 1) := by decide +kernel
theorem dX0_stretchCount_27 : decode cX0_stretchCount 27 = .ok (.iconst 1, 1) := by decide +kernel
theorem dX0_stretchCount_28 : decode cX0_stretchCount 28 = .ok (.isub, 1) := by decide +kernel
theorem dX0_stretchCount_29 : decode cX0_stretchCount 29 = .ok (.iaload, 1) := by decide +kernel
theorem dX0_stretchCount_30 : decode cX0_stretchCount 30 = .ok (.if_icmp .eq 6, 3) := by decide +kernel
theorem dX0_stretchCount_33 : decode cX0_stretchCount 33 = .ok (.iinc 1 1, 3) := by decide +kernel
theorem dX0_stretchCount_36 : decode cX0_stretchCount 36 = .ok (.iinc 2 1, 3) := by decide +kernel
theorem dX0_stretchCount_39 : decode cX0_stretchCount 39 = .ok (.goto (-35), 3) := by decide +kernel
theorem dX0_stretchCount_42 : decode cX0_stretchCount 42 = .ok (.iload_n 1, 1) := by decide +kernel
theorem dX0_stretchCount_43 : decode cX0_stretchCount 43 = .ok (.ireturn, 1) := by decide +kernel
set_option maxRecDepth 20000 in
theorem ggX0_fillRest_X0_leastBehind : GoodIn wsX0_fillRest wsX0_leastBehind := goodIn_r _ [9, 1, 10, 11, 12, 8, 13, 2, 14, 15, 16, 17, 3, 18, 19, 20, 21, 22, 23, 24, 25, 26, 27, 28] (by decide +kernel) (by decide +kernel)
set_option maxRecDepth 20000 in
theorem gX0_fillRest_X0_leastBehind : GoodIn wsX0_fillRest (wsV RX0 44 RX0 yX0_leastBehind wsX0_leastBehind) := goodIn_app (goodIn_of _ (by decide +kernel)) ggX0_fillRest_X0_leastBehind
theorem dX0_fillRest_0 : decode cX0_fillRest 0 = .ok (.aload_n 0, 1) := by decide +kernel
theorem dX0_fillRest_1 : decode cX0_fillRest 1 = .ok (.getfield 23, 3) := by decide +kernel
theorem dX0_fillRest_4 : decode cX0_fillRest 4 = .ok (.iconst 1, 1) := by decide +kernel
theorem dX0_fillRest_5 : decode cX0_fillRest 5 = .ok (.isub, 1) := by decide +kernel
theorem dX0_fillRest_6 : decode cX0_fillRest 6 = .ok (.istore_n 1, 1) := by decide +kernel
theorem dX0_fillRest_7 : decode cX0_fillRest 7 = .ok (.iload_n 1, 1) := by decide +kernel
theorem dX0_fillRest_8 : decode cX0_fillRest 8 = .ok (.ifCond .lt 48, 3) := by decide +kernel
theorem dX0_fillRest_11 : decode cX0_fillRest 11 = .ok (.iconst 0, 1) := by decide +kernel
theorem dX0_fillRest_12 : decode cX0_fillRest 12 = .ok (.istore_n 2, 1) := by decide +kernel
theorem dX0_fillRest_13 : decode cX0_fillRest 13 = .ok (.iload_n 2, 1) := by decide +kernel
theorem dX0_fillRest_14 : decode cX0_fillRest 14 = .ok (.aload_n 0, 1) := by decide +kernel
theorem dX0_fillRest_15 : decode cX0_fillRest 15 = .ok (.getfield 27, 3) := by decide +kernel
theorem dX0_fillRest_18 : decode cX0_fillRest 18 = .ok (.if_icmp .ge 32, 3) := by decide +kernel
theorem dX0_fillRest_21 : decode cX0_fillRest 21 = .ok (.aload_n 0, 1) := by decide +kernel
theorem dX0_fillRest_22 : decode cX0_fillRest 22 = .ok (.getfield 20, 3) := by decide +kernel
theorem dX0_fillRest_25 : decode cX0_fillRest 25 = .ok (.iload_n 1, 1) := by decide +kernel
theorem dX0_fillRest_26 : decode cX0_fillRest 26 = .ok (.aaload, 1) := by decide +kernel
theorem dX0_fillRest_27 : decode cX0_fillRest 27 = .ok (.iload_n 2, 1) := by decide +kernel
theorem dX0_fillRest_28 : decode cX0_fillRest 28 = .ok (.aload_n 0, 1) := by decide +kernel
theorem dX0_fillRest_29 : decode cX0_fillRest 29 = .ok (.getfield 11, 3) := by decide +kernel
theorem dX0_fillRest_32 : decode cX0_fillRest 32 = .ok (.iload_n 1, 1) := by decide +kernel
theorem dX0_fillRest_33 : decode cX0_fillRest 33 = .ok (.aaload, 1) := by decide +kernel
theorem dX0_fillRest_34 : decode cX0_fillRest 34 = .ok (.iload_n 2, 1) := by decide +kernel
theorem dX0_fillRest_35 : decode cX0_fillRest 35 = .ok (.iaload, 1) := by decide +kernel
theorem dX0_fillRest_36 : decode cX0_fillRest 36 = .ok (.aload_n 0, 1) := by decide +kernel
theorem dX0_fillRest_37 : decode cX0_fillRest 37 = .ok (.iload_n 1, 1) := by decide +kernel
theorem dX0_fillRest_38 : decode cX0_fillRest 38 = .ok (.iload_n 2, 1) := by decide +kernel
theorem dX0_fillRest_39 : decode cX0_fillRest 39 = .ok (.invokevirtual 44, 3) := by decide +kernel
theorem dX0_fillRest_42 : decode cX0_fillRest 42 = .ok (.iadd, 1) := by decide +kernel
theorem dX0_fillRest_43 : decode cX0_fillRest 43 = .ok (.iastore, 1) := by decide +kernel
theorem dX0_fillRest_44 : decode cX0_fillRest 44 = .ok (.iinc 2 1, 3) := by decide +kernel
theorem dX0_fillRest_47 : decode cX0_fillRest 47 = .ok (.goto (-34), 3) := by decide +kernel
theorem dX0_fillRest_50 : decode cX0_fillRest 50 = .ok (.iinc 1 (-1), 3) := by decide +kernel
theorem dX0_fillRest_53 : decode cX0_fillRest 53 = .ok (.goto (-46), 3) := by decide +kernel
theorem dX0_fillRest_56 : decode cX0_fillRest 56 = .ok (.return_, 1) := by decide +kernel
set_option maxRecDepth 20000 in
theorem ggX0_leastBehind_X0_cheapest : GoodIn wsX0_leastBehind wsX0_cheapest := goodIn_r _ [6, 7, 8, 9, 10, 5, 11, 12, 13, 14, 15, 16, 17, 18, 19, 20, 21, 22, 23] (by decide +kernel) (by decide +kernel)
set_option maxRecDepth 20000 in
theorem gX0_leastBehind_X0_cheapest : GoodIn wsX0_leastBehind (wsV RX0 36 RX0 yX0_cheapest wsX0_cheapest) := goodIn_app (goodIn_of _ (by decide +kernel)) ggX0_leastBehind_X0_cheapest
set_option maxRecDepth 20000 in
theorem ggX0_leastBehind_X0_restAfter : GoodIn wsX0_leastBehind wsX0_restAfter := goodIn_r _ [11, 12, 13, 14, 15, 5, 16, 17, 18, 19, 20, 21, 22, 23] (by decide +kernel) (by decide +kernel)
set_option maxRecDepth 20000 in
theorem gX0_leastBehind_X0_restAfter : GoodIn wsX0_leastBehind (wsV RX0 47 RX0 yX0_restAfter wsX0_restAfter) := goodIn_app (goodIn_of _ (by decide +kernel)) ggX0_leastBehind_X0_restAfter
theorem dX0_leastBehind_0 : decode cX0_leastBehind 0 = .ok (.iload_n 1, 1) := by decide +kernel
theorem dX0_leastBehind_1 : decode cX0_leastBehind 1 = .ok (.iconst 1, 1) := by decide +kernel
theorem dX0_leastBehind_2 : decode cX0_leastBehind 2 = .ok (.iadd, 1) := by decide +kernel
theorem dX0_leastBehind_3 : decode cX0_leastBehind 3 = .ok (.istore_n 3, 1) := by decide +kernel
theorem dX0_leastBehind_4 : decode cX0_leastBehind 4 = .ok (.iload_n 3, 1) := by decide +kernel
theorem dX0_leastBehind_5 : decode cX0_leastBehind 5 = .ok (.aload_n 0, 1) := by decide +kernel
theorem dX0_leastBehind_6 : decode cX0_leastBehind 6 = .ok (.getfield 23, 3) := by decide +kernel
theorem dX0_leastBehind_9 : decode cX0_leastBehind 9 = .ok (.if_icmp .lt 7, 3) := by decide +kernel
theorem dX0_leastBehind_12 : decode cX0_leastBehind 12 = .ok (.iconst 0, 1) := by decide +kernel
theorem dX0_leastBehind_13 : decode cX0_leastBehind 13 = .ok (.goto 15, 3) := by decide +kernel
theorem dX0_leastBehind_16 : decode cX0_leastBehind 16 = .ok (.aload_n 0, 1) := by decide +kernel
theorem dX0_leastBehind_17 : decode cX0_leastBehind 17 = .ok (.iload_n 3, 1) := by decide +kernel
theorem dX0_leastBehind_18 : decode cX0_leastBehind 18 = .ok (.aload_n 0, 1) := by decide +kernel
theorem dX0_leastBehind_19 : decode cX0_leastBehind 19 = .ok (.iload_n 3, 1) := by decide +kernel
theorem dX0_leastBehind_20 : decode cX0_leastBehind 20 = .ok (.iload_n 2, 1) := by decide +kernel
theorem dX0_leastBehind_21 : decode cX0_leastBehind 21 = .ok (.invokevirtual 36, 3) := by decide +kernel
theorem dX0_leastBehind_24 : decode cX0_leastBehind 24 = .ok (.iload_n 2, 1) := by decide +kernel
theorem dX0_leastBehind_25 : decode cX0_leastBehind 25 = .ok (.invokevirtual 47, 3) := by decide +kernel
theorem dX0_leastBehind_28 : decode cX0_leastBehind 28 = .ok (.ireturn, 1) := by decide +kernel
set_option maxRecDepth 20000 in
theorem ggX0_cheapest_X0_restAfter : GoodIn wsX0_cheapest wsX0_restAfter := goodIn_r _ [6, 7, 8, 9, 10, 5, 11, 12, 13, 14, 15, 16, 17, 18] (by decide +kernel) (by decide +kernel)
set_option maxRecDepth 20000 in
theorem gX0_cheapest_X0_restAfter : GoodIn wsX0_cheapest (wsV RX0 47 RX0 yX0_restAfter wsX0_restAfter) := goodIn_app (goodIn_of _ (by decide +kernel)) ggX0_cheapest_X0_restAfter
theorem dX0_cheapest_0 : decode cX0_cheapest 0 = .ok (.iconst 0, 1) := by decide +kernel
theorem dX0_cheapest_1 : decode cX0_cheapest 1 = .ok (.istore_n 3, 1) := by decide +kernel
theorem dX0_cheapest_2 : decode cX0_cheapest 2 = .ok (.iconst 1, 1) := by decide +kernel
theorem dX0_cheapest_3 : decode cX0_cheapest 3 = .ok (.istore 4, 2) := by decide +kernel
theorem dX0_cheapest_5 : decode cX0_cheapest 5 = .ok (.iload 4, 2) := by decide +kernel
theorem dX0_cheapest_7 : decode cX0_cheapest 7 = .ok (.aload_n 0, 1) := by decide +kernel
theorem dX0_cheapest_8 : decode cX0_cheapest 8 = .ok (.getfield 27, 3) := by decide +kernel
theorem dX0_cheapest_11 : decode cX0_cheapest 11 = .ok (.if_icmp .ge 30, 3) := by decide +kernel
theorem dX0_cheapest_14 : decode cX0_cheapest 14 = .ok (.aload_n 0, 1) := by decide +kernel
theorem dX0_cheapest_15 : decode cX0_cheapest 15 = .ok (.iload_n 1, 1) := by decide +kernel
theorem dX0_cheapest_16 : decode cX0_cheapest 16 = .ok (.iload 4, 2) := by decide +kernel
theorem dX0_cheapest_18 : decode cX0_cheapest 18 = .ok (.iload_n 2, 1) := by decide +kernel
theorem dX0_cheapest_19 : decode cX0_cheapest 19 = .ok (.invokevirtual 47, 3) := by decide +kernel
theorem dX0_cheapest_22 : decode cX0_cheapest 22 = .ok (.aload_n 0, 1) := by decide +kernel
theorem dX0_cheapest_23 : decode cX0_cheapest 23 = .ok (.iload_n 1, 1) := by decide +kernel
theorem dX0_cheapest_24 : decode cX0_cheapest 24 = .ok (.iload_n 3, 1) := by decide +kernel
theorem dX0_cheapest_25 : decode cX0_cheapest 25 = .ok (.iload_n 2, 1) := by decide +kernel
theorem dX0_cheapest_26 : decode cX0_cheapest 26 = .ok (.invokevirtual 47, 3) := by decide +kernel
theorem dX0_cheapest_29 : decode cX0_cheapest 29 = .ok (.if_icmp .ge 6, 3) := by decide +kernel
theorem dX0_cheapest_32 : decode cX0_cheapest 32 = .ok (.iload 4, 2) := by decide +kernel
theorem dX0_cheapest_34 : decode cX0_cheapest 34 = .ok (.istore_n 3, 1) := by decide +kernel
theorem dX0_cheapest_35 : decode cX0_cheapest 35 = .ok (.iinc 4 1, 3) := by decide +kernel
theorem dX0_cheapest_38 : decode cX0_cheapest 38 = .ok (.goto (-33), 3) := by decide +kernel
theorem dX0_cheapest_41 : decode cX0_cheapest 41 = .ok (.iload_n 3, 1) := by decide +kernel
theorem dX0_cheapest_42 : decode cX0_cheapest 42 = .ok (.ireturn, 1) := by decide +kernel
set_option maxRecDepth 20000 in
theorem ggX0_restAfter_X0_priceOfChange : GoodIn wsX0_restAfter wsX0_priceOfChange := goodIn_r _ [6, 7, 8, 9, 10, 11, 12, 13] (by decide +kernel) (by decide +kernel)
set_option maxRecDepth 20000 in
theorem gX0_restAfter_X0_priceOfChange : GoodIn wsX0_restAfter (wsV RX0 51 RX0 yX0_priceOfChange wsX0_priceOfChange) := goodIn_app (goodIn_of _ (by decide +kernel)) ggX0_restAfter_X0_priceOfChange
theorem dX0_restAfter_0 : decode cX0_restAfter 0 = .ok (.aload_n 0, 1) := by decide +kernel
theorem dX0_restAfter_1 : decode cX0_restAfter 1 = .ok (.getfield 20, 3) := by decide +kernel
theorem dX0_restAfter_4 : decode cX0_restAfter 4 = .ok (.iload_n 1, 1) := by decide +kernel
theorem dX0_restAfter_5 : decode cX0_restAfter 5 = .ok (.aaload, 1) := by decide +kernel
theorem dX0_restAfter_6 : decode cX0_restAfter 6 = .ok (.iload_n 2, 1) := by decide +kernel
theorem dX0_restAfter_7 : decode cX0_restAfter 7 = .ok (.iaload, 1) := by decide +kernel
theorem dX0_restAfter_8 : decode cX0_restAfter 8 = .ok (.aload_n 0, 1) := by decide +kernel
theorem dX0_restAfter_9 : decode cX0_restAfter 9 = .ok (.iload_n 3, 1) := by decide +kernel
theorem dX0_restAfter_10 : decode cX0_restAfter 10 = .ok (.iload_n 2, 1) := by decide +kernel
theorem dX0_restAfter_11 : decode cX0_restAfter 11 = .ok (.invokevirtual 51, 3) := by decide +kernel
theorem dX0_restAfter_14 : decode cX0_restAfter 14 = .ok (.iadd, 1) := by decide +kernel
theorem dX0_restAfter_15 : decode cX0_restAfter 15 = .ok (.ireturn, 1) := by decide +kernel
theorem dX0_priceOfChange_0 : decode cX0_priceOfChange 0 = .ok (.iload_n 1, 1) := by decide +kernel
theorem dX0_priceOfChange_1 : decode cX0_priceOfChange 1 = .ok (.iconst (-1), 1) := by decide +kernel
theorem dX0_priceOfChange_2 : decode cX0_priceOfChange 2 = .ok (.if_icmp .eq 8, 3) := by decide +kernel
theorem dX0_priceOfChange_5 : decode cX0_priceOfChange 5 = .ok (.iload_n 1, 1) := by decide +kernel
theorem dX0_priceOfChange_6 : decode cX0_priceOfChange 6 = .ok (.iload_n 2, 1) := by decide +kernel
theorem dX0_priceOfChange_7 : decode cX0_priceOfChange 7 = .ok (.if_icmp .ne 7, 3) := by decide +kernel
theorem dX0_priceOfChange_10 : decode cX0_priceOfChange 10 = .ok (.iconst 0, 1) := by decide +kernel
theorem dX0_priceOfChange_11 : decode cX0_priceOfChange 11 = .ok (.goto 7, 3) := by decide +kernel
theorem dX0_priceOfChange_14 : decode cX0_priceOfChange 14 = .ok (.aload_n 0, 1) := by decide +kernel
theorem dX0_priceOfChange_15 : decode cX0_priceOfChange 15 = .ok (.getfield 30, 3) := by decide +kernel
theorem dX0_priceOfChange_18 : decode cX0_priceOfChange 18 = .ok (.ireturn, 1) := by decide +kernel
set_option maxRecDepth 20000 in
theorem ggX0_leastByTrying_X0_priceOfChange : GoodIn wsX0_leastByTrying wsX0_priceOfChange := goodIn_r _ [13, 14, 17, 18, 19, 20, 21, 22] (by decide +kernel) (by decide +kernel)
set_option maxRecDepth 20000 in
theorem gX0_leastByTrying_X0_priceOfChange : GoodIn wsX0_leastByTrying (wsV RX0 51 RX0 yX0_priceOfChange wsX0_priceOfChange) := goodIn_app (goodIn_of _ (by decide +kernel)) ggX0_leastByTrying_X0_priceOfChange
set_option maxRecDepth 20000 in
theorem ggX0_leastByTrying_X0_leastByTrying : GoodIn wsX0_leastByTrying wsX0_leastByTrying := goodIn_r _ [0, 1, 2, 3, 4, 5, 6, 7, 8, 9, 10, 11, 12, 13, 14, 15, 16, 17, 18, 19, 20, 21, 22] (by decide +kernel) (by decide +kernel)
set_option maxRecDepth 20000 in
theorem gX0_leastByTrying_X0_leastByTrying : GoodIn wsX0_leastByTrying (va_wsS RX0 40 yX0_leastByTrying wsX0_leastByTrying) := goodIn_app (goodIn_of _ (by decide +kernel)) ggX0_leastByTrying_X0_leastByTrying
theorem dX0_leastByTrying_0 : decode cX0_leastByTrying 0 = .ok (.iload_n 1, 1) := by decide +kernel
theorem dX0_leastByTrying_1 : decode cX0_leastByTrying 1 = .ok (.aload_n 0, 1) := by decide +kernel
theorem dX0_leastByTrying_2 : decode cX0_leastByTrying 2 = .ok (.getfield 23, 3) := by decide +kernel
theorem dX0_leastByTrying_5 : decode cX0_leastByTrying 5 = .ok (.if_icmp .ge 8, 3) := by decide +kernel
theorem dX0_leastByTrying_8 : decode cX0_leastByTrying 8 = .ok (.iload_n 1, 1) := by decide +kernel
theorem dX0_leastByTrying_9 : decode cX0_leastByTrying 9 = .ok (.iconst 5, 1) := by decide +kernel
theorem dX0_leastByTrying_10 : decode cX0_leastByTrying 10 = .ok (.if_icmp .le 5, 3) := by decide +kernel
theorem dX0_leastByTrying_13 : decode cX0_leastByTrying 13 = .ok (.iconst 0, 1) := by decide +kernel
theorem dX0_leastByTrying_14 : decode cX0_leastByTrying 14 = .ok (.ireturn, 1) := by decide +kernel
theorem dX0_leastByTrying_15 : decode cX0_leastByTrying 15 = .ok (.ldc 54, 2) := by decide +kernel
theorem dX0_leastByTrying_17 : decode cX0_leastByTrying 17 = .ok (.istore_n 3, 1) := by decide +kernel
theorem dX0_leastByTrying_18 : decode cX0_leastByTrying 18 = .ok (.iconst 0, 1) := by decide +kernel
theorem dX0_leastByTrying_19 : decode cX0_leastByTrying 19 = .ok (.istore 4, 2) := by decide +kernel
theorem dX0_leastByTrying_21 : decode cX0_leastByTrying 21 = .ok (.iload 4, 2) := by decide +kernel
theorem dX0_leastByTrying_23 : decode cX0_leastByTrying 23 = .ok (.aload_n 0, 1) := by decide +kernel
theorem dX0_leastByTrying_24 : decode cX0_leastByTrying 24 = .ok (.getfield 27, 3) := by decide +kernel
theorem dX0_leastByTrying_27 : decode cX0_leastByTrying 27 = .ok (.if_icmp .ge 45, 3) := by decide +kernel
theorem dX0_leastByTrying_30 : decode cX0_leastByTrying 30 = .ok (.aload_n 0, 1) := by decide +kernel
theorem dX0_leastByTrying_31 : decode cX0_leastByTrying 31 = .ok (.iload_n 2, 1) := by decide +kernel
theorem dX0_leastByTrying_32 : decode cX0_leastByTrying 32 = .ok (.iload 4, 2) := by decide +kernel
theorem dX0_leastByTrying_34 : decode cX0_leastByTrying 34 = .ok (.invokevirtual 51, 3) := by decide +kernel
theorem dX0_leastByTrying_37 : decode cX0_leastByTrying 37 = .ok (.aload_n 0, 1) := by decide +kernel
theorem dX0_leastByTrying_38 : decode cX0_leastByTrying 38 = .ok (.getfield 11, 3) := by decide +kernel
theorem dX0_leastByTrying_41 : decode cX0_leastByTrying 41 = .ok (.iload_n 1, 1) := by decide +kernel
theorem dX0_leastByTrying_42 : decode cX0_leastByTrying 42 = .ok (.aaload, 1) := by decide +kernel
theorem dX0_leastByTrying_43 : decode cX0_leastByTrying 43 = .ok (.iload 4, 2) := by decide +kernel
theorem dX0_leastByTrying_45 : decode cX0_leastByTrying 45 = .ok (.iaload, 1) := by decide +kernel
theorem dX0_leastByTrying_46 : decode cX0_leastByTrying 46 = .ok (.iadd, 1) := by decide +kernel
theorem dX0_leastByTrying_47 : decode cX0_leastByTrying 47 = .ok (.istore 5, 2) := by decide +kernel
theorem dX0_leastByTrying_49 : decode cX0_leastByTrying 49 = .ok (.iload_n 3, 1) := by decide +kernel
theorem dX0_leastByTrying_50 : decode cX0_leastByTrying 50 = .ok (.iload 5, 2) := by decide +kernel
theorem dX0_leastByTrying_52 : decode cX0_leastByTrying 52 = .ok (.aload_n 0, 1) := by decide +kernel
theorem dX0_leastByTrying_53 : decode cX0_leastByTrying 53 = .ok (.iload_n 1, 1) := by decide +kernel
theorem dX0_leastByTrying_54 : decode cX0_leastByTrying 54 = .ok (.iconst 1, 1) := by decide +kernel
theorem dX0_leastByTrying_55 : decode cX0_leastByTrying 55 = .ok (.iadd, 1) := by decide +kernel
theorem dX0_leastByTrying_56 : decode cX0_leastByTrying 56 = .ok (.iload 4, 2) := by decide +kernel
theorem dX0_leastByTrying_58 : decode cX0_leastByTrying 58 = .ok (.invokestatic 40, 3) := by decide +kernel
theorem dX0_leastByTrying_61 : decode cX0_leastByTrying 61 = .ok (.iadd, 1) := by decide +kernel
theorem dX0_leastByTrying_62 : decode cX0_leastByTrying 62 = .ok (.invokestatic 55, 3) := by decide +kernel
theorem dX0_leastByTrying_65 : decode cX0_leastByTrying 65 = .ok (.istore_n 3, 1) := by decide +kernel
theorem dX0_leastByTrying_66 : decode cX0_leastByTrying 66 = .ok (.iinc 4 1, 3) := by decide +kernel
theorem dX0_leastByTrying_69 : decode cX0_leastByTrying 69 = .ok (.goto (-48), 3) := by decide +kernel
theorem dX0_leastByTrying_72 : decode cX0_leastByTrying 72 = .ok (.iload_n 3, 1) := by decide +kernel
theorem dX0_leastByTrying_73 : decode cX0_leastByTrying 73 = .ok (.ireturn, 1) := by decide +kernel
theorem dX1_init_0 : decode cX1_init 0 = .ok (.aload_n 0, 1) := by decide +kernel
theorem dX1_init_1 : decode cX1_init 1 = .ok (.invokespecial 3, 3) := by decide +kernel
theorem dX1_init_4 : decode cX1_init 4 = .ok (.aload_n 0, 1) := by decide +kernel
theorem dX1_init_5 : decode cX1_init 5 = .ok (.bipush 30, 2) := by decide +kernel
theorem dX1_init_7 : decode cX1_init 7 = .ok (.newarray .int, 2) := by decide +kernel
theorem dX1_init_9 : decode cX1_init 9 = .ok (.putfield 9, 3) := by decide +kernel
theorem dX1_init_12 : decode cX1_init 12 = .ok (.aload_n 0, 1) := by decide +kernel
theorem dX1_init_13 : decode cX1_init 13 = .ok (.bipush 30, 2) := by decide +kernel
theorem dX1_init_15 : decode cX1_init 15 = .ok (.newarray .int, 2) := by decide +kernel
theorem dX1_init_17 : decode cX1_init 17 = .ok (.putfield 15, 3) := by decide +kernel
theorem dX1_init_20 : decode cX1_init 20 = .ok (.aload_n 0, 1) := by decide +kernel
theorem dX1_init_21 : decode cX1_init 21 = .ok (.bipush 30, 2) := by decide +kernel
theorem dX1_init_23 : decode cX1_init 23 = .ok (.newarray .int, 2) := by decide +kernel
theorem dX1_init_25 : decode cX1_init 25 = .ok (.putfield 18, 3) := by decide +kernel
theorem dX1_init_28 : decode cX1_init 28 = .ok (.aload_n 0, 1) := by decide +kernel
theorem dX1_init_29 : decode cX1_init 29 = .ok (.bipush 30, 2) := by decide +kernel
theorem dX1_init_31 : decode cX1_init 31 = .ok (.bipush 17, 2) := by decide +kernel
theorem dX1_init_33 : decode cX1_init 33 = .ok (.multianewarray 21 2, 4) := by decide +kernel
theorem dX1_init_37 : decode cX1_init 37 = .ok (.putfield 23, 3) := by decide +kernel
theorem dX1_init_40 : decode cX1_init 40 = .ok (.aload_n 0, 1) := by decide +kernel
theorem dX1_init_41 : decode cX1_init 41 = .ok (.iconst 0, 1) := by decide +kernel
theorem dX1_init_42 : decode cX1_init 42 = .ok (.putfield 26, 3) := by decide +kernel
theorem dX1_init_45 : decode cX1_init 45 = .ok (.iconst 0, 1) := by decide +kernel
theorem dX1_init_46 : decode cX1_init 46 = .ok (.istore_n 1, 1) := by decide +kernel
theorem dX1_init_47 : decode cX1_init 47 = .ok (.iload_n 1, 1) := by decide +kernel
theorem dX1_init_48 : decode cX1_init 48 = .ok (.bipush 30, 2) := by decide +kernel
theorem dX1_init_50 : decode cX1_init 50 = .ok (.if_icmp .ge 16, 3) := by decide +kernel
theorem dX1_init_53 : decode cX1_init 53 = .ok (.aload_n 0, 1) := by decide +kernel
theorem dX1_init_54 : decode cX1_init 54 = .ok (.getfield 9, 3) := by decide +kernel
theorem dX1_init_57 : decode cX1_init 57 = .ok (.iload_n 1, 1) := by decide +kernel
theorem dX1_init_58 : decode cX1_init 58 = .ok (.iconst (-1), 1) := by decide +kernel
theorem dX1_init_59 : decode cX1_init 59 = .ok (.iastore, 1) := by decide +kernel
theorem dX1_init_60 : decode cX1_init 60 = .ok (.iinc 1 1, 3) := by decide +kernel
theorem dX1_init_63 : decode cX1_init 63 = .ok (.goto (-16), 3) := by decide +kernel
theorem dX1_init_66 : decode cX1_init 66 = .ok (.return_, 1) := by decide +kernel
set_option maxRecDepth 20000 in
theorem ggX1_isFull_X1_firstSlotWith : GoodIn wsX1_isFull wsX1_firstSlotWith := goodIn_r _ [5, 6, 7, 8, 9, 10, 11] (by decide +kernel) (by decide +kernel)
set_option maxRecDepth 20000 in
theorem gX1_isFull_X1_firstSlotWith : GoodIn wsX1_isFull (wsV RX1 30 RX1 yX1_firstSlotWith wsX1_firstSlotWith) := goodIn_app (goodIn_of _ (by decide +kernel)) ggX1_isFull_X1_firstSlotWith
theorem dX1_isFull_0 : decode cX1_isFull 0 = .ok (.aload_n 0, 1) := by decide +kernel
theorem dX1_isFull_1 : decode cX1_isFull 1 = .ok (.iconst (-1), 1) := by decide +kernel
theorem dX1_isFull_2 : decode cX1_isFull 2 = .ok (.invokevirtual 30, 3) := by decide +kernel
theorem dX1_isFull_5 : decode cX1_isFull 5 = .ok (.iconst (-1), 1) := by decide +kernel
theorem dX1_isFull_6 : decode cX1_isFull 6 = .ok (.if_icmp .ne 7, 3) := by decide +kernel
theorem dX1_isFull_9 : decode cX1_isFull 9 = .ok (.iconst 1, 1) := by decide +kernel
theorem dX1_isFull_10 : decode cX1_isFull 10 = .ok (.goto 4, 3) := by decide +kernel
theorem dX1_isFull_13 : decode cX1_isFull 13 = .ok (.iconst 0, 1) := by decide +kernel
theorem dX1_isFull_14 : decode cX1_isFull 14 = .ok (.ireturn, 1) := by decide +kernel
set_option maxRecDepth 20000 in
theorem ggX1_slotOf_X1_firstSlotWith : GoodIn wsX1_slotOf wsX1_firstSlotWith := goodIn_r _ [5, 6, 7, 8, 9, 10, 11] (by decide +kernel) (by decide +kernel)
set_option maxRecDepth 20000 in
theorem gX1_slotOf_X1_firstSlotWith : GoodIn wsX1_slotOf (wsV RX1 30 RX1 yX1_firstSlotWith wsX1_firstSlotWith) := goodIn_app (goodIn_of _ (by decide +kernel)) ggX1_slotOf_X1_firstSlotWith
theorem dX1_slotOf_0 : decode cX1_slotOf 0 = .ok (.iload_n 1, 1) := by decide +kernel
theorem dX1_slotOf_1 : decode cX1_slotOf 1 = .ok (.ifCond .ge 7, 3) := by decide +kernel
theorem dX1_slotOf_4 : decode cX1_slotOf 4 = .ok (.iconst (-1), 1) := by decide +kernel
theorem dX1_slotOf_5 : decode cX1_slotOf 5 = .ok (.goto 8, 3) := by decide +kernel
theorem dX1_slotOf_8 : decode cX1_slotOf 8 = .ok (.aload_n 0, 1) := by decide +kernel
theorem dX1_slotOf_9 : decode cX1_slotOf 9 = .ok (.iload_n 1, 1) := by decide +kernel
theorem dX1_slotOf_10 : decode cX1_slotOf 10 = .ok (.invokevirtual 30, 3) := by decide +kernel
theorem dX1_slotOf_13 : decode cX1_slotOf 13 = .ok (.ireturn, 1) := by decide +kernel
set_option maxRecDepth 20000 in
theorem ggX1_take_X1_firstSlotWith : GoodIn wsX1_take wsX1_firstSlotWith := goodIn_r _ [9, 1, 10, 11, 12, 13, 14] (by decide +kernel) (by decide +kernel)
set_option maxRecDepth 20000 in
theorem gX1_take_X1_firstSlotWith : GoodIn wsX1_take (wsV RX1 30 RX1 yX1_firstSlotWith wsX1_firstSlotWith) := goodIn_app (goodIn_of _ (by decide +kernel)) ggX1_take_X1_firstSlotWith
theorem dX1_take_0 : decode cX1_take 0 = .ok (.aload_n 0, 1) := by decide +kernel
theorem dX1_take_1 : decode cX1_take 1 = .ok (.iconst (-1), 1) := by decide +kernel
theorem dX1_take_2 : decode cX1_take 2 = .ok (.invokevirtual 30, 3) := by decide +kernel
theorem dX1_take_5 : decode cX1_take 5 = .ok (.istore_n 3, 1) := by decide +kernel
theorem dX1_take_6 : decode cX1_take 6 = .ok (.aload_n 0, 1) := by decide +kernel
theorem dX1_take_7 : decode cX1_take 7 = .ok (.getfield 9, 3) := by decide +kernel
theorem dX1_take_10 : decode cX1_take 10 = .ok (.iload_n 3, 1) := by decide +kernel
theorem dX1_take_11 : decode cX1_take 11 = .ok (.aload_n 0, 1) := by decide +kernel
theorem dX1_take_12 : decode cX1_take 12 = .ok (.getfield 26, 3) := by decide +kernel
theorem dX1_take_15 : decode cX1_take 15 = .ok (.iastore, 1) := by decide +kernel
theorem dX1_take_16 : decode cX1_take 16 = .ok (.aload_n 0, 1) := by decide +kernel
theorem dX1_take_17 : decode cX1_take 17 = .ok (.getfield 15, 3) := by decide +kernel
theorem dX1_take_20 : decode cX1_take 20 = .ok (.iload_n 3, 1) := by decide +kernel
theorem dX1_take_21 : decode cX1_take 21 = .ok (.iload_n 1, 1) := by decide +kernel
theorem dX1_take_22 : decode cX1_take 22 = .ok (.iastore, 1) := by decide +kernel
theorem dX1_take_23 : decode cX1_take 23 = .ok (.aload_n 0, 1) := by decide +kernel
theorem dX1_take_24 : decode cX1_take 24 = .ok (.getfield 18, 3) := by decide +kernel
theorem dX1_take_27 : decode cX1_take 27 = .ok (.iload_n 3, 1) := by decide +kernel
theorem dX1_take_28 : decode cX1_take 28 = .ok (.iload_n 2, 1) := by decide +kernel
theorem dX1_take_29 : decode cX1_take 29 = .ok (.iastore, 1) := by decide +kernel
theorem dX1_take_30 : decode cX1_take 30 = .ok (.aload_n 0, 1) := by decide +kernel
theorem dX1_take_31 : decode cX1_take 31 = .ok (.dup, 1) := by decide +kernel
theorem dX1_take_32 : decode cX1_take 32 = .ok (.getfield 26, 3) := by decide +kernel
theorem dX1_take_35 : decode cX1_take 35 = .ok (.iconst 1, 1) := by decide +kernel
theorem dX1_take_36 : decode cX1_take 36 = .ok (.iadd, 1) := by decide +kernel
theorem dX1_take_37 : decode cX1_take 37 = .ok (.putfield 26, 3) := by decide +kernel
theorem dX1_take_40 : decode cX1_take 40 = .ok (.iload_n 3, 1) := by decide +kernel
theorem dX1_take_41 : decode cX1_take 41 = .ok (.ireturn, 1) := by decide +kernel
theorem dX1_free_0 : decode cX1_free 0 = .ok (.aload_n 0, 1) := by decide +kernel
theorem dX1_free_1 : decode cX1_free 1 = .ok (.getfield 9, 3) := by decide +kernel
theorem dX1_free_4 : decode cX1_free 4 = .ok (.iload_n 1, 1) := by decide +kernel
theorem dX1_free_5 : decode cX1_free 5 = .ok (.iconst (-1), 1) := by decide +kernel
theorem dX1_free_6 : decode cX1_free 6 = .ok (.iastore, 1) := by decide +kernel
theorem dX1_free_7 : decode cX1_free 7 = .ok (.return_, 1) := by decide +kernel
theorem dX1_firstSlotWith_0 : decode cX1_firstSlotWith 0 = .ok (.iconst 0, 1) := by decide +kernel
theorem dX1_firstSlotWith_1 : decode cX1_firstSlotWith 1 = .ok (.istore_n 2, 1) := by decide +kernel
theorem dX1_firstSlotWith_2 : decode cX1_firstSlotWith 2 = .ok (.iload_n 2, 1) := by decide +kernel
theorem dX1_firstSlotWith_3 : decode cX1_firstSlotWith 3 = .ok (.bipush 30, 2) := by decide +kernel
theorem dX1_firstSlotWith_5 : decode cX1_firstSlotWith 5 = .ok (.if_icmp .ge 21, 3) := by decide +kernel
theorem dX1_firstSlotWith_8 : decode cX1_firstSlotWith 8 = .ok (.aload_n 0, 1) := by decide +kernel
theorem dX1_firstSlotWith_9 : decode cX1_firstSlotWith 9 = .ok (.getfield 9, 3) := by decide +kernel
theorem dX1_firstSlotWith_12 : decode cX1_firstSlotWith 12 = .ok (.iload_n 2, 1) := by decide +kernel
theorem dX1_firstSlotWith_13 : decode cX1_firstSlotWith 13 = .ok (.iaload, 1) := by decide +kernel
theorem dX1_firstSlotWith_14 : decode cX1_firstSlotWith 14 = .ok (.iload_n 1, 1) := by decide +kernel
theorem dX1_firstSlotWith_15 : decode cX1_firstSlotWith 15 = .ok (.if_icmp .ne 5, 3) := by decide +kernel
theorem dX1_firstSlotWith_18 : decode cX1_firstSlotWith 18 = .ok (.iload_n 2, 1) := by decide +kernel
theorem dX1_firstSlotWith_19 : decode cX1_firstSlotWith 19 = .ok (.ireturn, 1) := by decide +kernel
theorem dX1_firstSlotWith_20 : decode cX1_firstSlotWith 20 = .ok (.iinc 2 1, 3) := by decide +kernel
theorem dX1_firstSlotWith_23 : decode cX1_firstSlotWith 23 = .ok (.goto (-21), 3) := by decide +kernel
theorem dX1_firstSlotWith_26 : decode cX1_firstSlotWith 26 = .ok (.iconst (-1), 1) := by decide +kernel
theorem dX1_firstSlotWith_27 : decode cX1_firstSlotWith 27 = .ok (.ireturn, 1) := by decide +kernel
theorem dX2_init_0 : decode cX2_init 0 = .ok (.aload_n 0, 1) := by decide +kernel
theorem dX2_init_1 : decode cX2_init 1 = .ok (.invokespecial 3, 3) := by decide +kernel
theorem dX2_init_4 : decode cX2_init 4 = .ok (.aload_n 0, 1) := by decide +kernel
theorem dX2_init_5 : decode cX2_init 5 = .ok (.bipush 16, 2) := by decide +kernel
theorem dX2_init_7 : decode cX2_init 7 = .ok (.newarray .int, 2) := by decide +kernel
theorem dX2_init_9 : decode cX2_init 9 = .ok (.putfield 9, 3) := by decide +kernel
theorem dX2_init_12 : decode cX2_init 12 = .ok (.aload_n 0, 1) := by decide +kernel
theorem dX2_init_13 : decode cX2_init 13 = .ok (.iconst 0, 1) := by decide +kernel
theorem dX2_init_14 : decode cX2_init 14 = .ok (.putfield 15, 3) := by decide +kernel
theorem dX2_init_17 : decode cX2_init 17 = .ok (.return_, 1) := by decide +kernel
theorem dX2_append_0 : decode cX2_append 0 = .ok (.aload_n 0, 1) := by decide +kernel
theorem dX2_append_1 : decode cX2_append 1 = .ok (.getfield 9, 3) := by decide +kernel
theorem dX2_append_4 : decode cX2_append 4 = .ok (.aload_n 0, 1) := by decide +kernel
theorem dX2_append_5 : decode cX2_append 5 = .ok (.getfield 15, 3) := by decide +kernel
theorem dX2_append_8 : decode cX2_append 8 = .ok (.iload_n 1, 1) := by decide +kernel
theorem dX2_append_9 : decode cX2_append 9 = .ok (.iastore, 1) := by decide +kernel
theorem dX2_append_10 : decode cX2_append 10 = .ok (.aload_n 0, 1) := by decide +kernel
theorem dX2_append_11 : decode cX2_append 11 = .ok (.dup, 1) := by decide +kernel
theorem dX2_append_12 : decode cX2_append 12 = .ok (.getfield 15, 3) := by decide +kernel
theorem dX2_append_15 : decode cX2_append 15 = .ok (.iconst 1, 1) := by decide +kernel
theorem dX2_append_16 : decode cX2_append 16 = .ok (.iadd, 1) := by decide +kernel
theorem dX2_append_17 : decode cX2_append 17 = .ok (.putfield 15, 3) := by decide +kernel
theorem dX2_append_20 : decode cX2_append 20 = .ok (.return_, 1) := by decide +kernel
theorem dX2_runCount_0 : decode cX2_runCount 0 = .ok (.aload_n 0, 1) := by decide +kernel
theorem dX2_runCount_1 : decode cX2_runCount 1 = .ok (.getfield 15, 3) := by decide +kernel
theorem dX2_runCount_4 : decode cX2_runCount 4 = .ok (.ifCond .ne 7, 3) := by decide +kernel
theorem dX2_runCount_7 : decode cX2_runCount 7 = .ok (.iconst 0, 1) := by decide +kernel
theorem dX2_runCount_8 : decode cX2_runCount 8 = .ok (.goto 9, 3) := by decide +kernel
theorem dX2_runCount_11 : decode cX2_runCount 11 = .ok (.aload_n 0, 1) := by decide +kernel
theorem dX2_runCount_12 : decode cX2_runCount 12 = .ok (.getfield 15, 3) := by decide +kernel
theorem dX2_runCount_15 : decode cX2_runCount 15 = .ok (.iconst 1, 1) := by decide +kernel
theorem dX2_runCount_16 : decode cX2_runCount 16 = .ok (.iadd, 1) := by decide +kernel
theorem dX2_runCount_17 : decode cX2_runCount 17 = .ok (.ireturn, 1) := by decide +kernel
set_option maxRecDepth 20000 in
theorem ggX2_runNumber_X2_letterOrGap : GoodIn wsX2_runNumber wsX2_letterOrGap := goodIn_r _ [5, 6, 7, 8, 9] (by decide +kernel) (by decide +kernel)
set_option maxRecDepth 20000 in
theorem gX2_runNumber_X2_letterOrGap : GoodIn wsX2_runNumber (wsV RX2 19 RX2 yX2_letterOrGap wsX2_letterOrGap) := goodIn_app (goodIn_of _ (by decide +kernel)) ggX2_runNumber_X2_letterOrGap
theorem dX2_runNumber_0 : decode cX2_runNumber 0 = .ok (.bipush 6, 2) := by decide +kernel
theorem dX2_runNumber_2 : decode cX2_runNumber 2 = .ok (.aload_n 0, 1) := by decide +kernel
theorem dX2_runNumber_3 : decode cX2_runNumber 3 = .ok (.iload_n 1, 1) := by decide +kernel
theorem dX2_runNumber_4 : decode cX2_runNumber 4 = .ok (.iconst 1, 1) := by decide +kernel
theorem dX2_runNumber_5 : decode cX2_runNumber 5 = .ok (.isub, 1) := by decide +kernel
theorem dX2_runNumber_6 : decode cX2_runNumber 6 = .ok (.invokevirtual 19, 3) := by decide +kernel
theorem dX2_runNumber_9 : decode cX2_runNumber 9 = .ok (.imul, 1) := by decide +kernel
theorem dX2_runNumber_10 : decode cX2_runNumber 10 = .ok (.aload_n 0, 1) := by decide +kernel
theorem dX2_runNumber_11 : decode cX2_runNumber 11 = .ok (.iload_n 1, 1) := by decide +kernel
theorem dX2_runNumber_12 : decode cX2_runNumber 12 = .ok (.invokevirtual 19, 3) := by decide +kernel
theorem dX2_runNumber_15 : decode cX2_runNumber 15 = .ok (.iadd, 1) := by decide +kernel
theorem dX2_runNumber_16 : decode cX2_runNumber 16 = .ok (.ireturn, 1) := by decide +kernel
theorem dX2_letterOrGap_0 : decode cX2_letterOrGap 0 = .ok (.iload_n 1, 1) := by decide +kernel
theorem dX2_letterOrGap_1 : decode cX2_letterOrGap 1 = .ok (.ifCond .lt 11, 3) := by decide +kernel
theorem dX2_letterOrGap_4 : decode cX2_letterOrGap 4 = .ok (.iload_n 1, 1) := by decide +kernel
theorem dX2_letterOrGap_5 : decode cX2_letterOrGap 5 = .ok (.aload_n 0, 1) := by decide +kernel
theorem dX2_letterOrGap_6 : decode cX2_letterOrGap 6 = .ok (.getfield 15, 3) := by decide +kernel
theorem dX2_letterOrGap_9 : decode cX2_letterOrGap 9 = .ok (.if_icmp .lt 7, 3) := by decide +kernel
theorem dX2_letterOrGap_12 : decode cX2_letterOrGap 12 = .ok (.iconst 0, 1) := by decide +kernel
theorem dX2_letterOrGap_13 : decode cX2_letterOrGap 13 = .ok (.goto 9, 3) := by decide +kernel
theorem dX2_letterOrGap_16 : decode cX2_letterOrGap 16 = .ok (.aload_n 0, 1) := by decide +kernel
theorem dX2_letterOrGap_17 : decode cX2_letterOrGap 17 = .ok (.getfield 9, 3) := by decide +kernel
theorem dX2_letterOrGap_20 : decode cX2_letterOrGap 20 = .ok (.iload_n 1, 1) := by decide +kernel
theorem dX2_letterOrGap_21 : decode cX2_letterOrGap 21 = .ok (.iaload, 1) := by decide +kernel
theorem dX2_letterOrGap_22 : decode cX2_letterOrGap 22 = .ok (.ireturn, 1) := by decide +kernel
theorem dX3_init_0 : decode cX3_init 0 = .ok (.aload_n 0, 1) := by decide +kernel
theorem dX3_init_1 : decode cX3_init 1 = .ok (.invokespecial 3, 3) := by decide +kernel
theorem dX3_init_4 : decode cX3_init 4 = .ok (.aload_n 0, 1) := by decide +kernel
theorem dX3_init_5 : decode cX3_init 5 = .ok (.bipush 36, 2) := by decide +kernel
theorem dX3_init_7 : decode cX3_init 7 = .ok (.newarray .int, 2) := by decide +kernel
theorem dX3_init_9 : decode cX3_init 9 = .ok (.putfield 9, 3) := by decide +kernel
theorem dX3_init_12 : decode cX3_init 12 = .ok (.aload_n 0, 1) := by decide +kernel
theorem dX3_init_13 : decode cX3_init 13 = .ok (.iconst 0, 1) := by decide +kernel
theorem dX3_init_14 : decode cX3_init 14 = .ok (.putfield 15, 3) := by decide +kernel
theorem dX3_init_17 : decode cX3_init 17 = .ok (.return_, 1) := by decide +kernel
theorem dX3_add_0 : decode cX3_add 0 = .ok (.aload_n 0, 1) := by decide +kernel
theorem dX3_add_1 : decode cX3_add 1 = .ok (.getfield 9, 3) := by decide +kernel
theorem dX3_add_4 : decode cX3_add 4 = .ok (.iload_n 1, 1) := by decide +kernel
theorem dX3_add_5 : decode cX3_add 5 = .ok (.dup2, 1) := by decide +kernel
theorem dX3_add_6 : decode cX3_add 6 = .ok (.iaload, 1) := by decide +kernel
theorem dX3_add_7 : decode cX3_add 7 = .ok (.iconst 1, 1) := by decide +kernel
theorem dX3_add_8 : decode cX3_add 8 = .ok (.iadd, 1) := by decide +kernel
theorem dX3_add_9 : decode cX3_add 9 = .ok (.iastore, 1) := by decide +kernel
theorem dX3_add_10 : decode cX3_add 10 = .ok (.aload_n 0, 1) := by decide +kernel
theorem dX3_add_11 : decode cX3_add 11 = .ok (.dup, 1) := by decide +kernel
theorem dX3_add_12 : decode cX3_add 12 = .ok (.getfield 15, 3) := by decide +kernel
theorem dX3_add_15 : decode cX3_add 15 = .ok (.iconst 1, 1) := by decide +kernel
theorem dX3_add_16 : decode cX3_add 16 = .ok (.iadd, 1) := by decide +kernel
theorem dX3_add_17 : decode cX3_add 17 = .ok (.putfield 15, 3) := by decide +kernel
theorem dX3_add_20 : decode cX3_add 20 = .ok (.return_, 1) := by decide +kernel
theorem dX3_remove_0 : decode cX3_remove 0 = .ok (.aload_n 0, 1) := by decide +kernel
theorem dX3_remove_1 : decode cX3_remove 1 = .ok (.getfield 9, 3) := by decide +kernel
theorem dX3_remove_4 : decode cX3_remove 4 = .ok (.iload_n 1, 1) := by decide +kernel
theorem dX3_remove_5 : decode cX3_remove 5 = .ok (.dup2, 1) := by decide +kernel
theorem dX3_remove_6 : decode cX3_remove 6 = .ok (.iaload, 1) := by decide +kernel
theorem dX3_remove_7 : decode cX3_remove 7 = .ok (.iconst 1, 1) := by decide +kernel
theorem dX3_remove_8 : decode cX3_remove 8 = .ok (.isub, 1) := by decide +kernel
theorem dX3_remove_9 : decode cX3_remove 9 = .ok (.iastore, 1) := by decide +kernel
theorem dX3_remove_10 : decode cX3_remove 10 = .ok (.aload_n 0, 1) := by decide +kernel
theorem dX3_remove_11 : decode cX3_remove 11 = .ok (.dup, 1) := by decide +kernel
theorem dX3_remove_12 : decode cX3_remove 12 = .ok (.getfield 15, 3) := by decide +kernel
theorem dX3_remove_15 : decode cX3_remove 15 = .ok (.iconst 1, 1) := by decide +kernel
theorem dX3_remove_16 : decode cX3_remove 16 = .ok (.isub, 1) := by decide +kernel
theorem dX3_remove_17 : decode cX3_remove 17 = .ok (.putfield 15, 3) := by decide +kernel
theorem dX3_remove_20 : decode cX3_remove 20 = .ok (.return_, 1) := by decide +kernel
theorem dX3_costOf_0 : decode cX3_costOf 0 = .ok (.aload_n 0, 1) := by decide +kernel
theorem dX3_costOf_1 : decode cX3_costOf 1 = .ok (.getfield 15, 3) := by decide +kernel
theorem dX3_costOf_4 : decode cX3_costOf 4 = .ok (.bipush 36, 2) := by decide +kernel
theorem dX3_costOf_6 : decode cX3_costOf 6 = .ok (.iadd, 1) := by decide +kernel
theorem dX3_costOf_7 : decode cX3_costOf 7 = .ok (.istore_n 2, 1) := by decide +kernel
theorem dX3_costOf_8 : decode cX3_costOf 8 = .ok (.aload_n 0, 1) := by decide +kernel
theorem dX3_costOf_9 : decode cX3_costOf 9 = .ok (.getfield 9, 3) := by decide +kernel
theorem dX3_costOf_12 : decode cX3_costOf 12 = .ok (.iload_n 1, 1) := by decide +kernel
theorem dX3_costOf_13 : decode cX3_costOf 13 = .ok (.iaload, 1) := by decide +kernel
theorem dX3_costOf_14 : decode cX3_costOf 14 = .ok (.iconst 1, 1) := by decide +kernel
theorem dX3_costOf_15 : decode cX3_costOf 15 = .ok (.iadd, 1) := by decide +kernel
theorem dX3_costOf_16 : decode cX3_costOf 16 = .ok (.istore_n 3, 1) := by decide +kernel
theorem dX3_costOf_17 : decode cX3_costOf 17 = .ok (.iconst 0, 1) := by decide +kernel
theorem dX3_costOf_18 : decode cX3_costOf 18 = .ok (.istore 4, 2) := by decide +kernel
theorem dX3_costOf_20 : decode cX3_costOf 20 = .ok (.iload_n 3, 1) := by decide +kernel
theorem dX3_costOf_21 : decode cX3_costOf 21 = .ok (.iload_n 2, 1) := by decide +kernel
theorem dX3_costOf_22 : decode cX3_costOf 22 = .ok (.if_icmp .ge 20, 3) := by decide +kernel
theorem dX3_costOf_25 : decode cX3_costOf 25 = .ok (.iload 4, 2) := by decide +kernel
theorem dX3_costOf_27 : decode cX3_costOf 27 = .ok (.bipush 10, 2) := by decide +kernel
theorem dX3_costOf_29 : decode cX3_costOf 29 = .ok (.if_icmp .ge 13, 3) := by decide +kernel
theorem dX3_costOf_32 : decode cX3_costOf 32 = .ok (.iload_n 3, 1) := by decide +kernel
theorem dX3_costOf_33 : decode cX3_costOf 33 = .ok (.iconst 2, 1) := by decide +kernel
theorem dX3_costOf_34 : decode cX3_costOf 34 = .ok (.imul, 1) := by decide +kernel
theorem dX3_costOf_35 : decode cX3_costOf 35 = .ok (.istore_n 3, 1) := by decide +kernel
theorem dX3_costOf_36 : decode cX3_costOf 36 = .ok (.iinc 4 1, 3) := by decide +kernel
theorem dX3_costOf_39 : decode cX3_costOf 39 = .ok (.goto (-19), 3) := by decide +kernel
theorem dX3_costOf_42 : decode cX3_costOf 42 = .ok (.iload 4, 2) := by decide +kernel
theorem dX3_costOf_44 : decode cX3_costOf 44 = .ok (.ireturn, 1) := by decide +kernel
