/-! ===== printed: decode rows, the law s small methods ===== -/
set_option maxRecDepth 20000 in
theorem ggL_spell_X4_spell : GoodIn wsL_spell wsX4_spell := goodIn_ca (goodIn_ca (goodIn_r _ [7, 8, 9, 10, 11, 12, 13, 14, 15, 6, 16, 17, 18, 19, 20, 21, 22, 23, 24, 25, 26, 27, 28, 29, 30, 31, 32, 33] (by decide +kernel) (by decide +kernel)) (goodIn_sub (fun _ h => List.mem_cons_of_mem _ (List.mem_append_left _ (List.mem_append_right _ h))) (by decide +kernel))) (goodIn_sub (fun _ h => List.mem_cons_of_mem _ (List.mem_append_right _ h)) (by decide +kernel))
set_option maxRecDepth 20000 in
theorem gL_spell_X4_spell : GoodIn wsL_spell (wsV RL 7 RX4 yX4_spell wsX4_spell) := goodIn_app (goodIn_of _ (by decide +kernel)) ggL_spell_X4_spell
theorem dL_spell_0 : decode cL_spell 0 = .ok (.aload_n 2, 1) := by decide +kernel
theorem dL_spell_1 : decode cL_spell 1 = .ok (.iconst 0, 1) := by decide +kernel
theorem dL_spell_2 : decode cL_spell 2 = .ok (.aload_n 0, 1) := by decide +kernel
theorem dL_spell_3 : decode cL_spell 3 = .ok (.iload_n 1, 1) := by decide +kernel
theorem dL_spell_4 : decode cL_spell 4 = .ok (.invokevirtual 7, 3) := by decide +kernel
theorem dL_spell_7 : decode cL_spell 7 = .ok (.i2l, 1) := by decide +kernel
theorem dL_spell_8 : decode cL_spell 8 = .ok (.lastore, 1) := by decide +kernel
theorem dL_spell_9 : decode cL_spell 9 = .ok (.goto 9, 3) := by decide +kernel
theorem dL_spell_12 : decode cL_spell 12 = .ok (.astore_n 3, 1) := by decide +kernel
theorem dL_spell_13 : decode cL_spell 13 = .ok (.iconst 1, 1) := by decide +kernel
theorem dL_spell_14 : decode cL_spell 14 = .ok (.ireturn, 1) := by decide +kernel
theorem dL_spell_15 : decode cL_spell 15 = .ok (.astore_n 3, 1) := by decide +kernel
theorem dL_spell_16 : decode cL_spell 16 = .ok (.iconst 2, 1) := by decide +kernel
theorem dL_spell_17 : decode cL_spell 17 = .ok (.ireturn, 1) := by decide +kernel
theorem dL_spell_18 : decode cL_spell 18 = .ok (.iconst 0, 1) := by decide +kernel
theorem dL_spell_19 : decode cL_spell 19 = .ok (.ireturn, 1) := by decide +kernel
set_option maxRecDepth 20000 in
theorem ggL_runAt_X4_runAt : GoodIn wsL_runAt wsX4_runAt := goodIn_ca (goodIn_r _ [6, 7, 8, 9, 10, 5, 11, 12, 13, 14, 15, 16, 17, 18, 19, 20, 21, 22, 23, 24, 25, 26, 27, 28, 29, 30, 31, 32, 33, 34, 35, 36, 37, 38] (by decide +kernel) (by decide +kernel)) (goodIn_sub (fun _ h => List.mem_cons_of_mem _ (List.mem_append_right _ h)) (by decide +kernel))
set_option maxRecDepth 20000 in
theorem gL_runAt_X4_runAt : GoodIn wsL_runAt (wsV RL 17 RX4 yX4_runAt wsX4_runAt) := goodIn_app (goodIn_of _ (by decide +kernel)) ggL_runAt_X4_runAt
theorem dL_runAt_0 : decode cL_runAt 0 = .ok (.aload_n 2, 1) := by decide +kernel
theorem dL_runAt_1 : decode cL_runAt 1 = .ok (.iconst 0, 1) := by decide +kernel
theorem dL_runAt_2 : decode cL_runAt 2 = .ok (.aload_n 0, 1) := by decide +kernel
theorem dL_runAt_3 : decode cL_runAt 3 = .ok (.iload_n 1, 1) := by decide +kernel
theorem dL_runAt_4 : decode cL_runAt 4 = .ok (.invokevirtual 17, 3) := by decide +kernel
theorem dL_runAt_7 : decode cL_runAt 7 = .ok (.i2l, 1) := by decide +kernel
theorem dL_runAt_8 : decode cL_runAt 8 = .ok (.lastore, 1) := by decide +kernel
theorem dL_runAt_9 : decode cL_runAt 9 = .ok (.goto 6, 3) := by decide +kernel
theorem dL_runAt_12 : decode cL_runAt 12 = .ok (.astore_n 3, 1) := by decide +kernel
theorem dL_runAt_13 : decode cL_runAt 13 = .ok (.iconst 1, 1) := by decide +kernel
theorem dL_runAt_14 : decode cL_runAt 14 = .ok (.ireturn, 1) := by decide +kernel
theorem dL_runAt_15 : decode cL_runAt 15 = .ok (.iconst 0, 1) := by decide +kernel
theorem dL_runAt_16 : decode cL_runAt 16 = .ok (.ireturn, 1) := by decide +kernel
set_option maxRecDepth 20000 in
theorem ggL_addTongue_X4_addTongue : GoodIn wsL_addTongue wsX4_addTongue := goodIn_ca (goodIn_r _ [6, 7, 8, 9, 10, 11, 12, 5, 13, 14, 15, 16, 17, 18, 19, 20, 21] (by decide +kernel) (by decide +kernel)) (goodIn_sub (fun _ h => List.mem_cons_of_mem _ (List.mem_append_right _ h)) (by decide +kernel))
set_option maxRecDepth 20000 in
theorem gL_addTongue_X4_addTongue : GoodIn wsL_addTongue (wsV RL 23 RX4 yX4_addTongue wsX4_addTongue) := goodIn_app (goodIn_of _ (by decide +kernel)) ggL_addTongue_X4_addTongue
theorem dL_addTongue_0 : decode cL_addTongue 0 = .ok (.aload_n 1, 1) := by decide +kernel
theorem dL_addTongue_1 : decode cL_addTongue 1 = .ok (.iconst 0, 1) := by decide +kernel
theorem dL_addTongue_2 : decode cL_addTongue 2 = .ok (.aload_n 0, 1) := by decide +kernel
theorem dL_addTongue_3 : decode cL_addTongue 3 = .ok (.invokevirtual 23, 3) := by decide +kernel
theorem dL_addTongue_6 : decode cL_addTongue 6 = .ok (.i2l, 1) := by decide +kernel
theorem dL_addTongue_7 : decode cL_addTongue 7 = .ok (.lastore, 1) := by decide +kernel
theorem dL_addTongue_8 : decode cL_addTongue 8 = .ok (.goto 6, 3) := by decide +kernel
theorem dL_addTongue_11 : decode cL_addTongue 11 = .ok (.astore_n 2, 1) := by decide +kernel
theorem dL_addTongue_12 : decode cL_addTongue 12 = .ok (.iconst 1, 1) := by decide +kernel
theorem dL_addTongue_13 : decode cL_addTongue 13 = .ok (.ireturn, 1) := by decide +kernel
theorem dL_addTongue_14 : decode cL_addTongue 14 = .ok (.iconst 0, 1) := by decide +kernel
theorem dL_addTongue_15 : decode cL_addTongue 15 = .ok (.ireturn, 1) := by decide +kernel
set_option maxRecDepth 20000 in
theorem ggL_teach_X4_teach : GoodIn wsL_teach wsX4_teach := goodIn_ca (goodIn_ca (goodIn_r _ [7, 8, 9, 10, 11, 12, 13, 14, 15, 6, 16, 17, 18, 19, 20, 21, 22, 23, 24, 25, 26, 27, 28, 29, 30, 31, 32, 33, 34, 35, 36, 37, 38, 39, 40, 41, 42, 43, 44, 45, 46, 47, 48, 49, 50, 51, 52, 53, 54, 55, 56, 57, 58, 59, 60, 61, 62, 63, 64, 65, 66, 67, 68, 69, 70, 71, 72, 73, 74, 75, 76, 77, 78, 79, 80, 81, 82] (by decide +kernel) (by decide +kernel)) (goodIn_sub (fun _ h => List.mem_cons_of_mem _ (List.mem_append_left _ (List.mem_append_right _ h))) (by decide +kernel))) (goodIn_sub (fun _ h => List.mem_cons_of_mem _ (List.mem_append_right _ h)) (by decide +kernel))
set_option maxRecDepth 20000 in
theorem gL_teach_X4_teach : GoodIn wsL_teach (wsV RL 27 RX4 yX4_teach wsX4_teach) := goodIn_app (goodIn_of _ (by decide +kernel)) ggL_teach_X4_teach
theorem dL_teach_0 : decode cL_teach 0 = .ok (.aload_n 2, 1) := by decide +kernel
theorem dL_teach_1 : decode cL_teach 1 = .ok (.iconst 0, 1) := by decide +kernel
theorem dL_teach_2 : decode cL_teach 2 = .ok (.aload_n 0, 1) := by decide +kernel
theorem dL_teach_3 : decode cL_teach 3 = .ok (.iload_n 1, 1) := by decide +kernel
theorem dL_teach_4 : decode cL_teach 4 = .ok (.invokevirtual 27, 3) := by decide +kernel
theorem dL_teach_7 : decode cL_teach 7 = .ok (.i2l, 1) := by decide +kernel
theorem dL_teach_8 : decode cL_teach 8 = .ok (.lastore, 1) := by decide +kernel
theorem dL_teach_9 : decode cL_teach 9 = .ok (.goto 9, 3) := by decide +kernel
theorem dL_teach_12 : decode cL_teach 12 = .ok (.astore_n 3, 1) := by decide +kernel
theorem dL_teach_13 : decode cL_teach 13 = .ok (.iconst 1, 1) := by decide +kernel
theorem dL_teach_14 : decode cL_teach 14 = .ok (.ireturn, 1) := by decide +kernel
theorem dL_teach_15 : decode cL_teach 15 = .ok (.astore_n 3, 1) := by decide +kernel
theorem dL_teach_16 : decode cL_teach 16 = .ok (.iconst 2, 1) := by decide +kernel
theorem dL_teach_17 : decode cL_teach 17 = .ok (.ireturn, 1) := by decide +kernel
theorem dL_teach_18 : decode cL_teach 18 = .ok (.iconst 0, 1) := by decide +kernel
theorem dL_teach_19 : decode cL_teach 19 = .ok (.ireturn, 1) := by decide +kernel
set_option maxRecDepth 20000 in
theorem ggL_withdraw_X4_withdraw : GoodIn wsL_withdraw wsX4_withdraw := goodIn_ca (goodIn_r _ [6, 7, 8, 9, 10, 11, 12, 13, 14, 5, 15, 16, 17, 18, 19, 20, 21, 22, 23, 24, 25, 26, 27, 28, 29, 30, 31, 32, 33, 34, 35, 36, 37, 38, 39, 40, 41, 42, 43, 44, 45, 46, 47, 48, 49, 50, 51, 52, 53] (by decide +kernel) (by decide +kernel)) (goodIn_sub (fun _ h => List.mem_cons_of_mem _ (List.mem_append_right _ h)) (by decide +kernel))
set_option maxRecDepth 20000 in
theorem gL_withdraw_X4_withdraw : GoodIn wsL_withdraw (wsV RL 30 RX4 yX4_withdraw wsX4_withdraw) := goodIn_app (goodIn_of _ (by decide +kernel)) ggL_withdraw_X4_withdraw
theorem dL_withdraw_0 : decode cL_withdraw 0 = .ok (.aload_n 2, 1) := by decide +kernel
theorem dL_withdraw_1 : decode cL_withdraw 1 = .ok (.iconst 0, 1) := by decide +kernel
theorem dL_withdraw_2 : decode cL_withdraw 2 = .ok (.aload_n 0, 1) := by decide +kernel
theorem dL_withdraw_3 : decode cL_withdraw 3 = .ok (.iload_n 1, 1) := by decide +kernel
theorem dL_withdraw_4 : decode cL_withdraw 4 = .ok (.invokevirtual 30, 3) := by decide +kernel
theorem dL_withdraw_7 : decode cL_withdraw 7 = .ok (.i2l, 1) := by decide +kernel
theorem dL_withdraw_8 : decode cL_withdraw 8 = .ok (.lastore, 1) := by decide +kernel
theorem dL_withdraw_9 : decode cL_withdraw 9 = .ok (.goto 6, 3) := by decide +kernel
theorem dL_withdraw_12 : decode cL_withdraw 12 = .ok (.astore_n 3, 1) := by decide +kernel
theorem dL_withdraw_13 : decode cL_withdraw 13 = .ok (.iconst 1, 1) := by decide +kernel
theorem dL_withdraw_14 : decode cL_withdraw 14 = .ok (.ireturn, 1) := by decide +kernel
theorem dL_withdraw_15 : decode cL_withdraw 15 = .ok (.iconst 0, 1) := by decide +kernel
theorem dL_withdraw_16 : decode cL_withdraw 16 = .ok (.ireturn, 1) := by decide +kernel
set_option maxRecDepth 20000 in
theorem ggL_tongueOf_X4_tongueOf : GoodIn wsL_tongueOf wsX4_tongueOf := goodIn_ca (goodIn_r _ [6, 7, 8, 9, 10, 11, 5, 12, 13, 14, 15, 16, 17, 18, 19, 20, 21, 22, 23, 24, 25, 26, 27, 28, 29, 30, 31, 32, 33, 34, 35, 36, 37] (by decide +kernel) (by decide +kernel)) (goodIn_sub (fun _ h => List.mem_cons_of_mem _ (List.mem_append_right _ h)) (by decide +kernel))
set_option maxRecDepth 20000 in
theorem gL_tongueOf_X4_tongueOf : GoodIn wsL_tongueOf (wsV RL 35 RX4 yX4_tongueOf wsX4_tongueOf) := goodIn_app (goodIn_of _ (by decide +kernel)) ggL_tongueOf_X4_tongueOf
theorem dL_tongueOf_0 : decode cL_tongueOf 0 = .ok (.aload_n 2, 1) := by decide +kernel
theorem dL_tongueOf_1 : decode cL_tongueOf 1 = .ok (.iconst 0, 1) := by decide +kernel
theorem dL_tongueOf_2 : decode cL_tongueOf 2 = .ok (.aload_n 0, 1) := by decide +kernel
theorem dL_tongueOf_3 : decode cL_tongueOf 3 = .ok (.iload_n 1, 1) := by decide +kernel
theorem dL_tongueOf_4 : decode cL_tongueOf 4 = .ok (.invokevirtual 35, 3) := by decide +kernel
theorem dL_tongueOf_7 : decode cL_tongueOf 7 = .ok (.i2l, 1) := by decide +kernel
theorem dL_tongueOf_8 : decode cL_tongueOf 8 = .ok (.lastore, 1) := by decide +kernel
theorem dL_tongueOf_9 : decode cL_tongueOf 9 = .ok (.goto 6, 3) := by decide +kernel
theorem dL_tongueOf_12 : decode cL_tongueOf 12 = .ok (.astore_n 3, 1) := by decide +kernel
theorem dL_tongueOf_13 : decode cL_tongueOf 13 = .ok (.iconst 1, 1) := by decide +kernel
theorem dL_tongueOf_14 : decode cL_tongueOf 14 = .ok (.ireturn, 1) := by decide +kernel
theorem dL_tongueOf_15 : decode cL_tongueOf 15 = .ok (.iconst 0, 1) := by decide +kernel
theorem dL_tongueOf_16 : decode cL_tongueOf 16 = .ok (.ireturn, 1) := by decide +kernel
set_option maxRecDepth 20000 in
theorem ggL_total_X4_total : GoodIn wsL_total wsX4_total := goodIn_ca (goodIn_r _ [6, 7, 8, 9, 10, 11, 5, 12, 13, 14, 15, 16, 17, 18, 19, 20, 21, 22, 23, 24, 25] (by decide +kernel) (by decide +kernel)) (goodIn_sub (fun _ h => List.mem_cons_of_mem _ (List.mem_append_right _ h)) (by decide +kernel))
set_option maxRecDepth 20000 in
theorem gL_total_X4_total : GoodIn wsL_total (wsV RL 38 RX4 yX4_total wsX4_total) := goodIn_app (goodIn_of _ (by decide +kernel)) ggL_total_X4_total
theorem dL_total_0 : decode cL_total 0 = .ok (.aload_n 2, 1) := by decide +kernel
theorem dL_total_1 : decode cL_total 1 = .ok (.iconst 0, 1) := by decide +kernel
theorem dL_total_2 : decode cL_total 2 = .ok (.aload_n 0, 1) := by decide +kernel
theorem dL_total_3 : decode cL_total 3 = .ok (.iload_n 1, 1) := by decide +kernel
theorem dL_total_4 : decode cL_total 4 = .ok (.invokevirtual 38, 3) := by decide +kernel
theorem dL_total_7 : decode cL_total 7 = .ok (.i2l, 1) := by decide +kernel
theorem dL_total_8 : decode cL_total 8 = .ok (.lastore, 1) := by decide +kernel
theorem dL_total_9 : decode cL_total 9 = .ok (.goto 6, 3) := by decide +kernel
theorem dL_total_12 : decode cL_total 12 = .ok (.astore_n 3, 1) := by decide +kernel
theorem dL_total_13 : decode cL_total 13 = .ok (.iconst 1, 1) := by decide +kernel
theorem dL_total_14 : decode cL_total 14 = .ok (.ireturn, 1) := by decide +kernel
theorem dL_total_15 : decode cL_total 15 = .ok (.iconst 0, 1) := by decide +kernel
theorem dL_total_16 : decode cL_total 16 = .ok (.ireturn, 1) := by decide +kernel
set_option maxRecDepth 20000 in
theorem ggL_count_X4_count : GoodIn wsL_count wsX4_count := goodIn_ca (goodIn_r _ [6, 7, 8, 9, 10, 11, 5, 12, 13, 14, 15, 16, 17, 18, 19, 20, 21, 22, 23, 24, 25, 26, 27, 28] (by decide +kernel) (by decide +kernel)) (goodIn_sub (fun _ h => List.mem_cons_of_mem _ (List.mem_append_right _ h)) (by decide +kernel))
set_option maxRecDepth 20000 in
theorem gL_count_X4_count : GoodIn wsL_count (wsV RL 41 RX4 yX4_count wsX4_count) := goodIn_app (goodIn_of _ (by decide +kernel)) ggL_count_X4_count
theorem dL_count_0 : decode cL_count 0 = .ok (.aload_n 3, 1) := by decide +kernel
theorem dL_count_1 : decode cL_count 1 = .ok (.iconst 0, 1) := by decide +kernel
theorem dL_count_2 : decode cL_count 2 = .ok (.aload_n 0, 1) := by decide +kernel
theorem dL_count_3 : decode cL_count 3 = .ok (.iload_n 1, 1) := by decide +kernel
theorem dL_count_4 : decode cL_count 4 = .ok (.iload_n 2, 1) := by decide +kernel
theorem dL_count_5 : decode cL_count 5 = .ok (.invokevirtual 41, 3) := by decide +kernel
theorem dL_count_8 : decode cL_count 8 = .ok (.i2l, 1) := by decide +kernel
theorem dL_count_9 : decode cL_count 9 = .ok (.lastore, 1) := by decide +kernel
theorem dL_count_10 : decode cL_count 10 = .ok (.goto 7, 3) := by decide +kernel
theorem dL_count_13 : decode cL_count 13 = .ok (.astore 4, 2) := by decide +kernel
theorem dL_count_15 : decode cL_count 15 = .ok (.iconst 1, 1) := by decide +kernel
theorem dL_count_16 : decode cL_count 16 = .ok (.ireturn, 1) := by decide +kernel
theorem dL_count_17 : decode cL_count 17 = .ok (.iconst 0, 1) := by decide +kernel
theorem dL_count_18 : decode cL_count 18 = .ok (.ireturn, 1) := by decide +kernel
set_option maxRecDepth 20000 in
theorem ggL_cost_X4_cost : GoodIn wsL_cost wsX4_cost := goodIn_ca (goodIn_r _ [6, 7, 8, 9, 10, 5, 11, 12, 13, 14, 15, 16, 17, 18, 19, 20, 21, 22, 23, 24, 25, 26, 27, 28, 29, 30, 31, 32, 33, 34] (by decide +kernel) (by decide +kernel)) (goodIn_sub (fun _ h => List.mem_cons_of_mem _ (List.mem_append_right _ h)) (by decide +kernel))
set_option maxRecDepth 20000 in
theorem gL_cost_X4_cost : GoodIn wsL_cost (wsV RL 45 RX4 yX4_cost wsX4_cost) := goodIn_app (goodIn_of _ (by decide +kernel)) ggL_cost_X4_cost
theorem dL_cost_0 : decode cL_cost 0 = .ok (.aload_n 3, 1) := by decide +kernel
theorem dL_cost_1 : decode cL_cost 1 = .ok (.iconst 0, 1) := by decide +kernel
theorem dL_cost_2 : decode cL_cost 2 = .ok (.aload_n 0, 1) := by decide +kernel
theorem dL_cost_3 : decode cL_cost 3 = .ok (.iload_n 1, 1) := by decide +kernel
theorem dL_cost_4 : decode cL_cost 4 = .ok (.iload_n 2, 1) := by decide +kernel
theorem dL_cost_5 : decode cL_cost 5 = .ok (.invokevirtual 45, 3) := by decide +kernel
theorem dL_cost_8 : decode cL_cost 8 = .ok (.i2l, 1) := by decide +kernel
theorem dL_cost_9 : decode cL_cost 9 = .ok (.lastore, 1) := by decide +kernel
theorem dL_cost_10 : decode cL_cost 10 = .ok (.goto 7, 3) := by decide +kernel
theorem dL_cost_13 : decode cL_cost 13 = .ok (.astore 4, 2) := by decide +kernel
theorem dL_cost_15 : decode cL_cost 15 = .ok (.iconst 1, 1) := by decide +kernel
theorem dL_cost_16 : decode cL_cost 16 = .ok (.ireturn, 1) := by decide +kernel
theorem dL_cost_17 : decode cL_cost 17 = .ok (.iconst 0, 1) := by decide +kernel
theorem dL_cost_18 : decode cL_cost 18 = .ok (.ireturn, 1) := by decide +kernel
set_option maxRecDepth 20000 in
theorem ggL_rank_X4_rank : GoodIn wsL_rank wsX4_rank := goodIn_ca (goodIn_r _ [6, 7, 8, 9, 10, 5, 11, 12, 13, 14, 15, 16, 17, 18, 19, 20, 21, 22, 23, 24, 25, 26, 27, 28, 29, 30, 31, 32, 33] (by decide +kernel) (by decide +kernel)) (goodIn_sub (fun _ h => List.mem_cons_of_mem _ (List.mem_append_right _ h)) (by decide +kernel))
set_option maxRecDepth 20000 in
theorem gL_rank_X4_rank : GoodIn wsL_rank (wsV RL 48 RX4 yX4_rank wsX4_rank) := goodIn_app (goodIn_of _ (by decide +kernel)) ggL_rank_X4_rank
theorem dL_rank_0 : decode cL_rank 0 = .ok (.aload_n 3, 1) := by decide +kernel
theorem dL_rank_1 : decode cL_rank 1 = .ok (.iconst 0, 1) := by decide +kernel
theorem dL_rank_2 : decode cL_rank 2 = .ok (.aload_n 0, 1) := by decide +kernel
theorem dL_rank_3 : decode cL_rank 3 = .ok (.iload_n 1, 1) := by decide +kernel
theorem dL_rank_4 : decode cL_rank 4 = .ok (.iload_n 2, 1) := by decide +kernel
theorem dL_rank_5 : decode cL_rank 5 = .ok (.invokevirtual 48, 3) := by decide +kernel
theorem dL_rank_8 : decode cL_rank 8 = .ok (.i2l, 1) := by decide +kernel
theorem dL_rank_9 : decode cL_rank 9 = .ok (.lastore, 1) := by decide +kernel
theorem dL_rank_10 : decode cL_rank 10 = .ok (.goto 7, 3) := by decide +kernel
theorem dL_rank_13 : decode cL_rank 13 = .ok (.astore 4, 2) := by decide +kernel
theorem dL_rank_15 : decode cL_rank 15 = .ok (.iconst 1, 1) := by decide +kernel
theorem dL_rank_16 : decode cL_rank 16 = .ok (.ireturn, 1) := by decide +kernel
theorem dL_rank_17 : decode cL_rank 17 = .ok (.iconst 0, 1) := by decide +kernel
theorem dL_rank_18 : decode cL_rank 18 = .ok (.ireturn, 1) := by decide +kernel
set_option maxRecDepth 20000 in
theorem ggL_textCost_X4_textCost : GoodIn wsL_textCost wsX4_textCost := goodIn_ca (goodIn_r _ [6, 7, 8, 9, 5, 10, 11, 12, 13, 14, 15, 16, 17, 18, 19, 20, 21, 22, 23, 24, 25, 26, 27, 28, 29, 30, 31, 32, 33, 34, 35, 36, 37, 38, 39, 40, 41, 42, 43, 44, 45, 46, 47, 48, 49, 50, 51, 52, 53] (by decide +kernel) (by decide +kernel)) (goodIn_sub (fun _ h => List.mem_cons_of_mem _ (List.mem_append_right _ h)) (by decide +kernel))
set_option maxRecDepth 20000 in
theorem gL_textCost_X4_textCost : GoodIn wsL_textCost (wsV RL 51 RX4 yX4_textCost wsX4_textCost) := goodIn_app (goodIn_of _ (by decide +kernel)) ggL_textCost_X4_textCost
theorem dL_textCost_0 : decode cL_textCost 0 = .ok (.aload_n 2, 1) := by decide +kernel
theorem dL_textCost_1 : decode cL_textCost 1 = .ok (.iconst 0, 1) := by decide +kernel
theorem dL_textCost_2 : decode cL_textCost 2 = .ok (.aload_n 0, 1) := by decide +kernel
theorem dL_textCost_3 : decode cL_textCost 3 = .ok (.iload_n 1, 1) := by decide +kernel
theorem dL_textCost_4 : decode cL_textCost 4 = .ok (.invokevirtual 51, 3) := by decide +kernel
theorem dL_textCost_7 : decode cL_textCost 7 = .ok (.i2l, 1) := by decide +kernel
theorem dL_textCost_8 : decode cL_textCost 8 = .ok (.lastore, 1) := by decide +kernel
theorem dL_textCost_9 : decode cL_textCost 9 = .ok (.goto 6, 3) := by decide +kernel
theorem dL_textCost_12 : decode cL_textCost 12 = .ok (.astore_n 3, 1) := by decide +kernel
theorem dL_textCost_13 : decode cL_textCost 13 = .ok (.iconst 1, 1) := by decide +kernel
theorem dL_textCost_14 : decode cL_textCost 14 = .ok (.ireturn, 1) := by decide +kernel
theorem dL_textCost_15 : decode cL_textCost 15 = .ok (.iconst 0, 1) := by decide +kernel
theorem dL_textCost_16 : decode cL_textCost 16 = .ok (.ireturn, 1) := by decide +kernel
set_option maxRecDepth 20000 in
theorem ggL_distance_X4_distance : GoodIn wsL_distance wsX4_distance := goodIn_ca (goodIn_r _ [6, 7, 8, 9, 5, 10, 11, 12, 13, 14, 15, 16, 17, 18, 19, 20, 21, 22, 23, 24, 25, 26, 27, 28, 29, 30, 31, 32, 33, 34, 35, 36, 37, 38, 39, 40, 41, 42, 43, 44, 45, 46, 47, 48, 49, 50, 51, 52, 53, 54, 55, 56, 57, 58, 59, 60, 61, 62, 63, 64, 65, 66, 67, 68, 69, 70] (by decide +kernel) (by decide +kernel)) (goodIn_sub (fun _ h => List.mem_cons_of_mem _ (List.mem_append_right _ h)) (by decide +kernel))
set_option maxRecDepth 20000 in
theorem gL_distance_X4_distance : GoodIn wsL_distance (wsV RL 54 RX4 yX4_distance wsX4_distance) := goodIn_app (goodIn_of _ (by decide +kernel)) ggL_distance_X4_distance
theorem dL_distance_0 : decode cL_distance 0 = .ok (.aload_n 2, 1) := by decide +kernel
theorem dL_distance_1 : decode cL_distance 1 = .ok (.iconst 0, 1) := by decide +kernel
theorem dL_distance_2 : decode cL_distance 2 = .ok (.aload_n 0, 1) := by decide +kernel
theorem dL_distance_3 : decode cL_distance 3 = .ok (.iload_n 1, 1) := by decide +kernel
theorem dL_distance_4 : decode cL_distance 4 = .ok (.invokevirtual 54, 3) := by decide +kernel
theorem dL_distance_7 : decode cL_distance 7 = .ok (.i2l, 1) := by decide +kernel
theorem dL_distance_8 : decode cL_distance 8 = .ok (.lastore, 1) := by decide +kernel
theorem dL_distance_9 : decode cL_distance 9 = .ok (.goto 6, 3) := by decide +kernel
theorem dL_distance_12 : decode cL_distance 12 = .ok (.astore_n 3, 1) := by decide +kernel
theorem dL_distance_13 : decode cL_distance 13 = .ok (.iconst 1, 1) := by decide +kernel
theorem dL_distance_14 : decode cL_distance 14 = .ok (.ireturn, 1) := by decide +kernel
theorem dL_distance_15 : decode cL_distance 15 = .ok (.iconst 0, 1) := by decide +kernel
theorem dL_distance_16 : decode cL_distance 16 = .ok (.ireturn, 1) := by decide +kernel
set_option maxRecDepth 20000 in
theorem ggL_setMargin_X4_setMargin : GoodIn wsL_setMargin wsX4_setMargin := goodIn_ca (goodIn_r _ [6, 7, 8, 9, 10, 11, 12, 13, 14, 15, 16, 17] (by decide +kernel) (by decide +kernel)) (goodIn_sub (fun _ h => List.mem_cons_of_mem _ (List.mem_append_right _ h)) (by decide +kernel))
set_option maxRecDepth 20000 in
theorem gL_setMargin_X4_setMargin : GoodIn wsL_setMargin (wsV RL 57 RX4 yX4_setMargin wsX4_setMargin) := goodIn_app (goodIn_of _ (by decide +kernel)) ggL_setMargin_X4_setMargin
theorem dL_setMargin_0 : decode cL_setMargin 0 = .ok (.aload_n 2, 1) := by decide +kernel
theorem dL_setMargin_1 : decode cL_setMargin 1 = .ok (.iconst 0, 1) := by decide +kernel
theorem dL_setMargin_2 : decode cL_setMargin 2 = .ok (.aload_n 0, 1) := by decide +kernel
theorem dL_setMargin_3 : decode cL_setMargin 3 = .ok (.iload_n 1, 1) := by decide +kernel
theorem dL_setMargin_4 : decode cL_setMargin 4 = .ok (.invokevirtual 57, 3) := by decide +kernel
theorem dL_setMargin_7 : decode cL_setMargin 7 = .ok (.i2l, 1) := by decide +kernel
theorem dL_setMargin_8 : decode cL_setMargin 8 = .ok (.lastore, 1) := by decide +kernel
theorem dL_setMargin_9 : decode cL_setMargin 9 = .ok (.goto 6, 3) := by decide +kernel
theorem dL_setMargin_12 : decode cL_setMargin 12 = .ok (.astore_n 3, 1) := by decide +kernel
theorem dL_setMargin_13 : decode cL_setMargin 13 = .ok (.iconst 1, 1) := by decide +kernel
theorem dL_setMargin_14 : decode cL_setMargin 14 = .ok (.ireturn, 1) := by decide +kernel
theorem dL_setMargin_15 : decode cL_setMargin 15 = .ok (.iconst 0, 1) := by decide +kernel
theorem dL_setMargin_16 : decode cL_setMargin 16 = .ok (.ireturn, 1) := by decide +kernel
set_option maxRecDepth 20000 in
theorem ggL_setPrice_X4_setPrice : GoodIn wsL_setPrice wsX4_setPrice := goodIn_ca (goodIn_r _ [6, 7, 8, 9, 10, 11, 12, 13, 14, 15, 16, 17] (by decide +kernel) (by decide +kernel)) (goodIn_sub (fun _ h => List.mem_cons_of_mem _ (List.mem_append_right _ h)) (by decide +kernel))
set_option maxRecDepth 20000 in
theorem gL_setPrice_X4_setPrice : GoodIn wsL_setPrice (wsV RL 60 RX4 yX4_setPrice wsX4_setPrice) := goodIn_app (goodIn_of _ (by decide +kernel)) ggL_setPrice_X4_setPrice
theorem dL_setPrice_0 : decode cL_setPrice 0 = .ok (.aload_n 2, 1) := by decide +kernel
theorem dL_setPrice_1 : decode cL_setPrice 1 = .ok (.iconst 0, 1) := by decide +kernel
theorem dL_setPrice_2 : decode cL_setPrice 2 = .ok (.aload_n 0, 1) := by decide +kernel
theorem dL_setPrice_3 : decode cL_setPrice 3 = .ok (.iload_n 1, 1) := by decide +kernel
theorem dL_setPrice_4 : decode cL_setPrice 4 = .ok (.invokevirtual 60, 3) := by decide +kernel
theorem dL_setPrice_7 : decode cL_setPrice 7 = .ok (.i2l, 1) := by decide +kernel
theorem dL_setPrice_8 : decode cL_setPrice 8 = .ok (.lastore, 1) := by decide +kernel
theorem dL_setPrice_9 : decode cL_setPrice 9 = .ok (.goto 6, 3) := by decide +kernel
theorem dL_setPrice_12 : decode cL_setPrice 12 = .ok (.astore_n 3, 1) := by decide +kernel
theorem dL_setPrice_13 : decode cL_setPrice 13 = .ok (.iconst 1, 1) := by decide +kernel
theorem dL_setPrice_14 : decode cL_setPrice 14 = .ok (.ireturn, 1) := by decide +kernel
theorem dL_setPrice_15 : decode cL_setPrice 15 = .ok (.iconst 0, 1) := by decide +kernel
theorem dL_setPrice_16 : decode cL_setPrice 16 = .ok (.ireturn, 1) := by decide +kernel
set_option maxRecDepth 20000 in
theorem ggL_cutCost_X4_cutCost : GoodIn wsL_cutCost wsX4_cutCost := goodIn_ca (goodIn_r _ [6, 7, 8, 9, 10, 5, 11, 12, 13, 14, 15, 16, 17, 18, 19, 20, 21, 22, 23, 24, 25, 26, 27, 28, 29, 30, 31, 32, 33, 34, 35, 36, 37, 38, 39, 40, 41, 42, 43, 44, 45, 46, 47, 48, 49, 50, 51, 52, 53, 54, 55, 56, 57, 58, 59, 60, 61, 62, 63, 64, 65, 66, 67, 68, 69, 70, 71, 72, 73, 74, 75, 76, 77, 78, 79, 80, 81, 82, 83, 84, 85, 86, 87, 88, 89, 90, 91, 92, 93, 94, 95, 96] (by decide +kernel) (by decide +kernel)) (goodIn_sub (fun _ h => List.mem_cons_of_mem _ (List.mem_append_right _ h)) (by decide +kernel))
set_option maxRecDepth 20000 in
theorem gL_cutCost_X4_cutCost : GoodIn wsL_cutCost (wsV RL 63 RX4 yX4_cutCost wsX4_cutCost) := goodIn_app (goodIn_of _ (by decide +kernel)) ggL_cutCost_X4_cutCost
theorem dL_cutCost_0 : decode cL_cutCost 0 = .ok (.aload_n 1, 1) := by decide +kernel
theorem dL_cutCost_1 : decode cL_cutCost 1 = .ok (.iconst 0, 1) := by decide +kernel
theorem dL_cutCost_2 : decode cL_cutCost 2 = .ok (.aload_n 0, 1) := by decide +kernel
theorem dL_cutCost_3 : decode cL_cutCost 3 = .ok (.invokevirtual 63, 3) := by decide +kernel
theorem dL_cutCost_6 : decode cL_cutCost 6 = .ok (.i2l, 1) := by decide +kernel
theorem dL_cutCost_7 : decode cL_cutCost 7 = .ok (.lastore, 1) := by decide +kernel
theorem dL_cutCost_8 : decode cL_cutCost 8 = .ok (.goto 6, 3) := by decide +kernel
theorem dL_cutCost_11 : decode cL_cutCost 11 = .ok (.astore_n 2, 1) := by decide +kernel
theorem dL_cutCost_12 : decode cL_cutCost 12 = .ok (.iconst 1, 1) := by decide +kernel
theorem dL_cutCost_13 : decode cL_cutCost 13 = .ok (.ireturn, 1) := by decide +kernel
theorem dL_cutCost_14 : decode cL_cutCost 14 = .ok (.iconst 0, 1) := by decide +kernel
theorem dL_cutCost_15 : decode cL_cutCost 15 = .ok (.ireturn, 1) := by decide +kernel
set_option maxRecDepth 20000 in
theorem ggL_cutCostByTrying_X4_cutCostByTrying : GoodIn wsL_cutCostByTrying wsX4_cutCostByTrying := goodIn_ca (goodIn_r _ [6, 7, 8, 9, 10, 11, 12, 13, 14, 5, 15, 16, 17, 18, 19, 20, 21, 22, 23, 24, 25, 26, 27, 28, 29, 30, 31, 32, 33, 34, 35, 36, 37, 38, 39, 40, 41, 42, 43, 44, 45, 46, 47, 48, 49, 50, 51, 52, 53, 54, 55, 56, 57, 58, 59, 60, 61, 62, 63, 64, 65, 66, 67, 68, 69, 70, 71, 72, 73, 74, 75, 76, 77, 78, 79, 80, 81, 82, 83, 84, 85, 86, 87, 88] (by decide +kernel) (by decide +kernel)) (goodIn_sub (fun _ h => List.mem_cons_of_mem _ (List.mem_append_right _ h)) (by decide +kernel))
set_option maxRecDepth 20000 in
theorem gL_cutCostByTrying_X4_cutCostByTrying : GoodIn wsL_cutCostByTrying (wsV RL 66 RX4 yX4_cutCostByTrying wsX4_cutCostByTrying) := goodIn_app (goodIn_of _ (by decide +kernel)) ggL_cutCostByTrying_X4_cutCostByTrying
theorem dL_cutCostByTrying_0 : decode cL_cutCostByTrying 0 = .ok (.aload_n 1, 1) := by decide +kernel
theorem dL_cutCostByTrying_1 : decode cL_cutCostByTrying 1 = .ok (.iconst 0, 1) := by decide +kernel
theorem dL_cutCostByTrying_2 : decode cL_cutCostByTrying 2 = .ok (.aload_n 0, 1) := by decide +kernel
theorem dL_cutCostByTrying_3 : decode cL_cutCostByTrying 3 = .ok (.invokevirtual 66, 3) := by decide +kernel
theorem dL_cutCostByTrying_6 : decode cL_cutCostByTrying 6 = .ok (.i2l, 1) := by decide +kernel
theorem dL_cutCostByTrying_7 : decode cL_cutCostByTrying 7 = .ok (.lastore, 1) := by decide +kernel
theorem dL_cutCostByTrying_8 : decode cL_cutCostByTrying 8 = .ok (.goto 6, 3) := by decide +kernel
theorem dL_cutCostByTrying_11 : decode cL_cutCostByTrying 11 = .ok (.astore_n 2, 1) := by decide +kernel
theorem dL_cutCostByTrying_12 : decode cL_cutCostByTrying 12 = .ok (.iconst 1, 1) := by decide +kernel
theorem dL_cutCostByTrying_13 : decode cL_cutCostByTrying 13 = .ok (.ireturn, 1) := by decide +kernel
theorem dL_cutCostByTrying_14 : decode cL_cutCostByTrying 14 = .ok (.iconst 0, 1) := by decide +kernel
theorem dL_cutCostByTrying_15 : decode cL_cutCostByTrying 15 = .ok (.ireturn, 1) := by decide +kernel
set_option maxRecDepth 20000 in
theorem ggL_cutTongue_X4_cutTongue : GoodIn wsL_cutTongue wsX4_cutTongue := goodIn_ca (goodIn_ca (goodIn_r _ [7, 8, 9, 10, 11, 12, 6, 13, 14, 15, 16, 17, 18, 19, 20, 21, 22, 23, 24, 25, 26, 27, 28, 29, 30, 31, 32, 33, 34, 35, 36, 37, 38, 39, 40, 41, 42, 43, 44, 45, 46, 47, 48, 49, 50, 51, 52, 53, 54, 55, 56, 57, 58, 59, 60, 61, 62, 63, 64, 65, 66, 67, 68, 69, 70, 71, 72, 73, 74, 75, 76, 77, 78, 79, 80, 81, 82, 83, 84, 85, 86, 87, 88, 89, 90, 91, 92, 93, 94, 95, 96, 97, 98, 99, 100, 101, 102, 103, 104, 105] (by decide +kernel) (by decide +kernel)) (goodIn_sub (fun _ h => List.mem_cons_of_mem _ (List.mem_append_left _ (List.mem_append_right _ h))) (by decide +kernel))) (goodIn_sub (fun _ h => List.mem_cons_of_mem _ (List.mem_append_right _ h)) (by decide +kernel))
set_option maxRecDepth 20000 in
theorem gL_cutTongue_X4_cutTongue : GoodIn wsL_cutTongue (wsV RL 69 RX4 yX4_cutTongue wsX4_cutTongue) := goodIn_app (goodIn_of _ (by decide +kernel)) ggL_cutTongue_X4_cutTongue
theorem dL_cutTongue_0 : decode cL_cutTongue 0 = .ok (.aload_n 2, 1) := by decide +kernel
theorem dL_cutTongue_1 : decode cL_cutTongue 1 = .ok (.iconst 0, 1) := by decide +kernel
theorem dL_cutTongue_2 : decode cL_cutTongue 2 = .ok (.aload_n 0, 1) := by decide +kernel
theorem dL_cutTongue_3 : decode cL_cutTongue 3 = .ok (.iload_n 1, 1) := by decide +kernel
theorem dL_cutTongue_4 : decode cL_cutTongue 4 = .ok (.invokevirtual 69, 3) := by decide +kernel
theorem dL_cutTongue_7 : decode cL_cutTongue 7 = .ok (.i2l, 1) := by decide +kernel
theorem dL_cutTongue_8 : decode cL_cutTongue 8 = .ok (.lastore, 1) := by decide +kernel
theorem dL_cutTongue_9 : decode cL_cutTongue 9 = .ok (.goto 9, 3) := by decide +kernel
theorem dL_cutTongue_12 : decode cL_cutTongue 12 = .ok (.astore_n 3, 1) := by decide +kernel
theorem dL_cutTongue_13 : decode cL_cutTongue 13 = .ok (.iconst 1, 1) := by decide +kernel
theorem dL_cutTongue_14 : decode cL_cutTongue 14 = .ok (.ireturn, 1) := by decide +kernel
theorem dL_cutTongue_15 : decode cL_cutTongue 15 = .ok (.astore_n 3, 1) := by decide +kernel
theorem dL_cutTongue_16 : decode cL_cutTongue 16 = .ok (.iconst 2, 1) := by decide +kernel
theorem dL_cutTongue_17 : decode cL_cutTongue 17 = .ok (.ireturn, 1) := by decide +kernel
theorem dL_cutTongue_18 : decode cL_cutTongue 18 = .ok (.iconst 0, 1) := by decide +kernel
theorem dL_cutTongue_19 : decode cL_cutTongue 19 = .ok (.ireturn, 1) := by decide +kernel
set_option maxRecDepth 20000 in
theorem ggL_stretches_X4_stretches : GoodIn wsL_stretches wsX4_stretches := goodIn_ca (goodIn_r _ [6, 7, 8, 9, 10, 5, 11, 12, 13, 14, 15, 16, 17, 18, 19, 20, 21, 22, 23, 24, 25, 26, 27, 28, 29, 30, 31, 32, 33, 34, 35, 36, 37, 38, 39, 40, 41, 42, 43, 44, 45, 46, 47, 48, 49, 50, 51, 52, 53, 54, 55, 56, 57, 58, 59, 60, 61, 62, 63, 64, 65, 66, 67, 68, 69, 70, 71, 72, 73, 74, 75, 76, 77, 78, 79, 80, 81, 82, 83, 84, 85, 86, 87, 88, 89, 90, 91, 92, 93, 94, 95, 96, 97, 98, 99, 100, 101] (by decide +kernel) (by decide +kernel)) (goodIn_sub (fun _ h => List.mem_cons_of_mem _ (List.mem_append_right _ h)) (by decide +kernel))
set_option maxRecDepth 20000 in
theorem gL_stretches_X4_stretches : GoodIn wsL_stretches (wsV RL 72 RX4 yX4_stretches wsX4_stretches) := goodIn_app (goodIn_of _ (by decide +kernel)) ggL_stretches_X4_stretches
theorem dL_stretches_0 : decode cL_stretches 0 = .ok (.aload_n 1, 1) := by decide +kernel
theorem dL_stretches_1 : decode cL_stretches 1 = .ok (.iconst 0, 1) := by decide +kernel
theorem dL_stretches_2 : decode cL_stretches 2 = .ok (.aload_n 0, 1) := by decide +kernel
theorem dL_stretches_3 : decode cL_stretches 3 = .ok (.invokevirtual 72, 3) := by decide +kernel
theorem dL_stretches_6 : decode cL_stretches 6 = .ok (.i2l, 1) := by decide +kernel
theorem dL_stretches_7 : decode cL_stretches 7 = .ok (.lastore, 1) := by decide +kernel
theorem dL_stretches_8 : decode cL_stretches 8 = .ok (.goto 6, 3) := by decide +kernel
theorem dL_stretches_11 : decode cL_stretches 11 = .ok (.astore_n 2, 1) := by decide +kernel
theorem dL_stretches_12 : decode cL_stretches 12 = .ok (.iconst 1, 1) := by decide +kernel
theorem dL_stretches_13 : decode cL_stretches 13 = .ok (.ireturn, 1) := by decide +kernel
theorem dL_stretches_14 : decode cL_stretches 14 = .ok (.iconst 0, 1) := by decide +kernel
theorem dL_stretches_15 : decode cL_stretches 15 = .ok (.ireturn, 1) := by decide +kernel
set_option maxRecDepth 20000 in
theorem ggL_learn_X4_learn : GoodIn wsL_learn wsX4_learn := goodIn_ca (goodIn_ca (goodIn_r _ [7, 8, 9, 10, 11, 12, 13, 14, 15, 16, 17, 18, 19, 20, 21, 22, 23, 24, 25, 26, 27, 28, 29, 30, 31, 32, 33, 34, 35, 36, 37, 38, 39, 40, 41, 42, 6, 43, 44, 45, 46, 47, 48, 49, 50, 51, 52, 53, 54, 55, 56, 57, 58, 59, 60, 61, 62, 63, 64, 65, 66, 67, 68, 69, 70, 71, 72, 73, 74, 75, 76, 77, 78, 79, 80, 81, 82, 83, 84, 85, 86, 87, 88, 89] (by decide +kernel) (by decide +kernel)) (goodIn_sub (fun _ h => List.mem_cons_of_mem _ (List.mem_append_left _ (List.mem_append_right _ h))) (by decide +kernel))) (goodIn_sub (fun _ h => List.mem_cons_of_mem _ (List.mem_append_right _ h)) (by decide +kernel))
set_option maxRecDepth 20000 in
theorem gL_learn_X4_learn : GoodIn wsL_learn (wsV RL 75 RX4 yX4_learn wsX4_learn) := goodIn_app (goodIn_of _ (by decide +kernel)) ggL_learn_X4_learn
theorem dL_learn_0 : decode cL_learn 0 = .ok (.aload_n 2, 1) := by decide +kernel
theorem dL_learn_1 : decode cL_learn 1 = .ok (.iconst 0, 1) := by decide +kernel
theorem dL_learn_2 : decode cL_learn 2 = .ok (.aload_n 0, 1) := by decide +kernel
theorem dL_learn_3 : decode cL_learn 3 = .ok (.iload_n 1, 1) := by decide +kernel
theorem dL_learn_4 : decode cL_learn 4 = .ok (.invokevirtual 75, 3) := by decide +kernel
theorem dL_learn_7 : decode cL_learn 7 = .ok (.i2l, 1) := by decide +kernel
theorem dL_learn_8 : decode cL_learn 8 = .ok (.lastore, 1) := by decide +kernel
theorem dL_learn_9 : decode cL_learn 9 = .ok (.goto 9, 3) := by decide +kernel
theorem dL_learn_12 : decode cL_learn 12 = .ok (.astore_n 3, 1) := by decide +kernel
theorem dL_learn_13 : decode cL_learn 13 = .ok (.iconst 1, 1) := by decide +kernel
theorem dL_learn_14 : decode cL_learn 14 = .ok (.ireturn, 1) := by decide +kernel
theorem dL_learn_15 : decode cL_learn 15 = .ok (.astore_n 3, 1) := by decide +kernel
theorem dL_learn_16 : decode cL_learn 16 = .ok (.iconst 2, 1) := by decide +kernel
theorem dL_learn_17 : decode cL_learn 17 = .ok (.ireturn, 1) := by decide +kernel
theorem dL_learn_18 : decode cL_learn 18 = .ok (.iconst 0, 1) := by decide +kernel
theorem dL_learn_19 : decode cL_learn 19 = .ok (.ireturn, 1) := by decide +kernel
