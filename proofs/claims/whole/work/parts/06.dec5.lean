/-! ===== printed: decode rows, the reference ===== -/
theorem dX5_init_0 : decode cX5_init 0 = .ok (.aload_n 0, 1) := by decide +kernel
theorem dX5_init_1 : decode cX5_init 1 = .ok (.invokespecial 1, 3) := by decide +kernel
theorem dX5_init_4 : decode cX5_init 4 = .ok (.aload_n 0, 1) := by decide +kernel
theorem dX5_init_5 : decode cX5_init 5 = .ok (.bipush 16, 2) := by decide +kernel
theorem dX5_init_7 : decode cX5_init 7 = .ok (.newarray .int, 2) := by decide +kernel
theorem dX5_init_9 : decode cX5_init 9 = .ok (.putfield 7, 3) := by decide +kernel
theorem dX5_init_12 : decode cX5_init 12 = .ok (.aload_n 0, 1) := by decide +kernel
theorem dX5_init_13 : decode cX5_init 13 = .ok (.iconst 3, 1) := by decide +kernel
theorem dX5_init_14 : decode cX5_init 14 = .ok (.putfield 13, 3) := by decide +kernel
theorem dX5_init_17 : decode cX5_init 17 = .ok (.aload_n 0, 1) := by decide +kernel
theorem dX5_init_18 : decode cX5_init 18 = .ok (.iconst 4, 1) := by decide +kernel
theorem dX5_init_19 : decode cX5_init 19 = .ok (.putfield 17, 3) := by decide +kernel
theorem dX5_init_22 : decode cX5_init 22 = .ok (.aload_n 0, 1) := by decide +kernel
theorem dX5_init_23 : decode cX5_init 23 = .ok (.bipush 30, 2) := by decide +kernel
theorem dX5_init_25 : decode cX5_init 25 = .ok (.newarray .int, 2) := by decide +kernel
theorem dX5_init_27 : decode cX5_init 27 = .ok (.putfield 20, 3) := by decide +kernel
theorem dX5_init_30 : decode cX5_init 30 = .ok (.aload_n 0, 1) := by decide +kernel
theorem dX5_init_31 : decode cX5_init 31 = .ok (.bipush 30, 2) := by decide +kernel
theorem dX5_init_33 : decode cX5_init 33 = .ok (.newarray .int, 2) := by decide +kernel
theorem dX5_init_35 : decode cX5_init 35 = .ok (.putfield 23, 3) := by decide +kernel
theorem dX5_init_38 : decode cX5_init 38 = .ok (.aload_n 0, 1) := by decide +kernel
theorem dX5_init_39 : decode cX5_init 39 = .ok (.bipush 30, 2) := by decide +kernel
theorem dX5_init_41 : decode cX5_init 41 = .ok (.newarray .int, 2) := by decide +kernel
theorem dX5_init_43 : decode cX5_init 43 = .ok (.putfield 26, 3) := by decide +kernel
theorem dX5_init_46 : decode cX5_init 46 = .ok (.aload_n 0, 1) := by decide +kernel
theorem dX5_init_47 : decode cX5_init 47 = .ok (.sipush 510, 3) := by decide +kernel
theorem dX5_init_50 : decode cX5_init 50 = .ok (.newarray .int, 2) := by decide +kernel
theorem dX5_init_52 : decode cX5_init 52 = .ok (.putfield 29, 3) := by decide +kernel
theorem dX5_init_55 : decode cX5_init 55 = .ok (.aload_n 0, 1) := by decide +kernel
theorem dX5_init_56 : decode cX5_init 56 = .ok (.bipush 85, 2) := by decide +kernel
theorem dX5_init_58 : decode cX5_init 58 = .ok (.newarray .int, 2) := by decide +kernel
theorem dX5_init_60 : decode cX5_init 60 = .ok (.putfield 32, 3) := by decide +kernel
theorem dX5_init_63 : decode cX5_init 63 = .ok (.aload_n 0, 1) := by decide +kernel
theorem dX5_init_64 : decode cX5_init 64 = .ok (.iconst 0, 1) := by decide +kernel
theorem dX5_init_65 : decode cX5_init 65 = .ok (.putfield 35, 3) := by decide +kernel
theorem dX5_init_68 : decode cX5_init 68 = .ok (.return_, 1) := by decide +kernel
theorem dX5_thrown_0 : decode cX5_thrown 0 = .ok (.aload_n 0, 1) := by decide +kernel
theorem dX5_thrown_1 : decode cX5_thrown 1 = .ok (.getfield 35, 3) := by decide +kernel
theorem dX5_thrown_4 : decode cX5_thrown 4 = .ok (.ireturn, 1) := by decide +kernel
theorem dX5_fails_0 : decode cX5_fails 0 = .ok (.aload_n 0, 1) := by decide +kernel
theorem dX5_fails_1 : decode cX5_fails 1 = .ok (.iload_n 1, 1) := by decide +kernel
theorem dX5_fails_2 : decode cX5_fails 2 = .ok (.putfield 35, 3) := by decide +kernel
theorem dX5_fails_5 : decode cX5_fails 5 = .ok (.iconst 0, 1) := by decide +kernel
theorem dX5_fails_6 : decode cX5_fails 6 = .ok (.ireturn, 1) := by decide +kernel
theorem dX5_in_0 : decode cX5_in 0 = .ok (.iload_n 0, 1) := by decide +kernel
theorem dX5_in_1 : decode cX5_in 1 = .ok (.iload_n 1, 1) := by decide +kernel
theorem dX5_in_2 : decode cX5_in 2 = .ok (.if_icmp .lt 12, 3) := by decide +kernel
theorem dX5_in_5 : decode cX5_in 5 = .ok (.iload_n 0, 1) := by decide +kernel
theorem dX5_in_6 : decode cX5_in 6 = .ok (.iload_n 2, 1) := by decide +kernel
theorem dX5_in_7 : decode cX5_in 7 = .ok (.if_icmp .gt 7, 3) := by decide +kernel
theorem dX5_in_10 : decode cX5_in 10 = .ok (.iconst 1, 1) := by decide +kernel
theorem dX5_in_11 : decode cX5_in 11 = .ok (.goto 4, 3) := by decide +kernel
theorem dX5_in_14 : decode cX5_in 14 = .ok (.iconst 0, 1) := by decide +kernel
theorem dX5_in_15 : decode cX5_in 15 = .ok (.ireturn, 1) := by decide +kernel
set_option maxRecDepth 20000 in
theorem ggX5_isTongue_X5_in : GoodIn wsX5_isTongue wsX5_in := goodIn_r _ [5] (by decide +kernel) (by decide +kernel)
set_option maxRecDepth 20000 in
theorem gX5_isTongue_X5_in : GoodIn wsX5_isTongue (va_wsS RX5 41 yX5_in wsX5_in) := goodIn_app (goodIn_of _ (by decide +kernel)) ggX5_isTongue_X5_in
theorem dX5_isTongue_0 : decode cX5_isTongue 0 = .ok (.iload_n 1, 1) := by decide +kernel
theorem dX5_isTongue_1 : decode cX5_isTongue 1 = .ok (.iconst 0, 1) := by decide +kernel
theorem dX5_isTongue_2 : decode cX5_isTongue 2 = .ok (.aload_n 0, 1) := by decide +kernel
theorem dX5_isTongue_3 : decode cX5_isTongue 3 = .ok (.getfield 38, 3) := by decide +kernel
theorem dX5_isTongue_6 : decode cX5_isTongue 6 = .ok (.iconst 1, 1) := by decide +kernel
theorem dX5_isTongue_7 : decode cX5_isTongue 7 = .ok (.isub, 1) := by decide +kernel
theorem dX5_isTongue_8 : decode cX5_isTongue 8 = .ok (.invokestatic 41, 3) := by decide +kernel
theorem dX5_isTongue_11 : decode cX5_isTongue 11 = .ok (.ireturn, 1) := by decide +kernel
theorem dX5_spell_0 : decode cX5_spell 0 = .ok (.iload_n 1, 1) := by decide +kernel
theorem dX5_spell_1 : decode cX5_spell 1 = .ok (.bipush 32, 2) := by decide +kernel
theorem dX5_spell_3 : decode cX5_spell 3 = .ok (.if_icmp .eq 15, 3) := by decide +kernel
theorem dX5_spell_6 : decode cX5_spell 6 = .ok (.iload_n 1, 1) := by decide +kernel
theorem dX5_spell_7 : decode cX5_spell 7 = .ok (.bipush 97, 2) := by decide +kernel
theorem dX5_spell_9 : decode cX5_spell 9 = .ok (.if_icmp .lt 13, 3) := by decide +kernel
theorem dX5_spell_12 : decode cX5_spell 12 = .ok (.iload_n 1, 1) := by decide +kernel
theorem dX5_spell_13 : decode cX5_spell 13 = .ok (.bipush 101, 2) := by decide +kernel
theorem dX5_spell_15 : decode cX5_spell 15 = .ok (.if_icmp .gt 7, 3) := by decide +kernel
theorem dX5_spell_18 : decode cX5_spell 18 = .ok (.iconst 1, 1) := by decide +kernel
theorem dX5_spell_19 : decode cX5_spell 19 = .ok (.goto 4, 3) := by decide +kernel
theorem dX5_spell_22 : decode cX5_spell 22 = .ok (.iconst 0, 1) := by decide +kernel
theorem dX5_spell_23 : decode cX5_spell 23 = .ok (.istore_n 2, 1) := by decide +kernel
theorem dX5_spell_24 : decode cX5_spell 24 = .ok (.aload_n 0, 1) := by decide +kernel
theorem dX5_spell_25 : decode cX5_spell 25 = .ok (.iload_n 2, 1) := by decide +kernel
theorem dX5_spell_26 : decode cX5_spell 26 = .ok (.ifCond .ne 7, 3) := by decide +kernel
theorem dX5_spell_29 : decode cX5_spell 29 = .ok (.iconst 1, 1) := by decide +kernel
theorem dX5_spell_30 : decode cX5_spell 30 = .ok (.goto 17, 3) := by decide +kernel
theorem dX5_spell_33 : decode cX5_spell 33 = .ok (.aload_n 0, 1) := by decide +kernel
theorem dX5_spell_34 : decode cX5_spell 34 = .ok (.getfield 45, 3) := by decide +kernel
theorem dX5_spell_37 : decode cX5_spell 37 = .ok (.bipush 16, 2) := by decide +kernel
theorem dX5_spell_39 : decode cX5_spell 39 = .ok (.if_icmp .ne 7, 3) := by decide +kernel
theorem dX5_spell_42 : decode cX5_spell 42 = .ok (.iconst 2, 1) := by decide +kernel
theorem dX5_spell_43 : decode cX5_spell 43 = .ok (.goto 4, 3) := by decide +kernel
theorem dX5_spell_46 : decode cX5_spell 46 = .ok (.iconst 0, 1) := by decide +kernel
theorem dX5_spell_47 : decode cX5_spell 47 = .ok (.putfield 35, 3) := by decide +kernel
theorem dX5_spell_50 : decode cX5_spell 50 = .ok (.aload_n 0, 1) := by decide +kernel
theorem dX5_spell_51 : decode cX5_spell 51 = .ok (.getfield 35, 3) := by decide +kernel
theorem dX5_spell_54 : decode cX5_spell 54 = .ok (.ifCond .le 5, 3) := by decide +kernel
theorem dX5_spell_57 : decode cX5_spell 57 = .ok (.iconst 0, 1) := by decide +kernel
theorem dX5_spell_58 : decode cX5_spell 58 = .ok (.ireturn, 1) := by decide +kernel
theorem dX5_spell_59 : decode cX5_spell 59 = .ok (.aload_n 0, 1) := by decide +kernel
theorem dX5_spell_60 : decode cX5_spell 60 = .ok (.getfield 7, 3) := by decide +kernel
theorem dX5_spell_63 : decode cX5_spell 63 = .ok (.aload_n 0, 1) := by decide +kernel
theorem dX5_spell_64 : decode cX5_spell 64 = .ok (.getfield 45, 3) := by decide +kernel
theorem dX5_spell_67 : decode cX5_spell 67 = .ok (.iload_n 1, 1) := by decide +kernel
theorem dX5_spell_68 : decode cX5_spell 68 = .ok (.bipush 32, 2) := by decide +kernel
theorem dX5_spell_70 : decode cX5_spell 70 = .ok (.if_icmp .ne 7, 3) := by decide +kernel
theorem dX5_spell_73 : decode cX5_spell 73 = .ok (.iconst 0, 1) := by decide +kernel
theorem dX5_spell_74 : decode cX5_spell 74 = .ok (.goto 9, 3) := by decide +kernel
theorem dX5_spell_77 : decode cX5_spell 77 = .ok (.iload_n 1, 1) := by decide +kernel
theorem dX5_spell_78 : decode cX5_spell 78 = .ok (.bipush 97, 2) := by decide +kernel
theorem dX5_spell_80 : decode cX5_spell 80 = .ok (.isub, 1) := by decide +kernel
theorem dX5_spell_81 : decode cX5_spell 81 = .ok (.iconst 1, 1) := by decide +kernel
theorem dX5_spell_82 : decode cX5_spell 82 = .ok (.iadd, 1) := by decide +kernel
theorem dX5_spell_83 : decode cX5_spell 83 = .ok (.iastore, 1) := by decide +kernel
theorem dX5_spell_84 : decode cX5_spell 84 = .ok (.aload_n 0, 1) := by decide +kernel
theorem dX5_spell_85 : decode cX5_spell 85 = .ok (.dup, 1) := by decide +kernel
theorem dX5_spell_86 : decode cX5_spell 86 = .ok (.getfield 45, 3) := by decide +kernel
theorem dX5_spell_89 : decode cX5_spell 89 = .ok (.iconst 1, 1) := by decide +kernel
theorem dX5_spell_90 : decode cX5_spell 90 = .ok (.iadd, 1) := by decide +kernel
theorem dX5_spell_91 : decode cX5_spell 91 = .ok (.putfield 45, 3) := by decide +kernel
theorem dX5_spell_94 : decode cX5_spell 94 = .ok (.aload_n 0, 1) := by decide +kernel
theorem dX5_spell_95 : decode cX5_spell 95 = .ok (.getfield 45, 3) := by decide +kernel
theorem dX5_spell_98 : decode cX5_spell 98 = .ok (.ireturn, 1) := by decide +kernel
theorem dX5_clearSpelled_0 : decode cX5_clearSpelled 0 = .ok (.aload_n 0, 1) := by decide +kernel
theorem dX5_clearSpelled_1 : decode cX5_clearSpelled 1 = .ok (.iconst 0, 1) := by decide +kernel
theorem dX5_clearSpelled_2 : decode cX5_clearSpelled 2 = .ok (.putfield 35, 3) := by decide +kernel
theorem dX5_clearSpelled_5 : decode cX5_clearSpelled 5 = .ok (.aload_n 0, 1) := by decide +kernel
theorem dX5_clearSpelled_6 : decode cX5_clearSpelled 6 = .ok (.getfield 45, 3) := by decide +kernel
theorem dX5_clearSpelled_9 : decode cX5_clearSpelled 9 = .ok (.istore_n 1, 1) := by decide +kernel
theorem dX5_clearSpelled_10 : decode cX5_clearSpelled 10 = .ok (.aload_n 0, 1) := by decide +kernel
theorem dX5_clearSpelled_11 : decode cX5_clearSpelled 11 = .ok (.iconst 0, 1) := by decide +kernel
theorem dX5_clearSpelled_12 : decode cX5_clearSpelled 12 = .ok (.putfield 45, 3) := by decide +kernel
theorem dX5_clearSpelled_15 : decode cX5_clearSpelled 15 = .ok (.iload_n 1, 1) := by decide +kernel
theorem dX5_clearSpelled_16 : decode cX5_clearSpelled 16 = .ok (.ireturn, 1) := by decide +kernel
theorem dX5_runMany_0 : decode cX5_runMany 0 = .ok (.aload_n 0, 1) := by decide +kernel
theorem dX5_runMany_1 : decode cX5_runMany 1 = .ok (.getfield 45, 3) := by decide +kernel
theorem dX5_runMany_4 : decode cX5_runMany 4 = .ok (.ifCond .ne 7, 3) := by decide +kernel
theorem dX5_runMany_7 : decode cX5_runMany 7 = .ok (.iconst 0, 1) := by decide +kernel
theorem dX5_runMany_8 : decode cX5_runMany 8 = .ok (.goto 9, 3) := by decide +kernel
theorem dX5_runMany_11 : decode cX5_runMany 11 = .ok (.aload_n 0, 1) := by decide +kernel
theorem dX5_runMany_12 : decode cX5_runMany 12 = .ok (.getfield 45, 3) := by decide +kernel
theorem dX5_runMany_15 : decode cX5_runMany 15 = .ok (.iconst 1, 1) := by decide +kernel
theorem dX5_runMany_16 : decode cX5_runMany 16 = .ok (.iadd, 1) := by decide +kernel
theorem dX5_runMany_17 : decode cX5_runMany 17 = .ok (.ireturn, 1) := by decide +kernel
theorem dX5_run_0 : decode cX5_run 0 = .ok (.iload_n 1, 1) := by decide +kernel
theorem dX5_run_1 : decode cX5_run 1 = .ok (.ifCond .ne 7, 3) := by decide +kernel
theorem dX5_run_4 : decode cX5_run 4 = .ok (.iconst 0, 1) := by decide +kernel
theorem dX5_run_5 : decode cX5_run 5 = .ok (.goto 11, 3) := by decide +kernel
theorem dX5_run_8 : decode cX5_run 8 = .ok (.aload_n 0, 1) := by decide +kernel
theorem dX5_run_9 : decode cX5_run 9 = .ok (.getfield 7, 3) := by decide +kernel
theorem dX5_run_12 : decode cX5_run 12 = .ok (.iload_n 1, 1) := by decide +kernel
theorem dX5_run_13 : decode cX5_run 13 = .ok (.iconst 1, 1) := by decide +kernel
theorem dX5_run_14 : decode cX5_run 14 = .ok (.isub, 1) := by decide +kernel
theorem dX5_run_15 : decode cX5_run 15 = .ok (.iaload, 1) := by decide +kernel
theorem dX5_run_16 : decode cX5_run 16 = .ok (.istore_n 2, 1) := by decide +kernel
theorem dX5_run_17 : decode cX5_run 17 = .ok (.iload_n 1, 1) := by decide +kernel
theorem dX5_run_18 : decode cX5_run 18 = .ok (.aload_n 0, 1) := by decide +kernel
theorem dX5_run_19 : decode cX5_run 19 = .ok (.getfield 45, 3) := by decide +kernel
theorem dX5_run_22 : decode cX5_run 22 = .ok (.if_icmp .ne 7, 3) := by decide +kernel
theorem dX5_run_25 : decode cX5_run 25 = .ok (.iconst 0, 1) := by decide +kernel
theorem dX5_run_26 : decode cX5_run 26 = .ok (.goto 9, 3) := by decide +kernel
theorem dX5_run_29 : decode cX5_run 29 = .ok (.aload_n 0, 1) := by decide +kernel
theorem dX5_run_30 : decode cX5_run 30 = .ok (.getfield 7, 3) := by decide +kernel
theorem dX5_run_33 : decode cX5_run 33 = .ok (.iload_n 1, 1) := by decide +kernel
theorem dX5_run_34 : decode cX5_run 34 = .ok (.iaload, 1) := by decide +kernel
theorem dX5_run_35 : decode cX5_run 35 = .ok (.istore_n 3, 1) := by decide +kernel
theorem dX5_run_36 : decode cX5_run 36 = .ok (.bipush 6, 2) := by decide +kernel
theorem dX5_run_38 : decode cX5_run 38 = .ok (.iload_n 2, 1) := by decide +kernel
theorem dX5_run_39 : decode cX5_run 39 = .ok (.imul, 1) := by decide +kernel
theorem dX5_run_40 : decode cX5_run 40 = .ok (.iload_n 3, 1) := by decide +kernel
theorem dX5_run_41 : decode cX5_run 41 = .ok (.iadd, 1) := by decide +kernel
theorem dX5_run_42 : decode cX5_run 42 = .ok (.ireturn, 1) := by decide +kernel
set_option maxRecDepth 20000 in
theorem ggX5_runs_X5_runMany : GoodIn wsX5_runs wsX5_runMany := goodIn_r _ [6, 7, 8, 9, 10, 11, 12, 13, 14, 15, 16, 17, 18, 19, 20] (by decide +kernel) (by decide +kernel)
set_option maxRecDepth 20000 in
theorem gX5_runs_X5_runMany : GoodIn wsX5_runs (wsV RX5 48 RX5 yX5_runMany wsX5_runMany) := goodIn_app (goodIn_of _ (by decide +kernel)) ggX5_runs_X5_runMany
theorem dX5_runs_0 : decode cX5_runs 0 = .ok (.aload_n 0, 1) := by decide +kernel
theorem dX5_runs_1 : decode cX5_runs 1 = .ok (.iconst 0, 1) := by decide +kernel
theorem dX5_runs_2 : decode cX5_runs 2 = .ok (.putfield 35, 3) := by decide +kernel
theorem dX5_runs_5 : decode cX5_runs 5 = .ok (.aload_n 0, 1) := by decide +kernel
theorem dX5_runs_6 : decode cX5_runs 6 = .ok (.invokevirtual 48, 3) := by decide +kernel
theorem dX5_runs_9 : decode cX5_runs 9 = .ok (.ireturn, 1) := by decide +kernel
set_option maxRecDepth 20000 in
theorem ggX5_runAt_X5_runMany : GoodIn wsX5_runAt wsX5_runMany := goodIn_r _ [6, 7, 20, 21, 22, 23, 24, 25, 26, 27, 28, 29, 30, 31, 32] (by decide +kernel) (by decide +kernel)
set_option maxRecDepth 20000 in
theorem gX5_runAt_X5_runMany : GoodIn wsX5_runAt (wsV RX5 48 RX5 yX5_runMany wsX5_runMany) := goodIn_app (goodIn_of _ (by decide +kernel)) ggX5_runAt_X5_runMany
set_option maxRecDepth 20000 in
theorem ggX5_runAt_X5_in : GoodIn wsX5_runAt wsX5_in := goodIn_r _ [10] (by decide +kernel) (by decide +kernel)
set_option maxRecDepth 20000 in
theorem gX5_runAt_X5_in : GoodIn wsX5_runAt (va_wsS RX5 41 yX5_in wsX5_in) := goodIn_app (goodIn_of _ (by decide +kernel)) ggX5_runAt_X5_in
set_option maxRecDepth 20000 in
theorem ggX5_runAt_X5_run : GoodIn wsX5_runAt wsX5_run := goodIn_r _ [14, 15, 7, 20, 21, 22, 23, 24, 25, 26, 27, 28, 29, 30, 31, 32] (by decide +kernel) (by decide +kernel)
set_option maxRecDepth 20000 in
theorem gX5_runAt_X5_run : GoodIn wsX5_runAt (wsV RX5 52 RX5 yX5_run wsX5_run) := goodIn_app (goodIn_of _ (by decide +kernel)) ggX5_runAt_X5_run
set_option maxRecDepth 20000 in
theorem ggX5_runAt_X5_fails : GoodIn wsX5_runAt wsX5_fails := goodIn_r _ [19, 1, 20, 21, 22, 23, 24, 25, 26, 27, 28, 29, 30, 31, 32] (by decide +kernel) (by decide +kernel)
set_option maxRecDepth 20000 in
theorem gX5_runAt_X5_fails : GoodIn wsX5_runAt (wsV RX5 56 RX5 yX5_fails wsX5_fails) := goodIn_app (goodIn_of _ (by decide +kernel)) ggX5_runAt_X5_fails
theorem dX5_runAt_0 : decode cX5_runAt 0 = .ok (.aload_n 0, 1) := by decide +kernel
theorem dX5_runAt_1 : decode cX5_runAt 1 = .ok (.iconst 0, 1) := by decide +kernel
theorem dX5_runAt_2 : decode cX5_runAt 2 = .ok (.putfield 35, 3) := by decide +kernel
theorem dX5_runAt_5 : decode cX5_runAt 5 = .ok (.iload_n 1, 1) := by decide +kernel
theorem dX5_runAt_6 : decode cX5_runAt 6 = .ok (.iconst 0, 1) := by decide +kernel
theorem dX5_runAt_7 : decode cX5_runAt 7 = .ok (.aload_n 0, 1) := by decide +kernel
theorem dX5_runAt_8 : decode cX5_runAt 8 = .ok (.invokevirtual 48, 3) := by decide +kernel
theorem dX5_runAt_11 : decode cX5_runAt 11 = .ok (.iconst 1, 1) := by decide +kernel
theorem dX5_runAt_12 : decode cX5_runAt 12 = .ok (.isub, 1) := by decide +kernel
theorem dX5_runAt_13 : decode cX5_runAt 13 = .ok (.invokestatic 41, 3) := by decide +kernel
theorem dX5_runAt_16 : decode cX5_runAt 16 = .ok (.ifCond .eq 11, 3) := by decide +kernel
theorem dX5_runAt_19 : decode cX5_runAt 19 = .ok (.aload_n 0, 1) := by decide +kernel
theorem dX5_runAt_20 : decode cX5_runAt 20 = .ok (.iload_n 1, 1) := by decide +kernel
theorem dX5_runAt_21 : decode cX5_runAt 21 = .ok (.invokevirtual 52, 3) := by decide +kernel
theorem dX5_runAt_24 : decode cX5_runAt 24 = .ok (.goto 8, 3) := by decide +kernel
theorem dX5_runAt_27 : decode cX5_runAt 27 = .ok (.aload_n 0, 1) := by decide +kernel
theorem dX5_runAt_28 : decode cX5_runAt 28 = .ok (.iconst 1, 1) := by decide +kernel
theorem dX5_runAt_29 : decode cX5_runAt 29 = .ok (.invokevirtual 56, 3) := by decide +kernel
theorem dX5_runAt_32 : decode cX5_runAt 32 = .ok (.ireturn, 1) := by decide +kernel
theorem dX5_addTongue_0 : decode cX5_addTongue 0 = .ok (.aload_n 0, 1) := by decide +kernel
theorem dX5_addTongue_1 : decode cX5_addTongue 1 = .ok (.aload_n 0, 1) := by decide +kernel
theorem dX5_addTongue_2 : decode cX5_addTongue 2 = .ok (.getfield 38, 3) := by decide +kernel
theorem dX5_addTongue_5 : decode cX5_addTongue 5 = .ok (.iconst 5, 1) := by decide +kernel
theorem dX5_addTongue_6 : decode cX5_addTongue 6 = .ok (.if_icmp .ne 7, 3) := by decide +kernel
theorem dX5_addTongue_9 : decode cX5_addTongue 9 = .ok (.iconst 1, 1) := by decide +kernel
theorem dX5_addTongue_10 : decode cX5_addTongue 10 = .ok (.goto 4, 3) := by decide +kernel
theorem dX5_addTongue_13 : decode cX5_addTongue 13 = .ok (.iconst 0, 1) := by decide +kernel
theorem dX5_addTongue_14 : decode cX5_addTongue 14 = .ok (.putfield 35, 3) := by decide +kernel
theorem dX5_addTongue_17 : decode cX5_addTongue 17 = .ok (.aload_n 0, 1) := by decide +kernel
theorem dX5_addTongue_18 : decode cX5_addTongue 18 = .ok (.getfield 35, 3) := by decide +kernel
theorem dX5_addTongue_21 : decode cX5_addTongue 21 = .ok (.ifCond .le 5, 3) := by decide +kernel
theorem dX5_addTongue_24 : decode cX5_addTongue 24 = .ok (.iconst 0, 1) := by decide +kernel
theorem dX5_addTongue_25 : decode cX5_addTongue 25 = .ok (.ireturn, 1) := by decide +kernel
theorem dX5_addTongue_26 : decode cX5_addTongue 26 = .ok (.aload_n 0, 1) := by decide +kernel
theorem dX5_addTongue_27 : decode cX5_addTongue 27 = .ok (.dup, 1) := by decide +kernel
theorem dX5_addTongue_28 : decode cX5_addTongue 28 = .ok (.getfield 38, 3) := by decide +kernel
theorem dX5_addTongue_31 : decode cX5_addTongue 31 = .ok (.iconst 1, 1) := by decide +kernel
theorem dX5_addTongue_32 : decode cX5_addTongue 32 = .ok (.iadd, 1) := by decide +kernel
theorem dX5_addTongue_33 : decode cX5_addTongue 33 = .ok (.putfield 38, 3) := by decide +kernel
theorem dX5_addTongue_36 : decode cX5_addTongue 36 = .ok (.aload_n 0, 1) := by decide +kernel
theorem dX5_addTongue_37 : decode cX5_addTongue 37 = .ok (.getfield 38, 3) := by decide +kernel
theorem dX5_addTongue_40 : decode cX5_addTongue 40 = .ok (.iconst 1, 1) := by decide +kernel
theorem dX5_addTongue_41 : decode cX5_addTongue 41 = .ok (.isub, 1) := by decide +kernel
theorem dX5_addTongue_42 : decode cX5_addTongue 42 = .ok (.ireturn, 1) := by decide +kernel
theorem dX5_tongues_0 : decode cX5_tongues 0 = .ok (.aload_n 0, 1) := by decide +kernel
theorem dX5_tongues_1 : decode cX5_tongues 1 = .ok (.iconst 0, 1) := by decide +kernel
theorem dX5_tongues_2 : decode cX5_tongues 2 = .ok (.putfield 35, 3) := by decide +kernel
theorem dX5_tongues_5 : decode cX5_tongues 5 = .ok (.aload_n 0, 1) := by decide +kernel
theorem dX5_tongues_6 : decode cX5_tongues 6 = .ok (.getfield 38, 3) := by decide +kernel
theorem dX5_tongues_9 : decode cX5_tongues 9 = .ok (.ireturn, 1) := by decide +kernel
set_option maxRecDepth 20000 in
theorem ggX5_keeps_X5_run : GoodIn wsX5_keeps wsX5_run := goodIn_r _ [11, 12, 13, 14, 15, 16, 17, 18, 19, 20, 21, 22, 23, 24, 25, 26] (by decide +kernel) (by decide +kernel)
set_option maxRecDepth 20000 in
theorem gX5_keeps_X5_run : GoodIn wsX5_keeps (wsV RX5 52 RX5 yX5_run wsX5_run) := goodIn_app (goodIn_of _ (by decide +kernel)) ggX5_keeps_X5_run
theorem dX5_keeps_0 : decode cX5_keeps 0 = .ok (.aload_n 0, 1) := by decide +kernel
theorem dX5_keeps_1 : decode cX5_keeps 1 = .ok (.getfield 20, 3) := by decide +kernel
theorem dX5_keeps_4 : decode cX5_keeps 4 = .ok (.aload_n 0, 1) := by decide +kernel
theorem dX5_keeps_5 : decode cX5_keeps 5 = .ok (.getfield 59, 3) := by decide +kernel
theorem dX5_keeps_8 : decode cX5_keeps 8 = .ok (.aload_n 0, 1) := by decide +kernel
theorem dX5_keeps_9 : decode cX5_keeps 9 = .ok (.getfield 62, 3) := by decide +kernel
theorem dX5_keeps_12 : decode cX5_keeps 12 = .ok (.iastore, 1) := by decide +kernel
theorem dX5_keeps_13 : decode cX5_keeps 13 = .ok (.aload_n 0, 1) := by decide +kernel
theorem dX5_keeps_14 : decode cX5_keeps 14 = .ok (.getfield 23, 3) := by decide +kernel
theorem dX5_keeps_17 : decode cX5_keeps 17 = .ok (.aload_n 0, 1) := by decide +kernel
theorem dX5_keeps_18 : decode cX5_keeps 18 = .ok (.getfield 59, 3) := by decide +kernel
theorem dX5_keeps_21 : decode cX5_keeps 21 = .ok (.iload_n 1, 1) := by decide +kernel
theorem dX5_keeps_22 : decode cX5_keeps 22 = .ok (.iastore, 1) := by decide +kernel
theorem dX5_keeps_23 : decode cX5_keeps 23 = .ok (.aload_n 0, 1) := by decide +kernel
theorem dX5_keeps_24 : decode cX5_keeps 24 = .ok (.getfield 26, 3) := by decide +kernel
theorem dX5_keeps_27 : decode cX5_keeps 27 = .ok (.aload_n 0, 1) := by decide +kernel
theorem dX5_keeps_28 : decode cX5_keeps 28 = .ok (.getfield 59, 3) := by decide +kernel
theorem dX5_keeps_31 : decode cX5_keeps 31 = .ok (.iload_n 3, 1) := by decide +kernel
theorem dX5_keeps_32 : decode cX5_keeps 32 = .ok (.iastore, 1) := by decide +kernel
theorem dX5_keeps_33 : decode cX5_keeps 33 = .ok (.iconst 0, 1) := by decide +kernel
theorem dX5_keeps_34 : decode cX5_keeps 34 = .ok (.istore 4, 2) := by decide +kernel
theorem dX5_keeps_36 : decode cX5_keeps 36 = .ok (.iload 4, 2) := by decide +kernel
theorem dX5_keeps_38 : decode cX5_keeps 38 = .ok (.iload_n 3, 1) := by decide +kernel
theorem dX5_keeps_39 : decode cX5_keeps 39 = .ok (.if_icmp .ge 32, 3) := by decide +kernel
theorem dX5_keeps_42 : decode cX5_keeps 42 = .ok (.aload_n 0, 1) := by decide +kernel
theorem dX5_keeps_43 : decode cX5_keeps 43 = .ok (.getfield 29, 3) := by decide +kernel
theorem dX5_keeps_46 : decode cX5_keeps 46 = .ok (.bipush 17, 2) := by decide +kernel
theorem dX5_keeps_48 : decode cX5_keeps 48 = .ok (.aload_n 0, 1) := by decide +kernel
theorem dX5_keeps_49 : decode cX5_keeps 49 = .ok (.getfield 59, 3) := by decide +kernel
theorem dX5_keeps_52 : decode cX5_keeps 52 = .ok (.imul, 1) := by decide +kernel
theorem dX5_keeps_53 : decode cX5_keeps 53 = .ok (.iload 4, 2) := by decide +kernel
theorem dX5_keeps_55 : decode cX5_keeps 55 = .ok (.iadd, 1) := by decide +kernel
theorem dX5_keeps_56 : decode cX5_keeps 56 = .ok (.aload_n 0, 1) := by decide +kernel
theorem dX5_keeps_57 : decode cX5_keeps 57 = .ok (.iload_n 2, 1) := by decide +kernel
theorem dX5_keeps_58 : decode cX5_keeps 58 = .ok (.iload 4, 2) := by decide +kernel
theorem dX5_keeps_60 : decode cX5_keeps 60 = .ok (.iadd, 1) := by decide +kernel
theorem dX5_keeps_61 : decode cX5_keeps 61 = .ok (.invokevirtual 52, 3) := by decide +kernel
theorem dX5_keeps_64 : decode cX5_keeps 64 = .ok (.iastore, 1) := by decide +kernel
theorem dX5_keeps_65 : decode cX5_keeps 65 = .ok (.iinc 4 1, 3) := by decide +kernel
theorem dX5_keeps_68 : decode cX5_keeps 68 = .ok (.goto (-32), 3) := by decide +kernel
theorem dX5_keeps_71 : decode cX5_keeps 71 = .ok (.aload_n 0, 1) := by decide +kernel
theorem dX5_keeps_72 : decode cX5_keeps 72 = .ok (.dup, 1) := by decide +kernel
theorem dX5_keeps_73 : decode cX5_keeps 73 = .ok (.getfield 59, 3) := by decide +kernel
theorem dX5_keeps_76 : decode cX5_keeps 76 = .ok (.iconst 1, 1) := by decide +kernel
theorem dX5_keeps_77 : decode cX5_keeps 77 = .ok (.iadd, 1) := by decide +kernel
theorem dX5_keeps_78 : decode cX5_keeps 78 = .ok (.putfield 59, 3) := by decide +kernel
theorem dX5_keeps_81 : decode cX5_keeps 81 = .ok (.aload_n 0, 1) := by decide +kernel
theorem dX5_keeps_82 : decode cX5_keeps 82 = .ok (.dup, 1) := by decide +kernel
theorem dX5_keeps_83 : decode cX5_keeps 83 = .ok (.getfield 62, 3) := by decide +kernel
theorem dX5_keeps_86 : decode cX5_keeps 86 = .ok (.iconst 1, 1) := by decide +kernel
theorem dX5_keeps_87 : decode cX5_keeps 87 = .ok (.iadd, 1) := by decide +kernel
theorem dX5_keeps_88 : decode cX5_keeps 88 = .ok (.putfield 62, 3) := by decide +kernel
theorem dX5_keeps_91 : decode cX5_keeps 91 = .ok (.aload_n 0, 1) := by decide +kernel
theorem dX5_keeps_92 : decode cX5_keeps 92 = .ok (.getfield 62, 3) := by decide +kernel
theorem dX5_keeps_95 : decode cX5_keeps 95 = .ok (.iconst 1, 1) := by decide +kernel
theorem dX5_keeps_96 : decode cX5_keeps 96 = .ok (.isub, 1) := by decide +kernel
theorem dX5_keeps_97 : decode cX5_keeps 97 = .ok (.ireturn, 1) := by decide +kernel
set_option maxRecDepth 20000 in
theorem ggX5_teach_X5_isTongue : GoodIn wsX5_teach wsX5_isTongue := goodIn_r _ [8, 9, 10, 11, 7, 12, 31, 32, 33, 34, 35, 36, 37, 38, 39, 40, 41, 42, 43] (by decide +kernel) (by decide +kernel)
set_option maxRecDepth 20000 in
theorem gX5_teach_X5_isTongue : GoodIn wsX5_teach (wsV RX5 65 RX5 yX5_isTongue wsX5_isTongue) := goodIn_app (goodIn_of _ (by decide +kernel)) ggX5_teach_X5_isTongue
set_option maxRecDepth 20000 in
theorem ggX5_teach_X5_runMany : GoodIn wsX5_teach wsX5_runMany := goodIn_r _ [16, 1, 31, 32, 33, 34, 35, 36, 37, 38, 39, 40, 41, 42, 43] (by decide +kernel) (by decide +kernel)
set_option maxRecDepth 20000 in
theorem gX5_teach_X5_runMany : GoodIn wsX5_teach (wsV RX5 48 RX5 yX5_runMany wsX5_runMany) := goodIn_app (goodIn_of _ (by decide +kernel)) ggX5_teach_X5_runMany
set_option maxRecDepth 20000 in
theorem ggX5_teach_X5_keeps : GoodIn wsX5_teach wsX5_keeps := goodIn_r _ [20, 21, 2, 22, 23, 24, 25, 26, 27, 28, 7, 29, 30, 1, 31, 32, 33, 34, 35, 36, 37, 38, 39, 40, 41, 42, 43] (by decide +kernel) (by decide +kernel)
set_option maxRecDepth 20000 in
theorem gX5_teach_X5_keeps : GoodIn wsX5_teach (wsV RX5 69 RX5 yX5_keeps wsX5_keeps) := goodIn_app (goodIn_of _ (by decide +kernel)) ggX5_teach_X5_keeps
theorem dX5_teach_0 : decode cX5_teach 0 = .ok (.aload_n 0, 1) := by decide +kernel
theorem dX5_teach_1 : decode cX5_teach 1 = .ok (.aload_n 0, 1) := by decide +kernel
theorem dX5_teach_2 : decode cX5_teach 2 = .ok (.iload_n 1, 1) := by decide +kernel
theorem dX5_teach_3 : decode cX5_teach 3 = .ok (.invokevirtual 65, 3) := by decide +kernel
theorem dX5_teach_6 : decode cX5_teach 6 = .ok (.ifCond .ne 7, 3) := by decide +kernel
theorem dX5_teach_9 : decode cX5_teach 9 = .ok (.iconst 1, 1) := by decide +kernel
theorem dX5_teach_10 : decode cX5_teach 10 = .ok (.goto 24, 3) := by decide +kernel
theorem dX5_teach_13 : decode cX5_teach 13 = .ok (.aload_n 0, 1) := by decide +kernel
theorem dX5_teach_14 : decode cX5_teach 14 = .ok (.getfield 45, 3) := by decide +kernel
theorem dX5_teach_17 : decode cX5_teach 17 = .ok (.ifCond .eq 12, 3) := by decide +kernel
theorem dX5_teach_20 : decode cX5_teach 20 = .ok (.aload_n 0, 1) := by decide +kernel
theorem dX5_teach_21 : decode cX5_teach 21 = .ok (.getfield 59, 3) := by decide +kernel
theorem dX5_teach_24 : decode cX5_teach 24 = .ok (.bipush 30, 2) := by decide +kernel
theorem dX5_teach_26 : decode cX5_teach 26 = .ok (.if_icmp .ne 7, 3) := by decide +kernel
theorem dX5_teach_29 : decode cX5_teach 29 = .ok (.iconst 2, 1) := by decide +kernel
theorem dX5_teach_30 : decode cX5_teach 30 = .ok (.goto 4, 3) := by decide +kernel
theorem dX5_teach_33 : decode cX5_teach 33 = .ok (.iconst 0, 1) := by decide +kernel
theorem dX5_teach_34 : decode cX5_teach 34 = .ok (.putfield 35, 3) := by decide +kernel
theorem dX5_teach_37 : decode cX5_teach 37 = .ok (.aload_n 0, 1) := by decide +kernel
theorem dX5_teach_38 : decode cX5_teach 38 = .ok (.getfield 35, 3) := by decide +kernel
theorem dX5_teach_41 : decode cX5_teach 41 = .ok (.ifCond .le 7, 3) := by decide +kernel
theorem dX5_teach_44 : decode cX5_teach 44 = .ok (.iconst 0, 1) := by decide +kernel
theorem dX5_teach_45 : decode cX5_teach 45 = .ok (.goto 13, 3) := by decide +kernel
theorem dX5_teach_48 : decode cX5_teach 48 = .ok (.aload_n 0, 1) := by decide +kernel
theorem dX5_teach_49 : decode cX5_teach 49 = .ok (.iload_n 1, 1) := by decide +kernel
theorem dX5_teach_50 : decode cX5_teach 50 = .ok (.iconst 0, 1) := by decide +kernel
theorem dX5_teach_51 : decode cX5_teach 51 = .ok (.aload_n 0, 1) := by decide +kernel
theorem dX5_teach_52 : decode cX5_teach 52 = .ok (.invokevirtual 48, 3) := by decide +kernel
theorem dX5_teach_55 : decode cX5_teach 55 = .ok (.invokevirtual 69, 3) := by decide +kernel
theorem dX5_teach_58 : decode cX5_teach 58 = .ok (.ireturn, 1) := by decide +kernel
theorem dX5_slot_0 : decode cX5_slot 0 = .ok (.iconst (-1), 1) := by decide +kernel
theorem dX5_slot_1 : decode cX5_slot 1 = .ok (.istore_n 2, 1) := by decide +kernel
theorem dX5_slot_2 : decode cX5_slot 2 = .ok (.iconst 0, 1) := by decide +kernel
theorem dX5_slot_3 : decode cX5_slot 3 = .ok (.istore_n 3, 1) := by decide +kernel
theorem dX5_slot_4 : decode cX5_slot 4 = .ok (.iload_n 3, 1) := by decide +kernel
theorem dX5_slot_5 : decode cX5_slot 5 = .ok (.aload_n 0, 1) := by decide +kernel
theorem dX5_slot_6 : decode cX5_slot 6 = .ok (.getfield 59, 3) := by decide +kernel
theorem dX5_slot_9 : decode cX5_slot 9 = .ok (.if_icmp .ge 25, 3) := by decide +kernel
theorem dX5_slot_12 : decode cX5_slot 12 = .ok (.aload_n 0, 1) := by decide +kernel
theorem dX5_slot_13 : decode cX5_slot 13 = .ok (.getfield 20, 3) := by decide +kernel
theorem dX5_slot_16 : decode cX5_slot 16 = .ok (.iload_n 3, 1) := by decide +kernel
theorem dX5_slot_17 : decode cX5_slot 17 = .ok (.iaload, 1) := by decide +kernel
theorem dX5_slot_18 : decode cX5_slot 18 = .ok (.iload_n 1, 1) := by decide +kernel
theorem dX5_slot_19 : decode cX5_slot 19 = .ok (.if_icmp .ne 7, 3) := by decide +kernel
theorem dX5_slot_22 : decode cX5_slot 22 = .ok (.iload_n 3, 1) := by decide +kernel
theorem dX5_slot_23 : decode cX5_slot 23 = .ok (.goto 4, 3) := by decide +kernel
theorem dX5_slot_26 : decode cX5_slot 26 = .ok (.iload_n 2, 1) := by decide +kernel
theorem dX5_slot_27 : decode cX5_slot 27 = .ok (.istore_n 2, 1) := by decide +kernel
theorem dX5_slot_28 : decode cX5_slot 28 = .ok (.iinc 3 1, 3) := by decide +kernel
theorem dX5_slot_31 : decode cX5_slot 31 = .ok (.goto (-27), 3) := by decide +kernel
theorem dX5_slot_34 : decode cX5_slot 34 = .ok (.iload_n 2, 1) := by decide +kernel
theorem dX5_slot_35 : decode cX5_slot 35 = .ok (.ireturn, 1) := by decide +kernel
set_option maxRecDepth 20000 in
theorem ggX5_withdraw_X5_slot : GoodIn wsX5_withdraw wsX5_slot := goodIn_r _ [11, 3, 4, 12, 13, 14, 15, 16, 17, 18, 19, 20, 21, 22, 23, 24] (by decide +kernel) (by decide +kernel)
set_option maxRecDepth 20000 in
theorem gX5_withdraw_X5_slot : GoodIn wsX5_withdraw (wsV RX5 73 RX5 yX5_slot wsX5_slot) := goodIn_app (goodIn_of _ (by decide +kernel)) ggX5_withdraw_X5_slot
theorem dX5_withdraw_0 : decode cX5_withdraw 0 = .ok (.aload_n 0, 1) := by decide +kernel
theorem dX5_withdraw_1 : decode cX5_withdraw 1 = .ok (.iload_n 1, 1) := by decide +kernel
theorem dX5_withdraw_2 : decode cX5_withdraw 2 = .ok (.invokevirtual 73, 3) := by decide +kernel
theorem dX5_withdraw_5 : decode cX5_withdraw 5 = .ok (.istore_n 2, 1) := by decide +kernel
theorem dX5_withdraw_6 : decode cX5_withdraw 6 = .ok (.aload_n 0, 1) := by decide +kernel
theorem dX5_withdraw_7 : decode cX5_withdraw 7 = .ok (.iload_n 2, 1) := by decide +kernel
theorem dX5_withdraw_8 : decode cX5_withdraw 8 = .ok (.iconst (-1), 1) := by decide +kernel
theorem dX5_withdraw_9 : decode cX5_withdraw 9 = .ok (.if_icmp .ne 7, 3) := by decide +kernel
theorem dX5_withdraw_12 : decode cX5_withdraw 12 = .ok (.iconst 1, 1) := by decide +kernel
theorem dX5_withdraw_13 : decode cX5_withdraw 13 = .ok (.goto 4, 3) := by decide +kernel
theorem dX5_withdraw_16 : decode cX5_withdraw 16 = .ok (.iconst 0, 1) := by decide +kernel
theorem dX5_withdraw_17 : decode cX5_withdraw 17 = .ok (.putfield 35, 3) := by decide +kernel
theorem dX5_withdraw_20 : decode cX5_withdraw 20 = .ok (.aload_n 0, 1) := by decide +kernel
theorem dX5_withdraw_21 : decode cX5_withdraw 21 = .ok (.getfield 35, 3) := by decide +kernel
theorem dX5_withdraw_24 : decode cX5_withdraw 24 = .ok (.ifCond .le 5, 3) := by decide +kernel
theorem dX5_withdraw_27 : decode cX5_withdraw 27 = .ok (.iconst 0, 1) := by decide +kernel
theorem dX5_withdraw_28 : decode cX5_withdraw 28 = .ok (.ireturn, 1) := by decide +kernel
theorem dX5_withdraw_29 : decode cX5_withdraw 29 = .ok (.aload_n 0, 1) := by decide +kernel
theorem dX5_withdraw_30 : decode cX5_withdraw 30 = .ok (.getfield 26, 3) := by decide +kernel
theorem dX5_withdraw_33 : decode cX5_withdraw 33 = .ok (.iload_n 2, 1) := by decide +kernel
theorem dX5_withdraw_34 : decode cX5_withdraw 34 = .ok (.iaload, 1) := by decide +kernel
theorem dX5_withdraw_35 : decode cX5_withdraw 35 = .ok (.istore_n 3, 1) := by decide +kernel
theorem dX5_withdraw_36 : decode cX5_withdraw 36 = .ok (.aload_n 0, 1) := by decide +kernel
theorem dX5_withdraw_37 : decode cX5_withdraw 37 = .ok (.dup, 1) := by decide +kernel
theorem dX5_withdraw_38 : decode cX5_withdraw 38 = .ok (.getfield 59, 3) := by decide +kernel
theorem dX5_withdraw_41 : decode cX5_withdraw 41 = .ok (.iconst 1, 1) := by decide +kernel
theorem dX5_withdraw_42 : decode cX5_withdraw 42 = .ok (.isub, 1) := by decide +kernel
theorem dX5_withdraw_43 : decode cX5_withdraw 43 = .ok (.putfield 59, 3) := by decide +kernel
theorem dX5_withdraw_46 : decode cX5_withdraw 46 = .ok (.iload_n 2, 1) := by decide +kernel
theorem dX5_withdraw_47 : decode cX5_withdraw 47 = .ok (.istore 4, 2) := by decide +kernel
theorem dX5_withdraw_49 : decode cX5_withdraw 49 = .ok (.iload 4, 2) := by decide +kernel
theorem dX5_withdraw_51 : decode cX5_withdraw 51 = .ok (.aload_n 0, 1) := by decide +kernel
theorem dX5_withdraw_52 : decode cX5_withdraw 52 = .ok (.getfield 59, 3) := by decide +kernel
theorem dX5_withdraw_55 : decode cX5_withdraw 55 = .ok (.if_icmp .ge 101, 3) := by decide +kernel
theorem dX5_withdraw_58 : decode cX5_withdraw 58 = .ok (.aload_n 0, 1) := by decide +kernel
theorem dX5_withdraw_59 : decode cX5_withdraw 59 = .ok (.getfield 20, 3) := by decide +kernel
theorem dX5_withdraw_62 : decode cX5_withdraw 62 = .ok (.iload 4, 2) := by decide +kernel
theorem dX5_withdraw_64 : decode cX5_withdraw 64 = .ok (.aload_n 0, 1) := by decide +kernel
theorem dX5_withdraw_65 : decode cX5_withdraw 65 = .ok (.getfield 20, 3) := by decide +kernel
theorem dX5_withdraw_68 : decode cX5_withdraw 68 = .ok (.iload 4, 2) := by decide +kernel
theorem dX5_withdraw_70 : decode cX5_withdraw 70 = .ok (.iconst 1, 1) := by decide +kernel
theorem dX5_withdraw_71 : decode cX5_withdraw 71 = .ok (.iadd, 1) := by decide +kernel
theorem dX5_withdraw_72 : decode cX5_withdraw 72 = .ok (.iaload, 1) := by decide +kernel
theorem dX5_withdraw_73 : decode cX5_withdraw 73 = .ok (.iastore, 1) := by decide +kernel
theorem dX5_withdraw_74 : decode cX5_withdraw 74 = .ok (.aload_n 0, 1) := by decide +kernel
theorem dX5_withdraw_75 : decode cX5_withdraw 75 = .ok (.getfield 23, 3) := by decide +kernel
theorem dX5_withdraw_78 : decode cX5_withdraw 78 = .ok (.iload 4, 2) := by decide +kernel
theorem dX5_withdraw_80 : decode cX5_withdraw 80 = .ok (.aload_n 0, 1) := by decide +kernel
theorem dX5_withdraw_81 : decode cX5_withdraw 81 = .ok (.getfield 23, 3) := by decide +kernel
theorem dX5_withdraw_84 : decode cX5_withdraw 84 = .ok (.iload 4, 2) := by decide +kernel
theorem dX5_withdraw_86 : decode cX5_withdraw 86 = .ok (.iconst 1, 1) := by decide +kernel
theorem dX5_withdraw_87 : decode cX5_withdraw 87 = .ok (.iadd, 1) := by decide +kernel
theorem dX5_withdraw_88 : decode cX5_withdraw 88 = .ok (.iaload, 1) := by decide +kernel
theorem dX5_withdraw_89 : decode cX5_withdraw 89 = .ok (.iastore, 1) := by decide +kernel
theorem dX5_withdraw_90 : decode cX5_withdraw 90 = .ok (.aload_n 0, 1) := by decide +kernel
theorem dX5_withdraw_91 : decode cX5_withdraw 91 = .ok (.getfield 26, 3) := by decide +kernel
theorem dX5_withdraw_94 : decode cX5_withdraw 94 = .ok (.iload 4, 2) := by decide +kernel
theorem dX5_withdraw_96 : decode cX5_withdraw 96 = .ok (.aload_n 0, 1) := by decide +kernel
theorem dX5_withdraw_97 : decode cX5_withdraw 97 = .ok (.getfield 26, 3) := by decide +kernel
theorem dX5_withdraw_100 : decode cX5_withdraw 100 = .ok (.iload 4, 2) := by decide +kernel
theorem dX5_withdraw_102 : decode cX5_withdraw 102 = .ok (.iconst 1, 1) := by decide +kernel
theorem dX5_withdraw_103 : decode cX5_withdraw 103 = .ok (.iadd, 1) := by decide +kernel
theorem dX5_withdraw_104 : decode cX5_withdraw 104 = .ok (.iaload, 1) := by decide +kernel
theorem dX5_withdraw_105 : decode cX5_withdraw 105 = .ok (.iastore, 1) := by decide +kernel
theorem dX5_withdraw_106 : decode cX5_withdraw 106 = .ok (.iconst 0, 1) := by decide +kernel
theorem dX5_withdraw_107 : decode cX5_withdraw 107 = .ok (.istore 5, 2) := by decide +kernel
theorem dX5_withdraw_109 : decode cX5_withdraw 109 = .ok (.iload 5, 2) := by decide +kernel
theorem dX5_withdraw_111 : decode cX5_withdraw 111 = .ok (.bipush 17, 2) := by decide +kernel
theorem dX5_withdraw_113 : decode cX5_withdraw 113 = .ok (.if_icmp .ge 37, 3) := by decide +kernel
theorem dX5_withdraw_116 : decode cX5_withdraw 116 = .ok (.aload_n 0, 1) := by decide +kernel
theorem dX5_withdraw_117 : decode cX5_withdraw 117 = .ok (.getfield 29, 3) := by decide +kernel
theorem dX5_withdraw_120 : decode cX5_withdraw 120 = .ok (.bipush 17, 2) := by decide +kernel
theorem dX5_withdraw_122 : decode cX5_withdraw 122 = .ok (.iload 4, 2) := by decide +kernel
theorem dX5_withdraw_124 : decode cX5_withdraw 124 = .ok (.imul, 1) := by decide +kernel
theorem dX5_withdraw_125 : decode cX5_withdraw 125 = .ok (.iload 5, 2) := by decide +kernel
theorem dX5_withdraw_127 : decode cX5_withdraw 127 = .ok (.iadd, 1) := by decide +kernel
theorem dX5_withdraw_128 : decode cX5_withdraw 128 = .ok (.aload_n 0, 1) := by decide +kernel
theorem dX5_withdraw_129 : decode cX5_withdraw 129 = .ok (.getfield 29, 3) := by decide +kernel
theorem dX5_withdraw_132 : decode cX5_withdraw 132 = .ok (.bipush 17, 2) := by decide +kernel
theorem dX5_withdraw_134 : decode cX5_withdraw 134 = .ok (.iload 4, 2) := by decide +kernel
theorem dX5_withdraw_136 : decode cX5_withdraw 136 = .ok (.iconst 1, 1) := by decide +kernel
theorem dX5_withdraw_137 : decode cX5_withdraw 137 = .ok (.iadd, 1) := by decide +kernel
theorem dX5_withdraw_138 : decode cX5_withdraw 138 = .ok (.imul, 1) := by decide +kernel
theorem dX5_withdraw_139 : decode cX5_withdraw 139 = .ok (.iload 5, 2) := by decide +kernel
theorem dX5_withdraw_141 : decode cX5_withdraw 141 = .ok (.iadd, 1) := by decide +kernel
theorem dX5_withdraw_142 : decode cX5_withdraw 142 = .ok (.iaload, 1) := by decide +kernel
theorem dX5_withdraw_143 : decode cX5_withdraw 143 = .ok (.iastore, 1) := by decide +kernel
theorem dX5_withdraw_144 : decode cX5_withdraw 144 = .ok (.iinc 5 1, 3) := by decide +kernel
theorem dX5_withdraw_147 : decode cX5_withdraw 147 = .ok (.goto (-38), 3) := by decide +kernel
theorem dX5_withdraw_150 : decode cX5_withdraw 150 = .ok (.iinc 4 1, 3) := by decide +kernel
theorem dX5_withdraw_153 : decode cX5_withdraw 153 = .ok (.goto (-104), 3) := by decide +kernel
theorem dX5_withdraw_156 : decode cX5_withdraw 156 = .ok (.iload_n 3, 1) := by decide +kernel
theorem dX5_withdraw_157 : decode cX5_withdraw 157 = .ok (.ireturn, 1) := by decide +kernel
set_option maxRecDepth 20000 in
theorem ggX5_tongueOf_X5_slot : GoodIn wsX5_tongueOf wsX5_slot := goodIn_r _ [7, 8, 9, 10, 11, 12, 13, 14, 15, 16, 17, 18, 19, 20, 21, 22] (by decide +kernel) (by decide +kernel)
set_option maxRecDepth 20000 in
theorem gX5_tongueOf_X5_slot : GoodIn wsX5_tongueOf (wsV RX5 73 RX5 yX5_slot wsX5_slot) := goodIn_app (goodIn_of _ (by decide +kernel)) ggX5_tongueOf_X5_slot
theorem dX5_tongueOf_0 : decode cX5_tongueOf 0 = .ok (.aload_n 0, 1) := by decide +kernel
theorem dX5_tongueOf_1 : decode cX5_tongueOf 1 = .ok (.iload_n 1, 1) := by decide +kernel
theorem dX5_tongueOf_2 : decode cX5_tongueOf 2 = .ok (.invokevirtual 73, 3) := by decide +kernel
theorem dX5_tongueOf_5 : decode cX5_tongueOf 5 = .ok (.istore_n 2, 1) := by decide +kernel
theorem dX5_tongueOf_6 : decode cX5_tongueOf 6 = .ok (.aload_n 0, 1) := by decide +kernel
theorem dX5_tongueOf_7 : decode cX5_tongueOf 7 = .ok (.iload_n 2, 1) := by decide +kernel
theorem dX5_tongueOf_8 : decode cX5_tongueOf 8 = .ok (.iconst (-1), 1) := by decide +kernel
theorem dX5_tongueOf_9 : decode cX5_tongueOf 9 = .ok (.if_icmp .ne 7, 3) := by decide +kernel
theorem dX5_tongueOf_12 : decode cX5_tongueOf 12 = .ok (.iconst 1, 1) := by decide +kernel
theorem dX5_tongueOf_13 : decode cX5_tongueOf 13 = .ok (.goto 4, 3) := by decide +kernel
theorem dX5_tongueOf_16 : decode cX5_tongueOf 16 = .ok (.iconst 0, 1) := by decide +kernel
theorem dX5_tongueOf_17 : decode cX5_tongueOf 17 = .ok (.putfield 35, 3) := by decide +kernel
theorem dX5_tongueOf_20 : decode cX5_tongueOf 20 = .ok (.aload_n 0, 1) := by decide +kernel
theorem dX5_tongueOf_21 : decode cX5_tongueOf 21 = .ok (.getfield 35, 3) := by decide +kernel
theorem dX5_tongueOf_24 : decode cX5_tongueOf 24 = .ok (.ifCond .le 7, 3) := by decide +kernel
theorem dX5_tongueOf_27 : decode cX5_tongueOf 27 = .ok (.iconst 0, 1) := by decide +kernel
theorem dX5_tongueOf_28 : decode cX5_tongueOf 28 = .ok (.goto 9, 3) := by decide +kernel
theorem dX5_tongueOf_31 : decode cX5_tongueOf 31 = .ok (.aload_n 0, 1) := by decide +kernel
theorem dX5_tongueOf_32 : decode cX5_tongueOf 32 = .ok (.getfield 23, 3) := by decide +kernel
theorem dX5_tongueOf_35 : decode cX5_tongueOf 35 = .ok (.iload_n 2, 1) := by decide +kernel
theorem dX5_tongueOf_36 : decode cX5_tongueOf 36 = .ok (.iaload, 1) := by decide +kernel
theorem dX5_tongueOf_37 : decode cX5_tongueOf 37 = .ok (.ireturn, 1) := by decide +kernel
theorem dX5_totalOf_0 : decode cX5_totalOf 0 = .ok (.iconst 0, 1) := by decide +kernel
theorem dX5_totalOf_1 : decode cX5_totalOf 1 = .ok (.istore_n 2, 1) := by decide +kernel
theorem dX5_totalOf_2 : decode cX5_totalOf 2 = .ok (.iconst 0, 1) := by decide +kernel
theorem dX5_totalOf_3 : decode cX5_totalOf 3 = .ok (.istore_n 3, 1) := by decide +kernel
theorem dX5_totalOf_4 : decode cX5_totalOf 4 = .ok (.iload_n 3, 1) := by decide +kernel
theorem dX5_totalOf_5 : decode cX5_totalOf 5 = .ok (.aload_n 0, 1) := by decide +kernel
theorem dX5_totalOf_6 : decode cX5_totalOf 6 = .ok (.getfield 59, 3) := by decide +kernel
theorem dX5_totalOf_9 : decode cX5_totalOf 9 = .ok (.if_icmp .ge 32, 3) := by decide +kernel
theorem dX5_totalOf_12 : decode cX5_totalOf 12 = .ok (.iload_n 2, 1) := by decide +kernel
theorem dX5_totalOf_13 : decode cX5_totalOf 13 = .ok (.aload_n 0, 1) := by decide +kernel
theorem dX5_totalOf_14 : decode cX5_totalOf 14 = .ok (.getfield 23, 3) := by decide +kernel
theorem dX5_totalOf_17 : decode cX5_totalOf 17 = .ok (.iload_n 3, 1) := by decide +kernel
theorem dX5_totalOf_18 : decode cX5_totalOf 18 = .ok (.iaload, 1) := by decide +kernel
theorem dX5_totalOf_19 : decode cX5_totalOf 19 = .ok (.iload_n 1, 1) := by decide +kernel
theorem dX5_totalOf_20 : decode cX5_totalOf 20 = .ok (.if_icmp .ne 12, 3) := by decide +kernel
theorem dX5_totalOf_23 : decode cX5_totalOf 23 = .ok (.aload_n 0, 1) := by decide +kernel
theorem dX5_totalOf_24 : decode cX5_totalOf 24 = .ok (.getfield 26, 3) := by decide +kernel
theorem dX5_totalOf_27 : decode cX5_totalOf 27 = .ok (.iload_n 3, 1) := by decide +kernel
theorem dX5_totalOf_28 : decode cX5_totalOf 28 = .ok (.iaload, 1) := by decide +kernel
theorem dX5_totalOf_29 : decode cX5_totalOf 29 = .ok (.goto 4, 3) := by decide +kernel
theorem dX5_totalOf_32 : decode cX5_totalOf 32 = .ok (.iconst 0, 1) := by decide +kernel
theorem dX5_totalOf_33 : decode cX5_totalOf 33 = .ok (.iadd, 1) := by decide +kernel
theorem dX5_totalOf_34 : decode cX5_totalOf 34 = .ok (.istore_n 2, 1) := by decide +kernel
theorem dX5_totalOf_35 : decode cX5_totalOf 35 = .ok (.iinc 3 1, 3) := by decide +kernel
theorem dX5_totalOf_38 : decode cX5_totalOf 38 = .ok (.goto (-34), 3) := by decide +kernel
theorem dX5_totalOf_41 : decode cX5_totalOf 41 = .ok (.iload_n 2, 1) := by decide +kernel
theorem dX5_totalOf_42 : decode cX5_totalOf 42 = .ok (.ireturn, 1) := by decide +kernel
theorem dX5_countOf_0 : decode cX5_countOf 0 = .ok (.iconst 0, 1) := by decide +kernel
theorem dX5_countOf_1 : decode cX5_countOf 1 = .ok (.istore_n 3, 1) := by decide +kernel
theorem dX5_countOf_2 : decode cX5_countOf 2 = .ok (.iconst 0, 1) := by decide +kernel
theorem dX5_countOf_3 : decode cX5_countOf 3 = .ok (.istore 4, 2) := by decide +kernel
theorem dX5_countOf_5 : decode cX5_countOf 5 = .ok (.iload 4, 2) := by decide +kernel
theorem dX5_countOf_7 : decode cX5_countOf 7 = .ok (.aload_n 0, 1) := by decide +kernel
theorem dX5_countOf_8 : decode cX5_countOf 8 = .ok (.getfield 59, 3) := by decide +kernel
theorem dX5_countOf_11 : decode cX5_countOf 11 = .ok (.if_icmp .ge 66, 3) := by decide +kernel
theorem dX5_countOf_14 : decode cX5_countOf 14 = .ok (.iconst 0, 1) := by decide +kernel
theorem dX5_countOf_15 : decode cX5_countOf 15 = .ok (.istore 5, 2) := by decide +kernel
theorem dX5_countOf_17 : decode cX5_countOf 17 = .ok (.iload 5, 2) := by decide +kernel
theorem dX5_countOf_19 : decode cX5_countOf 19 = .ok (.aload_n 0, 1) := by decide +kernel
theorem dX5_countOf_20 : decode cX5_countOf 20 = .ok (.getfield 26, 3) := by decide +kernel
theorem dX5_countOf_23 : decode cX5_countOf 23 = .ok (.iload 4, 2) := by decide +kernel
theorem dX5_countOf_25 : decode cX5_countOf 25 = .ok (.iaload, 1) := by decide +kernel
theorem dX5_countOf_26 : decode cX5_countOf 26 = .ok (.if_icmp .ge 45, 3) := by decide +kernel
theorem dX5_countOf_29 : decode cX5_countOf 29 = .ok (.aload_n 0, 1) := by decide +kernel
theorem dX5_countOf_30 : decode cX5_countOf 30 = .ok (.getfield 23, 3) := by decide +kernel
theorem dX5_countOf_33 : decode cX5_countOf 33 = .ok (.iload 4, 2) := by decide +kernel
theorem dX5_countOf_35 : decode cX5_countOf 35 = .ok (.iaload, 1) := by decide +kernel
theorem dX5_countOf_36 : decode cX5_countOf 36 = .ok (.iload_n 1, 1) := by decide +kernel
theorem dX5_countOf_37 : decode cX5_countOf 37 = .ok (.if_icmp .ne 34, 3) := by decide +kernel
theorem dX5_countOf_40 : decode cX5_countOf 40 = .ok (.iload_n 3, 1) := by decide +kernel
theorem dX5_countOf_41 : decode cX5_countOf 41 = .ok (.aload_n 0, 1) := by decide +kernel
theorem dX5_countOf_42 : decode cX5_countOf 42 = .ok (.getfield 29, 3) := by decide +kernel
theorem dX5_countOf_45 : decode cX5_countOf 45 = .ok (.bipush 17, 2) := by decide +kernel
theorem dX5_countOf_47 : decode cX5_countOf 47 = .ok (.iload 4, 2) := by decide +kernel
theorem dX5_countOf_49 : decode cX5_countOf 49 = .ok (.imul, 1) := by decide +kernel
theorem dX5_countOf_50 : decode cX5_countOf 50 = .ok (.iload 5, 2) := by decide +kernel
theorem dX5_countOf_52 : decode cX5_countOf 52 = .ok (.iadd, 1) := by decide +kernel
theorem dX5_countOf_53 : decode cX5_countOf 53 = .ok (.iaload, 1) := by decide +kernel
theorem dX5_countOf_54 : decode cX5_countOf 54 = .ok (.iload_n 2, 1) := by decide +kernel
theorem dX5_countOf_55 : decode cX5_countOf 55 = .ok (.if_icmp .ne 7, 3) := by decide +kernel
theorem dX5_countOf_58 : decode cX5_countOf 58 = .ok (.iconst 1, 1) := by decide +kernel
theorem dX5_countOf_59 : decode cX5_countOf 59 = .ok (.goto 4, 3) := by decide +kernel
theorem dX5_countOf_62 : decode cX5_countOf 62 = .ok (.iconst 0, 1) := by decide +kernel
theorem dX5_countOf_63 : decode cX5_countOf 63 = .ok (.iadd, 1) := by decide +kernel
theorem dX5_countOf_64 : decode cX5_countOf 64 = .ok (.istore_n 3, 1) := by decide +kernel
theorem dX5_countOf_65 : decode cX5_countOf 65 = .ok (.iinc 5 1, 3) := by decide +kernel
theorem dX5_countOf_68 : decode cX5_countOf 68 = .ok (.goto (-51), 3) := by decide +kernel
theorem dX5_countOf_71 : decode cX5_countOf 71 = .ok (.iinc 4 1, 3) := by decide +kernel
theorem dX5_countOf_74 : decode cX5_countOf 74 = .ok (.goto (-69), 3) := by decide +kernel
theorem dX5_countOf_77 : decode cX5_countOf 77 = .ok (.iload_n 3, 1) := by decide +kernel
theorem dX5_countOf_78 : decode cX5_countOf 78 = .ok (.ireturn, 1) := by decide +kernel
set_option maxRecDepth 20000 in
theorem ggX5_costOf_X5_countOf : GoodIn wsX5_costOf wsX5_countOf := goodIn_r _ [5, 6, 7, 8, 9, 14, 15, 16, 17, 18, 19, 20, 21, 22, 23, 24, 25, 26] (by decide +kernel) (by decide +kernel)
set_option maxRecDepth 20000 in
theorem gX5_costOf_X5_countOf : GoodIn wsX5_costOf (wsV RX5 76 RX5 yX5_countOf wsX5_countOf) := goodIn_app (goodIn_of _ (by decide +kernel)) ggX5_costOf_X5_countOf
set_option maxRecDepth 20000 in
theorem ggX5_costOf_X5_totalOf : GoodIn wsX5_costOf wsX5_totalOf := goodIn_r _ [13, 6, 8, 7, 14, 15, 16, 17, 18, 19, 20, 21, 22, 23, 24, 25, 26] (by decide +kernel) (by decide +kernel)
set_option maxRecDepth 20000 in
theorem gX5_costOf_X5_totalOf : GoodIn wsX5_costOf (wsV RX5 80 RX5 yX5_totalOf wsX5_totalOf) := goodIn_app (goodIn_of _ (by decide +kernel)) ggX5_costOf_X5_totalOf
theorem dX5_costOf_0 : decode cX5_costOf 0 = .ok (.aload_n 0, 1) := by decide +kernel
theorem dX5_costOf_1 : decode cX5_costOf 1 = .ok (.iload_n 1, 1) := by decide +kernel
theorem dX5_costOf_2 : decode cX5_costOf 2 = .ok (.iload_n 2, 1) := by decide +kernel
theorem dX5_costOf_3 : decode cX5_costOf 3 = .ok (.invokevirtual 76, 3) := by decide +kernel
theorem dX5_costOf_6 : decode cX5_costOf 6 = .ok (.iconst 1, 1) := by decide +kernel
theorem dX5_costOf_7 : decode cX5_costOf 7 = .ok (.iadd, 1) := by decide +kernel
theorem dX5_costOf_8 : decode cX5_costOf 8 = .ok (.istore_n 3, 1) := by decide +kernel
theorem dX5_costOf_9 : decode cX5_costOf 9 = .ok (.aload_n 0, 1) := by decide +kernel
theorem dX5_costOf_10 : decode cX5_costOf 10 = .ok (.iload_n 1, 1) := by decide +kernel
theorem dX5_costOf_11 : decode cX5_costOf 11 = .ok (.invokevirtual 80, 3) := by decide +kernel
theorem dX5_costOf_14 : decode cX5_costOf 14 = .ok (.bipush 36, 2) := by decide +kernel
theorem dX5_costOf_16 : decode cX5_costOf 16 = .ok (.iadd, 1) := by decide +kernel
theorem dX5_costOf_17 : decode cX5_costOf 17 = .ok (.istore 4, 2) := by decide +kernel
theorem dX5_costOf_19 : decode cX5_costOf 19 = .ok (.iconst 0, 1) := by decide +kernel
theorem dX5_costOf_20 : decode cX5_costOf 20 = .ok (.istore 5, 2) := by decide +kernel
theorem dX5_costOf_22 : decode cX5_costOf 22 = .ok (.iload_n 3, 1) := by decide +kernel
theorem dX5_costOf_23 : decode cX5_costOf 23 = .ok (.iload 4, 2) := by decide +kernel
theorem dX5_costOf_25 : decode cX5_costOf 25 = .ok (.if_icmp .ge 13, 3) := by decide +kernel
theorem dX5_costOf_28 : decode cX5_costOf 28 = .ok (.iload_n 3, 1) := by decide +kernel
theorem dX5_costOf_29 : decode cX5_costOf 29 = .ok (.iconst 2, 1) := by decide +kernel
theorem dX5_costOf_30 : decode cX5_costOf 30 = .ok (.imul, 1) := by decide +kernel
theorem dX5_costOf_31 : decode cX5_costOf 31 = .ok (.istore_n 3, 1) := by decide +kernel
theorem dX5_costOf_32 : decode cX5_costOf 32 = .ok (.iinc 5 1, 3) := by decide +kernel
theorem dX5_costOf_35 : decode cX5_costOf 35 = .ok (.goto (-13), 3) := by decide +kernel
theorem dX5_costOf_38 : decode cX5_costOf 38 = .ok (.iload 5, 2) := by decide +kernel
theorem dX5_costOf_40 : decode cX5_costOf 40 = .ok (.ireturn, 1) := by decide +kernel
set_option maxRecDepth 20000 in
theorem ggX5_rankOf_X5_countOf : GoodIn wsX5_rankOf wsX5_countOf := goodIn_r _ [5, 6, 7, 8, 9, 10, 11, 12, 13, 14, 15, 16, 17, 18, 19, 20, 21, 22] (by decide +kernel) (by decide +kernel)
set_option maxRecDepth 20000 in
theorem gX5_rankOf_X5_countOf : GoodIn wsX5_rankOf (wsV RX5 76 RX5 yX5_countOf wsX5_countOf) := goodIn_app (goodIn_of _ (by decide +kernel)) ggX5_rankOf_X5_countOf
theorem dX5_rankOf_0 : decode cX5_rankOf 0 = .ok (.aload_n 0, 1) := by decide +kernel
theorem dX5_rankOf_1 : decode cX5_rankOf 1 = .ok (.iload_n 1, 1) := by decide +kernel
theorem dX5_rankOf_2 : decode cX5_rankOf 2 = .ok (.iload_n 2, 1) := by decide +kernel
theorem dX5_rankOf_3 : decode cX5_rankOf 3 = .ok (.invokevirtual 76, 3) := by decide +kernel
theorem dX5_rankOf_6 : decode cX5_rankOf 6 = .ok (.istore_n 3, 1) := by decide +kernel
theorem dX5_rankOf_7 : decode cX5_rankOf 7 = .ok (.iconst 0, 1) := by decide +kernel
theorem dX5_rankOf_8 : decode cX5_rankOf 8 = .ok (.istore 4, 2) := by decide +kernel
theorem dX5_rankOf_10 : decode cX5_rankOf 10 = .ok (.iconst 0, 1) := by decide +kernel
theorem dX5_rankOf_11 : decode cX5_rankOf 11 = .ok (.istore 5, 2) := by decide +kernel
theorem dX5_rankOf_13 : decode cX5_rankOf 13 = .ok (.iload 5, 2) := by decide +kernel
theorem dX5_rankOf_15 : decode cX5_rankOf 15 = .ok (.bipush 36, 2) := by decide +kernel
theorem dX5_rankOf_17 : decode cX5_rankOf 17 = .ok (.if_icmp .ge 46, 3) := by decide +kernel
theorem dX5_rankOf_20 : decode cX5_rankOf 20 = .ok (.aload_n 0, 1) := by decide +kernel
theorem dX5_rankOf_21 : decode cX5_rankOf 21 = .ok (.iload_n 1, 1) := by decide +kernel
theorem dX5_rankOf_22 : decode cX5_rankOf 22 = .ok (.iload 5, 2) := by decide +kernel
theorem dX5_rankOf_24 : decode cX5_rankOf 24 = .ok (.invokevirtual 76, 3) := by decide +kernel
theorem dX5_rankOf_27 : decode cX5_rankOf 27 = .ok (.istore 6, 2) := by decide +kernel
theorem dX5_rankOf_29 : decode cX5_rankOf 29 = .ok (.iload 4, 2) := by decide +kernel
theorem dX5_rankOf_31 : decode cX5_rankOf 31 = .ok (.iload 6, 2) := by decide +kernel
theorem dX5_rankOf_33 : decode cX5_rankOf 33 = .ok (.iload_n 3, 1) := by decide +kernel
theorem dX5_rankOf_34 : decode cX5_rankOf 34 = .ok (.if_icmp .gt 15, 3) := by decide +kernel
theorem dX5_rankOf_37 : decode cX5_rankOf 37 = .ok (.iload 6, 2) := by decide +kernel
theorem dX5_rankOf_39 : decode cX5_rankOf 39 = .ok (.iload_n 3, 1) := by decide +kernel
theorem dX5_rankOf_40 : decode cX5_rankOf 40 = .ok (.if_icmp .ne 13, 3) := by decide +kernel
theorem dX5_rankOf_43 : decode cX5_rankOf 43 = .ok (.iload 5, 2) := by decide +kernel
theorem dX5_rankOf_45 : decode cX5_rankOf 45 = .ok (.iload_n 2, 1) := by decide +kernel
theorem dX5_rankOf_46 : decode cX5_rankOf 46 = .ok (.if_icmp .ge 7, 3) := by decide +kernel
theorem dX5_rankOf_49 : decode cX5_rankOf 49 = .ok (.iconst 1, 1) := by decide +kernel
theorem dX5_rankOf_50 : decode cX5_rankOf 50 = .ok (.goto 4, 3) := by decide +kernel
theorem dX5_rankOf_53 : decode cX5_rankOf 53 = .ok (.iconst 0, 1) := by decide +kernel
theorem dX5_rankOf_54 : decode cX5_rankOf 54 = .ok (.iadd, 1) := by decide +kernel
theorem dX5_rankOf_55 : decode cX5_rankOf 55 = .ok (.istore 4, 2) := by decide +kernel
theorem dX5_rankOf_57 : decode cX5_rankOf 57 = .ok (.iinc 5 1, 3) := by decide +kernel
theorem dX5_rankOf_60 : decode cX5_rankOf 60 = .ok (.goto (-47), 3) := by decide +kernel
theorem dX5_rankOf_63 : decode cX5_rankOf 63 = .ok (.iload_n 3, 1) := by decide +kernel
theorem dX5_rankOf_64 : decode cX5_rankOf 64 = .ok (.ifCond .ne 7, 3) := by decide +kernel
theorem dX5_rankOf_67 : decode cX5_rankOf 67 = .ok (.iconst (-1), 1) := by decide +kernel
theorem dX5_rankOf_68 : decode cX5_rankOf 68 = .ok (.goto 5, 3) := by decide +kernel
theorem dX5_rankOf_71 : decode cX5_rankOf 71 = .ok (.iload 4, 2) := by decide +kernel
theorem dX5_rankOf_73 : decode cX5_rankOf 73 = .ok (.ireturn, 1) := by decide +kernel
set_option maxRecDepth 20000 in
theorem ggX5_total_X5_isTongue : GoodIn wsX5_total wsX5_isTongue := goodIn_r _ [6, 7, 8, 9, 5, 10, 22, 23, 24, 25, 26, 27, 28, 29, 30, 31, 32, 33, 34] (by decide +kernel) (by decide +kernel)
set_option maxRecDepth 20000 in
theorem gX5_total_X5_isTongue : GoodIn wsX5_total (wsV RX5 65 RX5 yX5_isTongue wsX5_isTongue) := goodIn_app (goodIn_of _ (by decide +kernel)) ggX5_total_X5_isTongue
set_option maxRecDepth 20000 in
theorem ggX5_total_X5_totalOf : GoodIn wsX5_total wsX5_totalOf := goodIn_r _ [14, 15, 16, 17, 22, 23, 24, 25, 26, 27, 28, 29, 30, 31, 32, 33, 34] (by decide +kernel) (by decide +kernel)
set_option maxRecDepth 20000 in
theorem gX5_total_X5_totalOf : GoodIn wsX5_total (wsV RX5 80 RX5 yX5_totalOf wsX5_totalOf) := goodIn_app (goodIn_of _ (by decide +kernel)) ggX5_total_X5_totalOf
set_option maxRecDepth 20000 in
theorem ggX5_total_X5_fails : GoodIn wsX5_total wsX5_fails := goodIn_r _ [21, 1, 22, 23, 24, 25, 26, 27, 28, 29, 30, 31, 32, 33, 34] (by decide +kernel) (by decide +kernel)
set_option maxRecDepth 20000 in
theorem gX5_total_X5_fails : GoodIn wsX5_total (wsV RX5 56 RX5 yX5_fails wsX5_fails) := goodIn_app (goodIn_of _ (by decide +kernel)) ggX5_total_X5_fails
theorem dX5_total_0 : decode cX5_total 0 = .ok (.aload_n 0, 1) := by decide +kernel
theorem dX5_total_1 : decode cX5_total 1 = .ok (.iconst 0, 1) := by decide +kernel
theorem dX5_total_2 : decode cX5_total 2 = .ok (.putfield 35, 3) := by decide +kernel
theorem dX5_total_5 : decode cX5_total 5 = .ok (.aload_n 0, 1) := by decide +kernel
theorem dX5_total_6 : decode cX5_total 6 = .ok (.iload_n 1, 1) := by decide +kernel
theorem dX5_total_7 : decode cX5_total 7 = .ok (.invokevirtual 65, 3) := by decide +kernel
theorem dX5_total_10 : decode cX5_total 10 = .ok (.ifCond .eq 11, 3) := by decide +kernel
theorem dX5_total_13 : decode cX5_total 13 = .ok (.aload_n 0, 1) := by decide +kernel
theorem dX5_total_14 : decode cX5_total 14 = .ok (.iload_n 1, 1) := by decide +kernel
theorem dX5_total_15 : decode cX5_total 15 = .ok (.invokevirtual 80, 3) := by decide +kernel
theorem dX5_total_18 : decode cX5_total 18 = .ok (.goto 8, 3) := by decide +kernel
theorem dX5_total_21 : decode cX5_total 21 = .ok (.aload_n 0, 1) := by decide +kernel
theorem dX5_total_22 : decode cX5_total 22 = .ok (.iconst 1, 1) := by decide +kernel
theorem dX5_total_23 : decode cX5_total 23 = .ok (.invokevirtual 56, 3) := by decide +kernel
theorem dX5_total_26 : decode cX5_total 26 = .ok (.ireturn, 1) := by decide +kernel
set_option maxRecDepth 20000 in
theorem ggX5_isRun_X5_isTongue : GoodIn wsX5_isRun wsX5_isTongue := goodIn_r _ [6, 7, 8, 9, 5, 10, 11, 12, 13, 14, 15, 16, 17, 18, 19, 20, 21, 22, 23] (by decide +kernel) (by decide +kernel)
set_option maxRecDepth 20000 in
theorem gX5_isRun_X5_isTongue : GoodIn wsX5_isRun (wsV RX5 65 RX5 yX5_isTongue wsX5_isTongue) := goodIn_app (goodIn_of _ (by decide +kernel)) ggX5_isRun_X5_isTongue
set_option maxRecDepth 20000 in
theorem ggX5_isRun_X5_in : GoodIn wsX5_isRun wsX5_in := goodIn_r _ [10] (by decide +kernel) (by decide +kernel)
set_option maxRecDepth 20000 in
theorem gX5_isRun_X5_in : GoodIn wsX5_isRun (va_wsS RX5 41 yX5_in wsX5_in) := goodIn_app (goodIn_of _ (by decide +kernel)) ggX5_isRun_X5_in
theorem dX5_isRun_0 : decode cX5_isRun 0 = .ok (.aload_n 0, 1) := by decide +kernel
theorem dX5_isRun_1 : decode cX5_isRun 1 = .ok (.aload_n 0, 1) := by decide +kernel
theorem dX5_isRun_2 : decode cX5_isRun 2 = .ok (.iload_n 1, 1) := by decide +kernel
theorem dX5_isRun_3 : decode cX5_isRun 3 = .ok (.invokevirtual 65, 3) := by decide +kernel
theorem dX5_isRun_6 : decode cX5_isRun 6 = .ok (.ifCond .eq 17, 3) := by decide +kernel
theorem dX5_isRun_9 : decode cX5_isRun 9 = .ok (.iload_n 2, 1) := by decide +kernel
theorem dX5_isRun_10 : decode cX5_isRun 10 = .ok (.iconst 0, 1) := by decide +kernel
theorem dX5_isRun_11 : decode cX5_isRun 11 = .ok (.bipush 35, 2) := by decide +kernel
theorem dX5_isRun_13 : decode cX5_isRun 13 = .ok (.invokestatic 41, 3) := by decide +kernel
theorem dX5_isRun_16 : decode cX5_isRun 16 = .ok (.ifCond .eq 7, 3) := by decide +kernel
theorem dX5_isRun_19 : decode cX5_isRun 19 = .ok (.iconst 0, 1) := by decide +kernel
theorem dX5_isRun_20 : decode cX5_isRun 20 = .ok (.goto 4, 3) := by decide +kernel
theorem dX5_isRun_23 : decode cX5_isRun 23 = .ok (.iconst 1, 1) := by decide +kernel
theorem dX5_isRun_24 : decode cX5_isRun 24 = .ok (.putfield 35, 3) := by decide +kernel
theorem dX5_isRun_27 : decode cX5_isRun 27 = .ok (.aload_n 0, 1) := by decide +kernel
theorem dX5_isRun_28 : decode cX5_isRun 28 = .ok (.getfield 35, 3) := by decide +kernel
theorem dX5_isRun_31 : decode cX5_isRun 31 = .ok (.ifCond .ne 7, 3) := by decide +kernel
theorem dX5_isRun_34 : decode cX5_isRun 34 = .ok (.iconst 1, 1) := by decide +kernel
theorem dX5_isRun_35 : decode cX5_isRun 35 = .ok (.goto 4, 3) := by decide +kernel
theorem dX5_isRun_38 : decode cX5_isRun 38 = .ok (.iconst 0, 1) := by decide +kernel
theorem dX5_isRun_39 : decode cX5_isRun 39 = .ok (.ireturn, 1) := by decide +kernel
set_option maxRecDepth 20000 in
theorem ggX5_count_X5_isRun : GoodIn wsX5_count wsX5_isRun := goodIn_r _ [5, 6, 7, 8, 9, 4, 10, 11, 12, 13, 14, 23, 24, 25, 26, 27, 28, 29, 30, 31, 32, 33, 34, 35] (by decide +kernel) (by decide +kernel)
set_option maxRecDepth 20000 in
theorem gX5_count_X5_isRun : GoodIn wsX5_count (wsV RX5 83 RX5 yX5_isRun wsX5_isRun) := goodIn_app (goodIn_of _ (by decide +kernel)) ggX5_count_X5_isRun
set_option maxRecDepth 20000 in
theorem ggX5_count_X5_countOf : GoodIn wsX5_count wsX5_countOf := goodIn_r _ [18, 19, 20, 21, 22, 23, 24, 25, 26, 27, 28, 29, 30, 31, 32, 33, 34, 35] (by decide +kernel) (by decide +kernel)
set_option maxRecDepth 20000 in
theorem gX5_count_X5_countOf : GoodIn wsX5_count (wsV RX5 76 RX5 yX5_countOf wsX5_countOf) := goodIn_app (goodIn_of _ (by decide +kernel)) ggX5_count_X5_countOf
theorem dX5_count_0 : decode cX5_count 0 = .ok (.aload_n 0, 1) := by decide +kernel
theorem dX5_count_1 : decode cX5_count 1 = .ok (.iload_n 1, 1) := by decide +kernel
theorem dX5_count_2 : decode cX5_count 2 = .ok (.iload_n 2, 1) := by decide +kernel
theorem dX5_count_3 : decode cX5_count 3 = .ok (.invokevirtual 83, 3) := by decide +kernel
theorem dX5_count_6 : decode cX5_count 6 = .ok (.ifCond .eq 12, 3) := by decide +kernel
theorem dX5_count_9 : decode cX5_count 9 = .ok (.aload_n 0, 1) := by decide +kernel
theorem dX5_count_10 : decode cX5_count 10 = .ok (.iload_n 1, 1) := by decide +kernel
theorem dX5_count_11 : decode cX5_count 11 = .ok (.iload_n 2, 1) := by decide +kernel
theorem dX5_count_12 : decode cX5_count 12 = .ok (.invokevirtual 76, 3) := by decide +kernel
theorem dX5_count_15 : decode cX5_count 15 = .ok (.goto 4, 3) := by decide +kernel
theorem dX5_count_18 : decode cX5_count 18 = .ok (.iconst 0, 1) := by decide +kernel
theorem dX5_count_19 : decode cX5_count 19 = .ok (.ireturn, 1) := by decide +kernel
set_option maxRecDepth 20000 in
theorem ggX5_cost_X5_isRun : GoodIn wsX5_cost wsX5_isRun := goodIn_r _ [5, 6, 7, 8, 9, 4, 10, 11, 12, 13, 14, 31, 32, 33, 34, 35, 36, 37, 38, 39, 40, 41, 42, 43] (by decide +kernel) (by decide +kernel)
set_option maxRecDepth 20000 in
theorem gX5_cost_X5_isRun : GoodIn wsX5_cost (wsV RX5 83 RX5 yX5_isRun wsX5_isRun) := goodIn_app (goodIn_of _ (by decide +kernel)) ggX5_cost_X5_isRun
set_option maxRecDepth 20000 in
theorem ggX5_cost_X5_costOf : GoodIn wsX5_cost wsX5_costOf := goodIn_r _ [18, 19, 20, 21, 4, 22, 23, 24, 25, 26, 27, 28, 29, 30, 31, 32, 33, 34, 35, 36, 37, 38, 39, 40, 41, 42, 43] (by decide +kernel) (by decide +kernel)
set_option maxRecDepth 20000 in
theorem gX5_cost_X5_costOf : GoodIn wsX5_cost (wsV RX5 87 RX5 yX5_costOf wsX5_costOf) := goodIn_app (goodIn_of _ (by decide +kernel)) ggX5_cost_X5_costOf
theorem dX5_cost_0 : decode cX5_cost 0 = .ok (.aload_n 0, 1) := by decide +kernel
theorem dX5_cost_1 : decode cX5_cost 1 = .ok (.iload_n 1, 1) := by decide +kernel
theorem dX5_cost_2 : decode cX5_cost 2 = .ok (.iload_n 2, 1) := by decide +kernel
theorem dX5_cost_3 : decode cX5_cost 3 = .ok (.invokevirtual 83, 3) := by decide +kernel
theorem dX5_cost_6 : decode cX5_cost 6 = .ok (.ifCond .eq 12, 3) := by decide +kernel
theorem dX5_cost_9 : decode cX5_cost 9 = .ok (.aload_n 0, 1) := by decide +kernel
theorem dX5_cost_10 : decode cX5_cost 10 = .ok (.iload_n 1, 1) := by decide +kernel
theorem dX5_cost_11 : decode cX5_cost 11 = .ok (.iload_n 2, 1) := by decide +kernel
theorem dX5_cost_12 : decode cX5_cost 12 = .ok (.invokevirtual 87, 3) := by decide +kernel
theorem dX5_cost_15 : decode cX5_cost 15 = .ok (.goto 4, 3) := by decide +kernel
theorem dX5_cost_18 : decode cX5_cost 18 = .ok (.iconst 0, 1) := by decide +kernel
theorem dX5_cost_19 : decode cX5_cost 19 = .ok (.ireturn, 1) := by decide +kernel
set_option maxRecDepth 20000 in
theorem ggX5_rank_X5_isRun : GoodIn wsX5_rank wsX5_isRun := goodIn_r _ [5, 6, 7, 8, 9, 4, 10, 11, 12, 13, 14, 27, 28, 29, 30, 31, 32, 33, 34, 35, 36, 37, 38, 39] (by decide +kernel) (by decide +kernel)
set_option maxRecDepth 20000 in
theorem gX5_rank_X5_isRun : GoodIn wsX5_rank (wsV RX5 83 RX5 yX5_isRun wsX5_isRun) := goodIn_app (goodIn_of _ (by decide +kernel)) ggX5_rank_X5_isRun
set_option maxRecDepth 20000 in
theorem ggX5_rank_X5_rankOf : GoodIn wsX5_rank wsX5_rankOf := goodIn_r _ [18, 19, 20, 21, 4, 22, 23, 24, 25, 26, 27, 28, 29, 30, 31, 32, 33, 34, 35, 36, 37, 38, 39] (by decide +kernel) (by decide +kernel)
set_option maxRecDepth 20000 in
theorem gX5_rank_X5_rankOf : GoodIn wsX5_rank (wsV RX5 90 RX5 yX5_rankOf wsX5_rankOf) := goodIn_app (goodIn_of _ (by decide +kernel)) ggX5_rank_X5_rankOf
theorem dX5_rank_0 : decode cX5_rank 0 = .ok (.aload_n 0, 1) := by decide +kernel
theorem dX5_rank_1 : decode cX5_rank 1 = .ok (.iload_n 1, 1) := by decide +kernel
theorem dX5_rank_2 : decode cX5_rank 2 = .ok (.iload_n 2, 1) := by decide +kernel
theorem dX5_rank_3 : decode cX5_rank 3 = .ok (.invokevirtual 83, 3) := by decide +kernel
theorem dX5_rank_6 : decode cX5_rank 6 = .ok (.ifCond .eq 12, 3) := by decide +kernel
theorem dX5_rank_9 : decode cX5_rank 9 = .ok (.aload_n 0, 1) := by decide +kernel
theorem dX5_rank_10 : decode cX5_rank 10 = .ok (.iload_n 1, 1) := by decide +kernel
theorem dX5_rank_11 : decode cX5_rank 11 = .ok (.iload_n 2, 1) := by decide +kernel
theorem dX5_rank_12 : decode cX5_rank 12 = .ok (.invokevirtual 90, 3) := by decide +kernel
theorem dX5_rank_15 : decode cX5_rank 15 = .ok (.goto 4, 3) := by decide +kernel
theorem dX5_rank_18 : decode cX5_rank 18 = .ok (.iconst 0, 1) := by decide +kernel
theorem dX5_rank_19 : decode cX5_rank 19 = .ok (.ireturn, 1) := by decide +kernel
set_option maxRecDepth 20000 in
theorem ggX5_costOfText_X5_runMany : GoodIn wsX5_costOfText wsX5_runMany := goodIn_r _ [5, 6, 28, 29, 30, 31, 32, 33, 34, 35, 36, 37, 38, 39, 40] (by decide +kernel) (by decide +kernel)
set_option maxRecDepth 20000 in
theorem gX5_costOfText_X5_runMany : GoodIn wsX5_costOfText (wsV RX5 48 RX5 yX5_runMany wsX5_runMany) := goodIn_app (goodIn_of _ (by decide +kernel)) ggX5_costOfText_X5_runMany
set_option maxRecDepth 20000 in
theorem ggX5_costOfText_X5_run : GoodIn wsX5_costOfText wsX5_run := goodIn_r _ [10, 11, 6, 28, 29, 30, 31, 32, 33, 34, 35, 36, 37, 38, 39, 40] (by decide +kernel) (by decide +kernel)
set_option maxRecDepth 20000 in
theorem gX5_costOfText_X5_run : GoodIn wsX5_costOfText (wsV RX5 52 RX5 yX5_run wsX5_run) := goodIn_app (goodIn_of _ (by decide +kernel)) ggX5_costOfText_X5_run
set_option maxRecDepth 20000 in
theorem ggX5_costOfText_X5_costOf : GoodIn wsX5_costOfText wsX5_costOf := goodIn_r _ [15, 16, 17, 18, 4, 19, 20, 21, 22, 23, 24, 25, 26, 27, 28, 29, 30, 31, 32, 33, 34, 35, 36, 37, 38, 39, 40] (by decide +kernel) (by decide +kernel)
set_option maxRecDepth 20000 in
theorem gX5_costOfText_X5_costOf : GoodIn wsX5_costOfText (wsV RX5 87 RX5 yX5_costOf wsX5_costOf) := goodIn_app (goodIn_of _ (by decide +kernel)) ggX5_costOfText_X5_costOf
theorem dX5_costOfText_0 : decode cX5_costOfText 0 = .ok (.iconst 0, 1) := by decide +kernel
theorem dX5_costOfText_1 : decode cX5_costOfText 1 = .ok (.istore_n 2, 1) := by decide +kernel
theorem dX5_costOfText_2 : decode cX5_costOfText 2 = .ok (.iconst 0, 1) := by decide +kernel
theorem dX5_costOfText_3 : decode cX5_costOfText 3 = .ok (.istore_n 3, 1) := by decide +kernel
theorem dX5_costOfText_4 : decode cX5_costOfText 4 = .ok (.iload_n 3, 1) := by decide +kernel
theorem dX5_costOfText_5 : decode cX5_costOfText 5 = .ok (.aload_n 0, 1) := by decide +kernel
theorem dX5_costOfText_6 : decode cX5_costOfText 6 = .ok (.invokevirtual 48, 3) := by decide +kernel
theorem dX5_costOfText_9 : decode cX5_costOfText 9 = .ok (.if_icmp .ge 22, 3) := by decide +kernel
theorem dX5_costOfText_12 : decode cX5_costOfText 12 = .ok (.iload_n 2, 1) := by decide +kernel
theorem dX5_costOfText_13 : decode cX5_costOfText 13 = .ok (.aload_n 0, 1) := by decide +kernel
theorem dX5_costOfText_14 : decode cX5_costOfText 14 = .ok (.iload_n 1, 1) := by decide +kernel
theorem dX5_costOfText_15 : decode cX5_costOfText 15 = .ok (.aload_n 0, 1) := by decide +kernel
theorem dX5_costOfText_16 : decode cX5_costOfText 16 = .ok (.iload_n 3, 1) := by decide +kernel
theorem dX5_costOfText_17 : decode cX5_costOfText 17 = .ok (.invokevirtual 52, 3) := by decide +kernel
theorem dX5_costOfText_20 : decode cX5_costOfText 20 = .ok (.invokevirtual 87, 3) := by decide +kernel
theorem dX5_costOfText_23 : decode cX5_costOfText 23 = .ok (.iadd, 1) := by decide +kernel
theorem dX5_costOfText_24 : decode cX5_costOfText 24 = .ok (.istore_n 2, 1) := by decide +kernel
theorem dX5_costOfText_25 : decode cX5_costOfText 25 = .ok (.iinc 3 1, 3) := by decide +kernel
theorem dX5_costOfText_28 : decode cX5_costOfText 28 = .ok (.goto (-24), 3) := by decide +kernel
theorem dX5_costOfText_31 : decode cX5_costOfText 31 = .ok (.iload_n 2, 1) := by decide +kernel
theorem dX5_costOfText_32 : decode cX5_costOfText 32 = .ok (.ireturn, 1) := by decide +kernel
set_option maxRecDepth 20000 in
theorem ggX5_inText_X5_runMany : GoodIn wsX5_inText wsX5_runMany := goodIn_r _ [5, 6, 12, 13, 14, 15, 16, 17, 18, 19, 20, 21, 22, 23, 24] (by decide +kernel) (by decide +kernel)
set_option maxRecDepth 20000 in
theorem gX5_inText_X5_runMany : GoodIn wsX5_inText (wsV RX5 48 RX5 yX5_runMany wsX5_runMany) := goodIn_app (goodIn_of _ (by decide +kernel)) ggX5_inText_X5_runMany
set_option maxRecDepth 20000 in
theorem ggX5_inText_X5_run : GoodIn wsX5_inText wsX5_run := goodIn_r _ [10, 11, 6, 12, 13, 14, 15, 16, 17, 18, 19, 20, 21, 22, 23, 24] (by decide +kernel) (by decide +kernel)
set_option maxRecDepth 20000 in
theorem gX5_inText_X5_run : GoodIn wsX5_inText (wsV RX5 52 RX5 yX5_run wsX5_run) := goodIn_app (goodIn_of _ (by decide +kernel)) ggX5_inText_X5_run
theorem dX5_inText_0 : decode cX5_inText 0 = .ok (.iconst 0, 1) := by decide +kernel
theorem dX5_inText_1 : decode cX5_inText 1 = .ok (.istore_n 2, 1) := by decide +kernel
theorem dX5_inText_2 : decode cX5_inText 2 = .ok (.iconst 0, 1) := by decide +kernel
theorem dX5_inText_3 : decode cX5_inText 3 = .ok (.istore_n 3, 1) := by decide +kernel
theorem dX5_inText_4 : decode cX5_inText 4 = .ok (.iload_n 3, 1) := by decide +kernel
theorem dX5_inText_5 : decode cX5_inText 5 = .ok (.aload_n 0, 1) := by decide +kernel
theorem dX5_inText_6 : decode cX5_inText 6 = .ok (.invokevirtual 48, 3) := by decide +kernel
theorem dX5_inText_9 : decode cX5_inText 9 = .ok (.if_icmp .ge 26, 3) := by decide +kernel
theorem dX5_inText_12 : decode cX5_inText 12 = .ok (.iload_n 2, 1) := by decide +kernel
theorem dX5_inText_13 : decode cX5_inText 13 = .ok (.aload_n 0, 1) := by decide +kernel
theorem dX5_inText_14 : decode cX5_inText 14 = .ok (.iload_n 3, 1) := by decide +kernel
theorem dX5_inText_15 : decode cX5_inText 15 = .ok (.invokevirtual 52, 3) := by decide +kernel
theorem dX5_inText_18 : decode cX5_inText 18 = .ok (.iload_n 1, 1) := by decide +kernel
theorem dX5_inText_19 : decode cX5_inText 19 = .ok (.if_icmp .ne 7, 3) := by decide +kernel
theorem dX5_inText_22 : decode cX5_inText 22 = .ok (.iconst 1, 1) := by decide +kernel
theorem dX5_inText_23 : decode cX5_inText 23 = .ok (.goto 4, 3) := by decide +kernel
theorem dX5_inText_26 : decode cX5_inText 26 = .ok (.iconst 0, 1) := by decide +kernel
theorem dX5_inText_27 : decode cX5_inText 27 = .ok (.iadd, 1) := by decide +kernel
theorem dX5_inText_28 : decode cX5_inText 28 = .ok (.istore_n 2, 1) := by decide +kernel
theorem dX5_inText_29 : decode cX5_inText 29 = .ok (.iinc 3 1, 3) := by decide +kernel
theorem dX5_inText_32 : decode cX5_inText 32 = .ok (.goto (-28), 3) := by decide +kernel
theorem dX5_inText_35 : decode cX5_inText 35 = .ok (.iload_n 2, 1) := by decide +kernel
theorem dX5_inText_36 : decode cX5_inText 36 = .ok (.ireturn, 1) := by decide +kernel
set_option maxRecDepth 20000 in
theorem ggX5_distanceOf_X5_runMany : GoodIn wsX5_distanceOf wsX5_runMany := goodIn_r _ [5, 6, 28, 29, 30, 31, 32, 33, 34, 35, 36, 37, 38, 39, 40] (by decide +kernel) (by decide +kernel)
set_option maxRecDepth 20000 in
theorem gX5_distanceOf_X5_runMany : GoodIn wsX5_distanceOf (wsV RX5 48 RX5 yX5_runMany wsX5_runMany) := goodIn_app (goodIn_of _ (by decide +kernel)) ggX5_distanceOf_X5_runMany
set_option maxRecDepth 20000 in
theorem ggX5_distanceOf_X5_inText : GoodIn wsX5_distanceOf wsX5_inText := goodIn_r _ [10, 1, 2, 3, 4, 5, 6, 11, 12, 13, 14, 15, 28, 29, 30, 31, 32, 33, 34, 35, 36, 37, 38, 39, 40] (by decide +kernel) (by decide +kernel)
set_option maxRecDepth 20000 in
theorem gX5_distanceOf_X5_inText : GoodIn wsX5_distanceOf (wsV RX5 93 RX5 yX5_inText wsX5_inText) := goodIn_app (goodIn_of _ (by decide +kernel)) ggX5_distanceOf_X5_inText
set_option maxRecDepth 20000 in
theorem ggX5_distanceOf_X5_rankOf : GoodIn wsX5_distanceOf wsX5_rankOf := goodIn_r _ [19, 20, 21, 22, 4, 23, 24, 25, 26, 27, 28, 29, 30, 31, 32, 33, 34, 35, 36, 37, 38, 39, 40] (by decide +kernel) (by decide +kernel)
set_option maxRecDepth 20000 in
theorem gX5_distanceOf_X5_rankOf : GoodIn wsX5_distanceOf (wsV RX5 90 RX5 yX5_rankOf wsX5_rankOf) := goodIn_app (goodIn_of _ (by decide +kernel)) ggX5_distanceOf_X5_rankOf
theorem dX5_distanceOf_0 : decode cX5_distanceOf 0 = .ok (.iconst 0, 1) := by decide +kernel
theorem dX5_distanceOf_1 : decode cX5_distanceOf 1 = .ok (.istore_n 2, 1) := by decide +kernel
theorem dX5_distanceOf_2 : decode cX5_distanceOf 2 = .ok (.iconst 0, 1) := by decide +kernel
theorem dX5_distanceOf_3 : decode cX5_distanceOf 3 = .ok (.istore_n 3, 1) := by decide +kernel
theorem dX5_distanceOf_4 : decode cX5_distanceOf 4 = .ok (.aload_n 0, 1) := by decide +kernel
theorem dX5_distanceOf_5 : decode cX5_distanceOf 5 = .ok (.invokevirtual 48, 3) := by decide +kernel
theorem dX5_distanceOf_8 : decode cX5_distanceOf 8 = .ok (.istore 4, 2) := by decide +kernel
theorem dX5_distanceOf_10 : decode cX5_distanceOf 10 = .ok (.iload 4, 2) := by decide +kernel
theorem dX5_distanceOf_12 : decode cX5_distanceOf 12 = .ok (.ifCond .le 83, 3) := by decide +kernel
theorem dX5_distanceOf_15 : decode cX5_distanceOf 15 = .ok (.iconst 0, 1) := by decide +kernel
theorem dX5_distanceOf_16 : decode cX5_distanceOf 16 = .ok (.istore 5, 2) := by decide +kernel
theorem dX5_distanceOf_18 : decode cX5_distanceOf 18 = .ok (.iload 5, 2) := by decide +kernel
theorem dX5_distanceOf_20 : decode cX5_distanceOf 20 = .ok (.bipush 36, 2) := by decide +kernel
theorem dX5_distanceOf_22 : decode cX5_distanceOf 22 = .ok (.if_icmp .ge 67, 3) := by decide +kernel
theorem dX5_distanceOf_25 : decode cX5_distanceOf 25 = .ok (.aload_n 0, 1) := by decide +kernel
theorem dX5_distanceOf_26 : decode cX5_distanceOf 26 = .ok (.iload 5, 2) := by decide +kernel
theorem dX5_distanceOf_28 : decode cX5_distanceOf 28 = .ok (.invokevirtual 93, 3) := by decide +kernel
theorem dX5_distanceOf_31 : decode cX5_distanceOf 31 = .ok (.iload 4, 2) := by decide +kernel
theorem dX5_distanceOf_33 : decode cX5_distanceOf 33 = .ok (.if_icmp .ne 50, 3) := by decide +kernel
theorem dX5_distanceOf_36 : decode cX5_distanceOf 36 = .ok (.aload_n 0, 1) := by decide +kernel
theorem dX5_distanceOf_37 : decode cX5_distanceOf 37 = .ok (.iload_n 1, 1) := by decide +kernel
theorem dX5_distanceOf_38 : decode cX5_distanceOf 38 = .ok (.iload 5, 2) := by decide +kernel
theorem dX5_distanceOf_40 : decode cX5_distanceOf 40 = .ok (.invokevirtual 90, 3) := by decide +kernel
theorem dX5_distanceOf_43 : decode cX5_distanceOf 43 = .ok (.istore 6, 2) := by decide +kernel
theorem dX5_distanceOf_45 : decode cX5_distanceOf 45 = .ok (.iload 6, 2) := by decide +kernel
theorem dX5_distanceOf_47 : decode cX5_distanceOf 47 = .ok (.iload_n 3, 1) := by decide +kernel
theorem dX5_distanceOf_48 : decode cX5_distanceOf 48 = .ok (.if_icmp .le 10, 3) := by decide +kernel
theorem dX5_distanceOf_51 : decode cX5_distanceOf 51 = .ok (.iload 6, 2) := by decide +kernel
theorem dX5_distanceOf_53 : decode cX5_distanceOf 53 = .ok (.iload_n 3, 1) := by decide +kernel
theorem dX5_distanceOf_54 : decode cX5_distanceOf 54 = .ok (.isub, 1) := by decide +kernel
theorem dX5_distanceOf_55 : decode cX5_distanceOf 55 = .ok (.goto 7, 3) := by decide +kernel
theorem dX5_distanceOf_58 : decode cX5_distanceOf 58 = .ok (.iload_n 3, 1) := by decide +kernel
theorem dX5_distanceOf_59 : decode cX5_distanceOf 59 = .ok (.iload 6, 2) := by decide +kernel
theorem dX5_distanceOf_61 : decode cX5_distanceOf 61 = .ok (.isub, 1) := by decide +kernel
theorem dX5_distanceOf_62 : decode cX5_distanceOf 62 = .ok (.istore 7, 2) := by decide +kernel
theorem dX5_distanceOf_64 : decode cX5_distanceOf 64 = .ok (.iload_n 2, 1) := by decide +kernel
theorem dX5_distanceOf_65 : decode cX5_distanceOf 65 = .ok (.iload 6, 2) := by decide +kernel
theorem dX5_distanceOf_67 : decode cX5_distanceOf 67 = .ok (.iconst (-1), 1) := by decide +kernel
theorem dX5_distanceOf_68 : decode cX5_distanceOf 68 = .ok (.if_icmp .ne 8, 3) := by decide +kernel
theorem dX5_distanceOf_71 : decode cX5_distanceOf 71 = .ok (.bipush 36, 2) := by decide +kernel
theorem dX5_distanceOf_73 : decode cX5_distanceOf 73 = .ok (.goto 5, 3) := by decide +kernel
theorem dX5_distanceOf_76 : decode cX5_distanceOf 76 = .ok (.iload 7, 2) := by decide +kernel
theorem dX5_distanceOf_78 : decode cX5_distanceOf 78 = .ok (.iadd, 1) := by decide +kernel
theorem dX5_distanceOf_79 : decode cX5_distanceOf 79 = .ok (.istore_n 2, 1) := by decide +kernel
theorem dX5_distanceOf_80 : decode cX5_distanceOf 80 = .ok (.iinc 3 1, 3) := by decide +kernel
theorem dX5_distanceOf_83 : decode cX5_distanceOf 83 = .ok (.iinc 5 1, 3) := by decide +kernel
theorem dX5_distanceOf_86 : decode cX5_distanceOf 86 = .ok (.goto (-68), 3) := by decide +kernel
theorem dX5_distanceOf_89 : decode cX5_distanceOf 89 = .ok (.iinc 4 (-1), 3) := by decide +kernel
theorem dX5_distanceOf_92 : decode cX5_distanceOf 92 = .ok (.goto (-82), 3) := by decide +kernel
theorem dX5_distanceOf_95 : decode cX5_distanceOf 95 = .ok (.iload_n 2, 1) := by decide +kernel
theorem dX5_distanceOf_96 : decode cX5_distanceOf 96 = .ok (.ireturn, 1) := by decide +kernel
set_option maxRecDepth 20000 in
theorem ggX5_textCost_X5_isTongue : GoodIn wsX5_textCost wsX5_isTongue := goodIn_r _ [6, 7, 8, 9, 5, 10, 41, 42, 43, 44, 45, 46, 47, 48, 49, 50, 51, 52, 53] (by decide +kernel) (by decide +kernel)
set_option maxRecDepth 20000 in
theorem gX5_textCost_X5_isTongue : GoodIn wsX5_textCost (wsV RX5 65 RX5 yX5_isTongue wsX5_isTongue) := goodIn_app (goodIn_of _ (by decide +kernel)) ggX5_textCost_X5_isTongue
set_option maxRecDepth 20000 in
theorem ggX5_textCost_X5_costOfText : GoodIn wsX5_textCost wsX5_costOfText := goodIn_r _ [14, 15, 16, 17, 5, 18, 19, 20, 21, 22, 23, 24, 25, 26, 27, 28, 29, 30, 31, 32, 33, 34, 35, 36, 37, 38, 39, 40, 41, 42, 43, 44, 45, 46, 47, 48, 49, 50, 51, 52, 53] (by decide +kernel) (by decide +kernel)
set_option maxRecDepth 20000 in
theorem gX5_textCost_X5_costOfText : GoodIn wsX5_textCost (wsV RX5 96 RX5 yX5_costOfText wsX5_costOfText) := goodIn_app (goodIn_of _ (by decide +kernel)) ggX5_textCost_X5_costOfText
theorem dX5_textCost_0 : decode cX5_textCost 0 = .ok (.aload_n 0, 1) := by decide +kernel
theorem dX5_textCost_1 : decode cX5_textCost 1 = .ok (.aload_n 0, 1) := by decide +kernel
theorem dX5_textCost_2 : decode cX5_textCost 2 = .ok (.iload_n 1, 1) := by decide +kernel
theorem dX5_textCost_3 : decode cX5_textCost 3 = .ok (.invokevirtual 65, 3) := by decide +kernel
theorem dX5_textCost_6 : decode cX5_textCost 6 = .ok (.ifCond .eq 7, 3) := by decide +kernel
theorem dX5_textCost_9 : decode cX5_textCost 9 = .ok (.iconst 0, 1) := by decide +kernel
theorem dX5_textCost_10 : decode cX5_textCost 10 = .ok (.goto 4, 3) := by decide +kernel
theorem dX5_textCost_13 : decode cX5_textCost 13 = .ok (.iconst 1, 1) := by decide +kernel
theorem dX5_textCost_14 : decode cX5_textCost 14 = .ok (.putfield 35, 3) := by decide +kernel
theorem dX5_textCost_17 : decode cX5_textCost 17 = .ok (.aload_n 0, 1) := by decide +kernel
theorem dX5_textCost_18 : decode cX5_textCost 18 = .ok (.getfield 35, 3) := by decide +kernel
theorem dX5_textCost_21 : decode cX5_textCost 21 = .ok (.ifCond .le 7, 3) := by decide +kernel
theorem dX5_textCost_24 : decode cX5_textCost 24 = .ok (.iconst 0, 1) := by decide +kernel
theorem dX5_textCost_25 : decode cX5_textCost 25 = .ok (.goto 8, 3) := by decide +kernel
theorem dX5_textCost_28 : decode cX5_textCost 28 = .ok (.aload_n 0, 1) := by decide +kernel
theorem dX5_textCost_29 : decode cX5_textCost 29 = .ok (.iload_n 1, 1) := by decide +kernel
theorem dX5_textCost_30 : decode cX5_textCost 30 = .ok (.invokevirtual 96, 3) := by decide +kernel
theorem dX5_textCost_33 : decode cX5_textCost 33 = .ok (.ireturn, 1) := by decide +kernel
set_option maxRecDepth 20000 in
theorem ggX5_distance_X5_isTongue : GoodIn wsX5_distance wsX5_isTongue := goodIn_r _ [6, 7, 8, 9, 5, 10, 41, 42, 43, 44, 45, 46, 47, 48, 49, 50, 51, 52, 53] (by decide +kernel) (by decide +kernel)
set_option maxRecDepth 20000 in
theorem gX5_distance_X5_isTongue : GoodIn wsX5_distance (wsV RX5 65 RX5 yX5_isTongue wsX5_isTongue) := goodIn_app (goodIn_of _ (by decide +kernel)) ggX5_distance_X5_isTongue
set_option maxRecDepth 20000 in
theorem ggX5_distance_X5_distanceOf : GoodIn wsX5_distance wsX5_distanceOf := goodIn_r _ [14, 15, 16, 17, 5, 18, 19, 20, 21, 22, 23, 24, 25, 26, 27, 28, 29, 30, 31, 32, 33, 34, 35, 36, 37, 38, 39, 40, 41, 42, 43, 44, 45, 46, 47, 48, 49, 50, 51, 52, 53] (by decide +kernel) (by decide +kernel)
set_option maxRecDepth 20000 in
theorem gX5_distance_X5_distanceOf : GoodIn wsX5_distance (wsV RX5 99 RX5 yX5_distanceOf wsX5_distanceOf) := goodIn_app (goodIn_of _ (by decide +kernel)) ggX5_distance_X5_distanceOf
theorem dX5_distance_0 : decode cX5_distance 0 = .ok (.aload_n 0, 1) := by decide +kernel
theorem dX5_distance_1 : decode cX5_distance 1 = .ok (.aload_n 0, 1) := by decide +kernel
theorem dX5_distance_2 : decode cX5_distance 2 = .ok (.iload_n 1, 1) := by decide +kernel
theorem dX5_distance_3 : decode cX5_distance 3 = .ok (.invokevirtual 65, 3) := by decide +kernel
theorem dX5_distance_6 : decode cX5_distance 6 = .ok (.ifCond .eq 7, 3) := by decide +kernel
theorem dX5_distance_9 : decode cX5_distance 9 = .ok (.iconst 0, 1) := by decide +kernel
theorem dX5_distance_10 : decode cX5_distance 10 = .ok (.goto 4, 3) := by decide +kernel
theorem dX5_distance_13 : decode cX5_distance 13 = .ok (.iconst 1, 1) := by decide +kernel
theorem dX5_distance_14 : decode cX5_distance 14 = .ok (.putfield 35, 3) := by decide +kernel
theorem dX5_distance_17 : decode cX5_distance 17 = .ok (.aload_n 0, 1) := by decide +kernel
theorem dX5_distance_18 : decode cX5_distance 18 = .ok (.getfield 35, 3) := by decide +kernel
theorem dX5_distance_21 : decode cX5_distance 21 = .ok (.ifCond .le 7, 3) := by decide +kernel
theorem dX5_distance_24 : decode cX5_distance 24 = .ok (.iconst 0, 1) := by decide +kernel
theorem dX5_distance_25 : decode cX5_distance 25 = .ok (.goto 8, 3) := by decide +kernel
theorem dX5_distance_28 : decode cX5_distance 28 = .ok (.aload_n 0, 1) := by decide +kernel
theorem dX5_distance_29 : decode cX5_distance 29 = .ok (.iload_n 1, 1) := by decide +kernel
theorem dX5_distance_30 : decode cX5_distance 30 = .ok (.invokevirtual 99, 3) := by decide +kernel
theorem dX5_distance_33 : decode cX5_distance 33 = .ok (.ireturn, 1) := by decide +kernel
set_option maxRecDepth 20000 in
theorem ggX5_setMargin_X5_in : GoodIn wsX5_setMargin wsX5_in := goodIn_r _ [6] (by decide +kernel) (by decide +kernel)
set_option maxRecDepth 20000 in
theorem gX5_setMargin_X5_in : GoodIn wsX5_setMargin (va_wsS RX5 41 yX5_in wsX5_in) := goodIn_app (goodIn_of _ (by decide +kernel)) ggX5_setMargin_X5_in
theorem dX5_setMargin_0 : decode cX5_setMargin 0 = .ok (.aload_n 0, 1) := by decide +kernel
theorem dX5_setMargin_1 : decode cX5_setMargin 1 = .ok (.iload_n 1, 1) := by decide +kernel
theorem dX5_setMargin_2 : decode cX5_setMargin 2 = .ok (.iconst 0, 1) := by decide +kernel
theorem dX5_setMargin_3 : decode cX5_setMargin 3 = .ok (.bipush 100, 2) := by decide +kernel
theorem dX5_setMargin_5 : decode cX5_setMargin 5 = .ok (.invokestatic 41, 3) := by decide +kernel
theorem dX5_setMargin_8 : decode cX5_setMargin 8 = .ok (.ifCond .eq 7, 3) := by decide +kernel
theorem dX5_setMargin_11 : decode cX5_setMargin 11 = .ok (.iconst 0, 1) := by decide +kernel
theorem dX5_setMargin_12 : decode cX5_setMargin 12 = .ok (.goto 4, 3) := by decide +kernel
theorem dX5_setMargin_15 : decode cX5_setMargin 15 = .ok (.iconst 1, 1) := by decide +kernel
theorem dX5_setMargin_16 : decode cX5_setMargin 16 = .ok (.putfield 35, 3) := by decide +kernel
theorem dX5_setMargin_19 : decode cX5_setMargin 19 = .ok (.aload_n 0, 1) := by decide +kernel
theorem dX5_setMargin_20 : decode cX5_setMargin 20 = .ok (.getfield 35, 3) := by decide +kernel
theorem dX5_setMargin_23 : decode cX5_setMargin 23 = .ok (.ifCond .le 5, 3) := by decide +kernel
theorem dX5_setMargin_26 : decode cX5_setMargin 26 = .ok (.iconst 0, 1) := by decide +kernel
theorem dX5_setMargin_27 : decode cX5_setMargin 27 = .ok (.ireturn, 1) := by decide +kernel
theorem dX5_setMargin_28 : decode cX5_setMargin 28 = .ok (.aload_n 0, 1) := by decide +kernel
theorem dX5_setMargin_29 : decode cX5_setMargin 29 = .ok (.getfield 13, 3) := by decide +kernel
theorem dX5_setMargin_32 : decode cX5_setMargin 32 = .ok (.istore_n 2, 1) := by decide +kernel
theorem dX5_setMargin_33 : decode cX5_setMargin 33 = .ok (.aload_n 0, 1) := by decide +kernel
theorem dX5_setMargin_34 : decode cX5_setMargin 34 = .ok (.iload_n 1, 1) := by decide +kernel
theorem dX5_setMargin_35 : decode cX5_setMargin 35 = .ok (.putfield 13, 3) := by decide +kernel
theorem dX5_setMargin_38 : decode cX5_setMargin 38 = .ok (.iload_n 2, 1) := by decide +kernel
theorem dX5_setMargin_39 : decode cX5_setMargin 39 = .ok (.ireturn, 1) := by decide +kernel
set_option maxRecDepth 20000 in
theorem ggX5_tell_X5_costOfText : GoodIn wsX5_tell wsX5_costOfText := goodIn_r _ [9, 10, 11, 12, 8, 13, 3, 14, 15, 16, 17, 18, 19, 20, 21, 22, 23, 24, 25, 26, 27, 28, 29, 30, 31, 32, 33, 34, 35, 36, 37, 38, 39, 40, 41, 42, 43, 44, 45, 46, 47] (by decide +kernel) (by decide +kernel)
set_option maxRecDepth 20000 in
theorem gX5_tell_X5_costOfText : GoodIn wsX5_tell (wsV RX5 96 RX5 yX5_costOfText wsX5_costOfText) := goodIn_app (goodIn_of _ (by decide +kernel)) ggX5_tell_X5_costOfText
theorem dX5_tell_0 : decode cX5_tell 0 = .ok (.aload_n 0, 1) := by decide +kernel
theorem dX5_tell_1 : decode cX5_tell 1 = .ok (.iconst 0, 1) := by decide +kernel
theorem dX5_tell_2 : decode cX5_tell 2 = .ok (.putfield 35, 3) := by decide +kernel
theorem dX5_tell_5 : decode cX5_tell 5 = .ok (.iconst (-1), 1) := by decide +kernel
theorem dX5_tell_6 : decode cX5_tell 6 = .ok (.istore_n 1, 1) := by decide +kernel
theorem dX5_tell_7 : decode cX5_tell 7 = .ok (.aload_n 0, 1) := by decide +kernel
theorem dX5_tell_8 : decode cX5_tell 8 = .ok (.getfield 38, 3) := by decide +kernel
theorem dX5_tell_11 : decode cX5_tell 11 = .ok (.iconst 1, 1) := by decide +kernel
theorem dX5_tell_12 : decode cX5_tell 12 = .ok (.isub, 1) := by decide +kernel
theorem dX5_tell_13 : decode cX5_tell 13 = .ok (.istore_n 2, 1) := by decide +kernel
theorem dX5_tell_14 : decode cX5_tell 14 = .ok (.iload_n 2, 1) := by decide +kernel
theorem dX5_tell_15 : decode cX5_tell 15 = .ok (.ifCond .lt 33, 3) := by decide +kernel
theorem dX5_tell_18 : decode cX5_tell 18 = .ok (.iload_n 1, 1) := by decide +kernel
theorem dX5_tell_19 : decode cX5_tell 19 = .ok (.iconst (-1), 1) := by decide +kernel
theorem dX5_tell_20 : decode cX5_tell 20 = .ok (.if_icmp .eq 16, 3) := by decide +kernel
theorem dX5_tell_23 : decode cX5_tell 23 = .ok (.aload_n 0, 1) := by decide +kernel
theorem dX5_tell_24 : decode cX5_tell 24 = .ok (.iload_n 2, 1) := by decide +kernel
theorem dX5_tell_25 : decode cX5_tell 25 = .ok (.invokevirtual 96, 3) := by decide +kernel
theorem dX5_tell_28 : decode cX5_tell 28 = .ok (.aload_n 0, 1) := by decide +kernel
theorem dX5_tell_29 : decode cX5_tell 29 = .ok (.iload_n 1, 1) := by decide +kernel
theorem dX5_tell_30 : decode cX5_tell 30 = .ok (.invokevirtual 96, 3) := by decide +kernel
theorem dX5_tell_33 : decode cX5_tell 33 = .ok (.if_icmp .gt 7, 3) := by decide +kernel
theorem dX5_tell_36 : decode cX5_tell 36 = .ok (.iload_n 2, 1) := by decide +kernel
theorem dX5_tell_37 : decode cX5_tell 37 = .ok (.goto 4, 3) := by decide +kernel
theorem dX5_tell_40 : decode cX5_tell 40 = .ok (.iload_n 1, 1) := by decide +kernel
theorem dX5_tell_41 : decode cX5_tell 41 = .ok (.istore_n 1, 1) := by decide +kernel
theorem dX5_tell_42 : decode cX5_tell 42 = .ok (.iinc 2 (-1), 3) := by decide +kernel
theorem dX5_tell_45 : decode cX5_tell 45 = .ok (.goto (-31), 3) := by decide +kernel
theorem dX5_tell_48 : decode cX5_tell 48 = .ok (.aload_n 0, 1) := by decide +kernel
theorem dX5_tell_49 : decode cX5_tell 49 = .ok (.getfield 45, 3) := by decide +kernel
theorem dX5_tell_52 : decode cX5_tell 52 = .ok (.iconst 4, 1) := by decide +kernel
theorem dX5_tell_53 : decode cX5_tell 53 = .ok (.if_icmp .lt 7, 3) := by decide +kernel
theorem dX5_tell_56 : decode cX5_tell 56 = .ok (.iconst 1, 1) := by decide +kernel
theorem dX5_tell_57 : decode cX5_tell 57 = .ok (.goto 4, 3) := by decide +kernel
theorem dX5_tell_60 : decode cX5_tell 60 = .ok (.iconst 0, 1) := by decide +kernel
theorem dX5_tell_61 : decode cX5_tell 61 = .ok (.istore_n 2, 1) := by decide +kernel
theorem dX5_tell_62 : decode cX5_tell 62 = .ok (.iconst 0, 1) := by decide +kernel
theorem dX5_tell_63 : decode cX5_tell 63 = .ok (.istore_n 3, 1) := by decide +kernel
theorem dX5_tell_64 : decode cX5_tell 64 = .ok (.iload_n 3, 1) := by decide +kernel
theorem dX5_tell_65 : decode cX5_tell 65 = .ok (.aload_n 0, 1) := by decide +kernel
theorem dX5_tell_66 : decode cX5_tell 66 = .ok (.getfield 38, 3) := by decide +kernel
theorem dX5_tell_69 : decode cX5_tell 69 = .ok (.if_icmp .ge 42, 3) := by decide +kernel
theorem dX5_tell_72 : decode cX5_tell 72 = .ok (.iload_n 2, 1) := by decide +kernel
theorem dX5_tell_73 : decode cX5_tell 73 = .ok (.ifCond .eq 30, 3) := by decide +kernel
theorem dX5_tell_76 : decode cX5_tell 76 = .ok (.iload_n 3, 1) := by decide +kernel
theorem dX5_tell_77 : decode cX5_tell 77 = .ok (.iload_n 1, 1) := by decide +kernel
theorem dX5_tell_78 : decode cX5_tell 78 = .ok (.if_icmp .eq 21, 3) := by decide +kernel
theorem dX5_tell_81 : decode cX5_tell 81 = .ok (.aload_n 0, 1) := by decide +kernel
theorem dX5_tell_82 : decode cX5_tell 82 = .ok (.iload_n 3, 1) := by decide +kernel
theorem dX5_tell_83 : decode cX5_tell 83 = .ok (.invokevirtual 96, 3) := by decide +kernel
theorem dX5_tell_86 : decode cX5_tell 86 = .ok (.aload_n 0, 1) := by decide +kernel
theorem dX5_tell_87 : decode cX5_tell 87 = .ok (.iload_n 1, 1) := by decide +kernel
theorem dX5_tell_88 : decode cX5_tell 88 = .ok (.invokevirtual 96, 3) := by decide +kernel
theorem dX5_tell_91 : decode cX5_tell 91 = .ok (.aload_n 0, 1) := by decide +kernel
theorem dX5_tell_92 : decode cX5_tell 92 = .ok (.getfield 13, 3) := by decide +kernel
theorem dX5_tell_95 : decode cX5_tell 95 = .ok (.iadd, 1) := by decide +kernel
theorem dX5_tell_96 : decode cX5_tell 96 = .ok (.if_icmp .lt 7, 3) := by decide +kernel
theorem dX5_tell_99 : decode cX5_tell 99 = .ok (.iconst 1, 1) := by decide +kernel
theorem dX5_tell_100 : decode cX5_tell 100 = .ok (.goto 4, 3) := by decide +kernel
theorem dX5_tell_103 : decode cX5_tell 103 = .ok (.iconst 0, 1) := by decide +kernel
theorem dX5_tell_104 : decode cX5_tell 104 = .ok (.istore_n 2, 1) := by decide +kernel
theorem dX5_tell_105 : decode cX5_tell 105 = .ok (.iinc 3 1, 3) := by decide +kernel
theorem dX5_tell_108 : decode cX5_tell 108 = .ok (.goto (-44), 3) := by decide +kernel
theorem dX5_tell_111 : decode cX5_tell 111 = .ok (.iload_n 2, 1) := by decide +kernel
theorem dX5_tell_112 : decode cX5_tell 112 = .ok (.ifCond .eq 7, 3) := by decide +kernel
theorem dX5_tell_115 : decode cX5_tell 115 = .ok (.iload_n 1, 1) := by decide +kernel
theorem dX5_tell_116 : decode cX5_tell 116 = .ok (.goto 4, 3) := by decide +kernel
theorem dX5_tell_119 : decode cX5_tell 119 = .ok (.iconst (-1), 1) := by decide +kernel
theorem dX5_tell_120 : decode cX5_tell 120 = .ok (.ireturn, 1) := by decide +kernel
set_option maxRecDepth 20000 in
theorem ggX5_tellByRanks_X5_distanceOf : GoodIn wsX5_tellByRanks wsX5_distanceOf := goodIn_r _ [8, 9, 10, 11, 7, 12, 3, 13, 14, 15, 16, 17, 18, 19, 20, 21, 22, 23, 24, 25, 26, 27, 28, 29, 30, 31, 32, 33, 34, 35, 36, 37, 38, 39, 40, 41, 42, 43, 44, 45, 46] (by decide +kernel) (by decide +kernel)
set_option maxRecDepth 20000 in
theorem gX5_tellByRanks_X5_distanceOf : GoodIn wsX5_tellByRanks (wsV RX5 99 RX5 yX5_distanceOf wsX5_distanceOf) := goodIn_app (goodIn_of _ (by decide +kernel)) ggX5_tellByRanks_X5_distanceOf
theorem dX5_tellByRanks_0 : decode cX5_tellByRanks 0 = .ok (.aload_n 0, 1) := by decide +kernel
theorem dX5_tellByRanks_1 : decode cX5_tellByRanks 1 = .ok (.iconst 0, 1) := by decide +kernel
theorem dX5_tellByRanks_2 : decode cX5_tellByRanks 2 = .ok (.putfield 35, 3) := by decide +kernel
theorem dX5_tellByRanks_5 : decode cX5_tellByRanks 5 = .ok (.iconst (-1), 1) := by decide +kernel
theorem dX5_tellByRanks_6 : decode cX5_tellByRanks 6 = .ok (.istore_n 1, 1) := by decide +kernel
theorem dX5_tellByRanks_7 : decode cX5_tellByRanks 7 = .ok (.aload_n 0, 1) := by decide +kernel
theorem dX5_tellByRanks_8 : decode cX5_tellByRanks 8 = .ok (.getfield 38, 3) := by decide +kernel
theorem dX5_tellByRanks_11 : decode cX5_tellByRanks 11 = .ok (.iconst 1, 1) := by decide +kernel
theorem dX5_tellByRanks_12 : decode cX5_tellByRanks 12 = .ok (.isub, 1) := by decide +kernel
theorem dX5_tellByRanks_13 : decode cX5_tellByRanks 13 = .ok (.istore_n 2, 1) := by decide +kernel
theorem dX5_tellByRanks_14 : decode cX5_tellByRanks 14 = .ok (.iload_n 2, 1) := by decide +kernel
theorem dX5_tellByRanks_15 : decode cX5_tellByRanks 15 = .ok (.ifCond .lt 40, 3) := by decide +kernel
theorem dX5_tellByRanks_18 : decode cX5_tellByRanks 18 = .ok (.aload_n 0, 1) := by decide +kernel
theorem dX5_tellByRanks_19 : decode cX5_tellByRanks 19 = .ok (.getfield 45, 3) := by decide +kernel
theorem dX5_tellByRanks_22 : decode cX5_tellByRanks 22 = .ok (.ifCond .le 33, 3) := by decide +kernel
theorem dX5_tellByRanks_25 : decode cX5_tellByRanks 25 = .ok (.iload_n 1, 1) := by decide +kernel
theorem dX5_tellByRanks_26 : decode cX5_tellByRanks 26 = .ok (.iconst (-1), 1) := by decide +kernel
theorem dX5_tellByRanks_27 : decode cX5_tellByRanks 27 = .ok (.if_icmp .eq 16, 3) := by decide +kernel
theorem dX5_tellByRanks_30 : decode cX5_tellByRanks 30 = .ok (.aload_n 0, 1) := by decide +kernel
theorem dX5_tellByRanks_31 : decode cX5_tellByRanks 31 = .ok (.iload_n 2, 1) := by decide +kernel
theorem dX5_tellByRanks_32 : decode cX5_tellByRanks 32 = .ok (.invokevirtual 99, 3) := by decide +kernel
theorem dX5_tellByRanks_35 : decode cX5_tellByRanks 35 = .ok (.aload_n 0, 1) := by decide +kernel
theorem dX5_tellByRanks_36 : decode cX5_tellByRanks 36 = .ok (.iload_n 1, 1) := by decide +kernel
theorem dX5_tellByRanks_37 : decode cX5_tellByRanks 37 = .ok (.invokevirtual 99, 3) := by decide +kernel
theorem dX5_tellByRanks_40 : decode cX5_tellByRanks 40 = .ok (.if_icmp .gt 7, 3) := by decide +kernel
theorem dX5_tellByRanks_43 : decode cX5_tellByRanks 43 = .ok (.iload_n 2, 1) := by decide +kernel
theorem dX5_tellByRanks_44 : decode cX5_tellByRanks 44 = .ok (.goto 4, 3) := by decide +kernel
theorem dX5_tellByRanks_47 : decode cX5_tellByRanks 47 = .ok (.iload_n 1, 1) := by decide +kernel
theorem dX5_tellByRanks_48 : decode cX5_tellByRanks 48 = .ok (.istore_n 1, 1) := by decide +kernel
theorem dX5_tellByRanks_49 : decode cX5_tellByRanks 49 = .ok (.iinc 2 (-1), 3) := by decide +kernel
theorem dX5_tellByRanks_52 : decode cX5_tellByRanks 52 = .ok (.goto (-38), 3) := by decide +kernel
theorem dX5_tellByRanks_55 : decode cX5_tellByRanks 55 = .ok (.iload_n 1, 1) := by decide +kernel
theorem dX5_tellByRanks_56 : decode cX5_tellByRanks 56 = .ok (.ireturn, 1) := by decide +kernel
set_option maxRecDepth 20000 in
theorem ggX5_setPrice_X5_in : GoodIn wsX5_setPrice wsX5_in := goodIn_r _ [6] (by decide +kernel) (by decide +kernel)
set_option maxRecDepth 20000 in
theorem gX5_setPrice_X5_in : GoodIn wsX5_setPrice (va_wsS RX5 41 yX5_in wsX5_in) := goodIn_app (goodIn_of _ (by decide +kernel)) ggX5_setPrice_X5_in
theorem dX5_setPrice_0 : decode cX5_setPrice 0 = .ok (.aload_n 0, 1) := by decide +kernel
theorem dX5_setPrice_1 : decode cX5_setPrice 1 = .ok (.iload_n 1, 1) := by decide +kernel
theorem dX5_setPrice_2 : decode cX5_setPrice 2 = .ok (.iconst 0, 1) := by decide +kernel
theorem dX5_setPrice_3 : decode cX5_setPrice 3 = .ok (.bipush 100, 2) := by decide +kernel
theorem dX5_setPrice_5 : decode cX5_setPrice 5 = .ok (.invokestatic 41, 3) := by decide +kernel
theorem dX5_setPrice_8 : decode cX5_setPrice 8 = .ok (.ifCond .eq 7, 3) := by decide +kernel
theorem dX5_setPrice_11 : decode cX5_setPrice 11 = .ok (.iconst 0, 1) := by decide +kernel
theorem dX5_setPrice_12 : decode cX5_setPrice 12 = .ok (.goto 4, 3) := by decide +kernel
theorem dX5_setPrice_15 : decode cX5_setPrice 15 = .ok (.iconst 1, 1) := by decide +kernel
theorem dX5_setPrice_16 : decode cX5_setPrice 16 = .ok (.putfield 35, 3) := by decide +kernel
theorem dX5_setPrice_19 : decode cX5_setPrice 19 = .ok (.aload_n 0, 1) := by decide +kernel
theorem dX5_setPrice_20 : decode cX5_setPrice 20 = .ok (.getfield 35, 3) := by decide +kernel
theorem dX5_setPrice_23 : decode cX5_setPrice 23 = .ok (.ifCond .le 5, 3) := by decide +kernel
theorem dX5_setPrice_26 : decode cX5_setPrice 26 = .ok (.iconst 0, 1) := by decide +kernel
theorem dX5_setPrice_27 : decode cX5_setPrice 27 = .ok (.ireturn, 1) := by decide +kernel
theorem dX5_setPrice_28 : decode cX5_setPrice 28 = .ok (.aload_n 0, 1) := by decide +kernel
theorem dX5_setPrice_29 : decode cX5_setPrice 29 = .ok (.getfield 17, 3) := by decide +kernel
theorem dX5_setPrice_32 : decode cX5_setPrice 32 = .ok (.istore_n 2, 1) := by decide +kernel
theorem dX5_setPrice_33 : decode cX5_setPrice 33 = .ok (.aload_n 0, 1) := by decide +kernel
theorem dX5_setPrice_34 : decode cX5_setPrice 34 = .ok (.iload_n 1, 1) := by decide +kernel
theorem dX5_setPrice_35 : decode cX5_setPrice 35 = .ok (.putfield 17, 3) := by decide +kernel
theorem dX5_setPrice_38 : decode cX5_setPrice 38 = .ok (.iload_n 2, 1) := by decide +kernel
theorem dX5_setPrice_39 : decode cX5_setPrice 39 = .ok (.ireturn, 1) := by decide +kernel
theorem dX5_behind_0 : decode cX5_behind 0 = .ok (.iconst 0, 1) := by decide +kernel
theorem dX5_behind_1 : decode cX5_behind 1 = .ok (.istore_n 3, 1) := by decide +kernel
theorem dX5_behind_2 : decode cX5_behind 2 = .ok (.iconst 0, 1) := by decide +kernel
theorem dX5_behind_3 : decode cX5_behind 3 = .ok (.istore 4, 2) := by decide +kernel
theorem dX5_behind_5 : decode cX5_behind 5 = .ok (.iload 4, 2) := by decide +kernel
theorem dX5_behind_7 : decode cX5_behind 7 = .ok (.aload_n 0, 1) := by decide +kernel
theorem dX5_behind_8 : decode cX5_behind 8 = .ok (.getfield 38, 3) := by decide +kernel
theorem dX5_behind_11 : decode cX5_behind 11 = .ok (.if_icmp .ge 57, 3) := by decide +kernel
theorem dX5_behind_14 : decode cX5_behind 14 = .ok (.aload_n 0, 1) := by decide +kernel
theorem dX5_behind_15 : decode cX5_behind 15 = .ok (.getfield 32, 3) := by decide +kernel
theorem dX5_behind_18 : decode cX5_behind 18 = .ok (.iconst 5, 1) := by decide +kernel
theorem dX5_behind_19 : decode cX5_behind 19 = .ok (.iload_n 1, 1) := by decide +kernel
theorem dX5_behind_20 : decode cX5_behind 20 = .ok (.iconst 1, 1) := by decide +kernel
theorem dX5_behind_21 : decode cX5_behind 21 = .ok (.iadd, 1) := by decide +kernel
theorem dX5_behind_22 : decode cX5_behind 22 = .ok (.imul, 1) := by decide +kernel
theorem dX5_behind_23 : decode cX5_behind 23 = .ok (.iload 4, 2) := by decide +kernel
theorem dX5_behind_25 : decode cX5_behind 25 = .ok (.iadd, 1) := by decide +kernel
theorem dX5_behind_26 : decode cX5_behind 26 = .ok (.iaload, 1) := by decide +kernel
theorem dX5_behind_27 : decode cX5_behind 27 = .ok (.iload 4, 2) := by decide +kernel
theorem dX5_behind_29 : decode cX5_behind 29 = .ok (.iload_n 2, 1) := by decide +kernel
theorem dX5_behind_30 : decode cX5_behind 30 = .ok (.if_icmp .ne 7, 3) := by decide +kernel
theorem dX5_behind_33 : decode cX5_behind 33 = .ok (.iconst 0, 1) := by decide +kernel
theorem dX5_behind_34 : decode cX5_behind 34 = .ok (.goto 7, 3) := by decide +kernel
theorem dX5_behind_37 : decode cX5_behind 37 = .ok (.aload_n 0, 1) := by decide +kernel
theorem dX5_behind_38 : decode cX5_behind 38 = .ok (.getfield 17, 3) := by decide +kernel
theorem dX5_behind_41 : decode cX5_behind 41 = .ok (.iadd, 1) := by decide +kernel
theorem dX5_behind_42 : decode cX5_behind 42 = .ok (.istore 5, 2) := by decide +kernel
theorem dX5_behind_44 : decode cX5_behind 44 = .ok (.iload 4, 2) := by decide +kernel
theorem dX5_behind_46 : decode cX5_behind 46 = .ok (.ifCond .eq 9, 3) := by decide +kernel
theorem dX5_behind_49 : decode cX5_behind 49 = .ok (.iload 5, 2) := by decide +kernel
theorem dX5_behind_51 : decode cX5_behind 51 = .ok (.iload_n 3, 1) := by decide +kernel
theorem dX5_behind_52 : decode cX5_behind 52 = .ok (.if_icmp .ge 8, 3) := by decide +kernel
theorem dX5_behind_55 : decode cX5_behind 55 = .ok (.iload 5, 2) := by decide +kernel
theorem dX5_behind_57 : decode cX5_behind 57 = .ok (.goto 4, 3) := by decide +kernel
theorem dX5_behind_60 : decode cX5_behind 60 = .ok (.iload_n 3, 1) := by decide +kernel
theorem dX5_behind_61 : decode cX5_behind 61 = .ok (.istore_n 3, 1) := by decide +kernel
theorem dX5_behind_62 : decode cX5_behind 62 = .ok (.iinc 4 1, 3) := by decide +kernel
theorem dX5_behind_65 : decode cX5_behind 65 = .ok (.goto (-60), 3) := by decide +kernel
theorem dX5_behind_68 : decode cX5_behind 68 = .ok (.iload_n 3, 1) := by decide +kernel
theorem dX5_behind_69 : decode cX5_behind 69 = .ok (.ireturn, 1) := by decide +kernel
set_option maxRecDepth 20000 in
theorem ggX5_lays_X5_runMany : GoodIn wsX5_lays wsX5_runMany := goodIn_r _ [7, 8, 35, 36, 37, 38, 39, 40, 41, 42, 43, 44, 45, 46, 47] (by decide +kernel) (by decide +kernel)
set_option maxRecDepth 20000 in
theorem gX5_lays_X5_runMany : GoodIn wsX5_lays (wsV RX5 48 RX5 yX5_runMany wsX5_runMany) := goodIn_app (goodIn_of _ (by decide +kernel)) ggX5_lays_X5_runMany
set_option maxRecDepth 20000 in
theorem ggX5_lays_X5_behind : GoodIn wsX5_lays wsX5_behind := goodIn_r _ [12, 1, 2, 13, 35, 36, 37, 38, 39, 40, 41, 42, 43, 44, 45, 46, 47] (by decide +kernel) (by decide +kernel)
set_option maxRecDepth 20000 in
theorem gX5_lays_X5_behind : GoodIn wsX5_lays (wsV RX5 102 RX5 yX5_behind wsX5_behind) := goodIn_app (goodIn_of _ (by decide +kernel)) ggX5_lays_X5_behind
set_option maxRecDepth 20000 in
theorem ggX5_lays_X5_run : GoodIn wsX5_lays wsX5_run := goodIn_r _ [17, 18, 8, 35, 36, 37, 38, 39, 40, 41, 42, 43, 44, 45, 46, 47] (by decide +kernel) (by decide +kernel)
set_option maxRecDepth 20000 in
theorem gX5_lays_X5_run : GoodIn wsX5_lays (wsV RX5 52 RX5 yX5_run wsX5_run) := goodIn_app (goodIn_of _ (by decide +kernel)) ggX5_lays_X5_run
set_option maxRecDepth 20000 in
theorem ggX5_lays_X5_costOf : GoodIn wsX5_lays wsX5_costOf := goodIn_r _ [22, 23, 24, 25, 6, 26, 27, 28, 29, 30, 31, 32, 33, 34, 35, 36, 37, 38, 39, 40, 41, 42, 43, 44, 45, 46, 47] (by decide +kernel) (by decide +kernel)
set_option maxRecDepth 20000 in
theorem gX5_lays_X5_costOf : GoodIn wsX5_lays (wsV RX5 87 RX5 yX5_costOf wsX5_costOf) := goodIn_app (goodIn_of _ (by decide +kernel)) ggX5_lays_X5_costOf
theorem dX5_lays_0 : decode cX5_lays 0 = .ok (.aload_n 0, 1) := by decide +kernel
theorem dX5_lays_1 : decode cX5_lays 1 = .ok (.invokevirtual 48, 3) := by decide +kernel
theorem dX5_lays_4 : decode cX5_lays 4 = .ok (.iconst 1, 1) := by decide +kernel
theorem dX5_lays_5 : decode cX5_lays 5 = .ok (.isub, 1) := by decide +kernel
theorem dX5_lays_6 : decode cX5_lays 6 = .ok (.istore_n 1, 1) := by decide +kernel
theorem dX5_lays_7 : decode cX5_lays 7 = .ok (.iload_n 1, 1) := by decide +kernel
theorem dX5_lays_8 : decode cX5_lays 8 = .ok (.ifCond .lt 68, 3) := by decide +kernel
theorem dX5_lays_11 : decode cX5_lays 11 = .ok (.iconst 0, 1) := by decide +kernel
theorem dX5_lays_12 : decode cX5_lays 12 = .ok (.istore_n 2, 1) := by decide +kernel
theorem dX5_lays_13 : decode cX5_lays 13 = .ok (.iload_n 2, 1) := by decide +kernel
theorem dX5_lays_14 : decode cX5_lays 14 = .ok (.aload_n 0, 1) := by decide +kernel
theorem dX5_lays_15 : decode cX5_lays 15 = .ok (.getfield 38, 3) := by decide +kernel
theorem dX5_lays_18 : decode cX5_lays 18 = .ok (.if_icmp .ge 52, 3) := by decide +kernel
theorem dX5_lays_21 : decode cX5_lays 21 = .ok (.iload_n 1, 1) := by decide +kernel
theorem dX5_lays_22 : decode cX5_lays 22 = .ok (.aload_n 0, 1) := by decide +kernel
theorem dX5_lays_23 : decode cX5_lays 23 = .ok (.invokevirtual 48, 3) := by decide +kernel
theorem dX5_lays_26 : decode cX5_lays 26 = .ok (.iconst 1, 1) := by decide +kernel
theorem dX5_lays_27 : decode cX5_lays 27 = .ok (.isub, 1) := by decide +kernel
theorem dX5_lays_28 : decode cX5_lays 28 = .ok (.if_icmp .ne 7, 3) := by decide +kernel
theorem dX5_lays_31 : decode cX5_lays 31 = .ok (.iconst 0, 1) := by decide +kernel
theorem dX5_lays_32 : decode cX5_lays 32 = .ok (.goto 9, 3) := by decide +kernel
theorem dX5_lays_35 : decode cX5_lays 35 = .ok (.aload_n 0, 1) := by decide +kernel
theorem dX5_lays_36 : decode cX5_lays 36 = .ok (.iload_n 1, 1) := by decide +kernel
theorem dX5_lays_37 : decode cX5_lays 37 = .ok (.iload_n 2, 1) := by decide +kernel
theorem dX5_lays_38 : decode cX5_lays 38 = .ok (.invokevirtual 102, 3) := by decide +kernel
theorem dX5_lays_41 : decode cX5_lays 41 = .ok (.istore_n 3, 1) := by decide +kernel
theorem dX5_lays_42 : decode cX5_lays 42 = .ok (.aload_n 0, 1) := by decide +kernel
theorem dX5_lays_43 : decode cX5_lays 43 = .ok (.getfield 32, 3) := by decide +kernel
theorem dX5_lays_46 : decode cX5_lays 46 = .ok (.iconst 5, 1) := by decide +kernel
theorem dX5_lays_47 : decode cX5_lays 47 = .ok (.iload_n 1, 1) := by decide +kernel
theorem dX5_lays_48 : decode cX5_lays 48 = .ok (.imul, 1) := by decide +kernel
theorem dX5_lays_49 : decode cX5_lays 49 = .ok (.iload_n 2, 1) := by decide +kernel
theorem dX5_lays_50 : decode cX5_lays 50 = .ok (.iadd, 1) := by decide +kernel
theorem dX5_lays_51 : decode cX5_lays 51 = .ok (.aload_n 0, 1) := by decide +kernel
theorem dX5_lays_52 : decode cX5_lays 52 = .ok (.iload_n 2, 1) := by decide +kernel
theorem dX5_lays_53 : decode cX5_lays 53 = .ok (.aload_n 0, 1) := by decide +kernel
theorem dX5_lays_54 : decode cX5_lays 54 = .ok (.iload_n 1, 1) := by decide +kernel
theorem dX5_lays_55 : decode cX5_lays 55 = .ok (.invokevirtual 52, 3) := by decide +kernel
theorem dX5_lays_58 : decode cX5_lays 58 = .ok (.invokevirtual 87, 3) := by decide +kernel
theorem dX5_lays_61 : decode cX5_lays 61 = .ok (.iload_n 3, 1) := by decide +kernel
theorem dX5_lays_62 : decode cX5_lays 62 = .ok (.iadd, 1) := by decide +kernel
theorem dX5_lays_63 : decode cX5_lays 63 = .ok (.iastore, 1) := by decide +kernel
theorem dX5_lays_64 : decode cX5_lays 64 = .ok (.iinc 2 1, 3) := by decide +kernel
theorem dX5_lays_67 : decode cX5_lays 67 = .ok (.goto (-54), 3) := by decide +kernel
theorem dX5_lays_70 : decode cX5_lays 70 = .ok (.iinc 1 (-1), 3) := by decide +kernel
theorem dX5_lays_73 : decode cX5_lays 73 = .ok (.goto (-66), 3) := by decide +kernel
theorem dX5_lays_76 : decode cX5_lays 76 = .ok (.return_, 1) := by decide +kernel
theorem dX5_chooses_0 : decode cX5_chooses 0 = .ok (.iconst (-1), 1) := by decide +kernel
theorem dX5_chooses_1 : decode cX5_chooses 1 = .ok (.istore_n 3, 1) := by decide +kernel
theorem dX5_chooses_2 : decode cX5_chooses 2 = .ok (.iconst 0, 1) := by decide +kernel
theorem dX5_chooses_3 : decode cX5_chooses 3 = .ok (.istore 4, 2) := by decide +kernel
theorem dX5_chooses_5 : decode cX5_chooses 5 = .ok (.iconst 0, 1) := by decide +kernel
theorem dX5_chooses_6 : decode cX5_chooses 6 = .ok (.istore 5, 2) := by decide +kernel
theorem dX5_chooses_8 : decode cX5_chooses 8 = .ok (.iload 5, 2) := by decide +kernel
theorem dX5_chooses_10 : decode cX5_chooses 10 = .ok (.aload_n 0, 1) := by decide +kernel
theorem dX5_chooses_11 : decode cX5_chooses 11 = .ok (.getfield 38, 3) := by decide +kernel
theorem dX5_chooses_14 : decode cX5_chooses 14 = .ok (.if_icmp .ge 87, 3) := by decide +kernel
theorem dX5_chooses_17 : decode cX5_chooses 17 = .ok (.aload_n 0, 1) := by decide +kernel
theorem dX5_chooses_18 : decode cX5_chooses 18 = .ok (.getfield 32, 3) := by decide +kernel
theorem dX5_chooses_21 : decode cX5_chooses 21 = .ok (.iconst 5, 1) := by decide +kernel
theorem dX5_chooses_22 : decode cX5_chooses 22 = .ok (.iload_n 1, 1) := by decide +kernel
theorem dX5_chooses_23 : decode cX5_chooses 23 = .ok (.imul, 1) := by decide +kernel
theorem dX5_chooses_24 : decode cX5_chooses 24 = .ok (.iload 5, 2) := by decide +kernel
theorem dX5_chooses_26 : decode cX5_chooses 26 = .ok (.iadd, 1) := by decide +kernel
theorem dX5_chooses_27 : decode cX5_chooses 27 = .ok (.iaload, 1) := by decide +kernel
theorem dX5_chooses_28 : decode cX5_chooses 28 = .ok (.iload_n 2, 1) := by decide +kernel
theorem dX5_chooses_29 : decode cX5_chooses 29 = .ok (.iconst (-1), 1) := by decide +kernel
theorem dX5_chooses_30 : decode cX5_chooses 30 = .ok (.if_icmp .eq 9, 3) := by decide +kernel
theorem dX5_chooses_33 : decode cX5_chooses 33 = .ok (.iload_n 2, 1) := by decide +kernel
theorem dX5_chooses_34 : decode cX5_chooses 34 = .ok (.iload 5, 2) := by decide +kernel
theorem dX5_chooses_36 : decode cX5_chooses 36 = .ok (.if_icmp .ne 7, 3) := by decide +kernel
theorem dX5_chooses_39 : decode cX5_chooses 39 = .ok (.iconst 0, 1) := by decide +kernel
theorem dX5_chooses_40 : decode cX5_chooses 40 = .ok (.goto 7, 3) := by decide +kernel
theorem dX5_chooses_43 : decode cX5_chooses 43 = .ok (.aload_n 0, 1) := by decide +kernel
theorem dX5_chooses_44 : decode cX5_chooses 44 = .ok (.getfield 17, 3) := by decide +kernel
theorem dX5_chooses_47 : decode cX5_chooses 47 = .ok (.iadd, 1) := by decide +kernel
theorem dX5_chooses_48 : decode cX5_chooses 48 = .ok (.istore 6, 2) := by decide +kernel
theorem dX5_chooses_50 : decode cX5_chooses 50 = .ok (.iload_n 3, 1) := by decide +kernel
theorem dX5_chooses_51 : decode cX5_chooses 51 = .ok (.iconst (-1), 1) := by decide +kernel
theorem dX5_chooses_52 : decode cX5_chooses 52 = .ok (.if_icmp .eq 10, 3) := by decide +kernel
theorem dX5_chooses_55 : decode cX5_chooses 55 = .ok (.iload 6, 2) := by decide +kernel
theorem dX5_chooses_57 : decode cX5_chooses 57 = .ok (.iload 4, 2) := by decide +kernel
theorem dX5_chooses_59 : decode cX5_chooses 59 = .ok (.if_icmp .ge 7, 3) := by decide +kernel
theorem dX5_chooses_62 : decode cX5_chooses 62 = .ok (.iconst 1, 1) := by decide +kernel
theorem dX5_chooses_63 : decode cX5_chooses 63 = .ok (.goto 4, 3) := by decide +kernel
theorem dX5_chooses_66 : decode cX5_chooses 66 = .ok (.iconst 0, 1) := by decide +kernel
theorem dX5_chooses_67 : decode cX5_chooses 67 = .ok (.istore 7, 2) := by decide +kernel
theorem dX5_chooses_69 : decode cX5_chooses 69 = .ok (.iload 7, 2) := by decide +kernel
theorem dX5_chooses_71 : decode cX5_chooses 71 = .ok (.ifCond .eq 8, 3) := by decide +kernel
theorem dX5_chooses_74 : decode cX5_chooses 74 = .ok (.iload 5, 2) := by decide +kernel
theorem dX5_chooses_76 : decode cX5_chooses 76 = .ok (.goto 4, 3) := by decide +kernel
theorem dX5_chooses_79 : decode cX5_chooses 79 = .ok (.iload_n 3, 1) := by decide +kernel
theorem dX5_chooses_80 : decode cX5_chooses 80 = .ok (.istore_n 3, 1) := by decide +kernel
theorem dX5_chooses_81 : decode cX5_chooses 81 = .ok (.iload 7, 2) := by decide +kernel
theorem dX5_chooses_83 : decode cX5_chooses 83 = .ok (.ifCond .eq 8, 3) := by decide +kernel
theorem dX5_chooses_86 : decode cX5_chooses 86 = .ok (.iload 6, 2) := by decide +kernel
theorem dX5_chooses_88 : decode cX5_chooses 88 = .ok (.goto 5, 3) := by decide +kernel
theorem dX5_chooses_91 : decode cX5_chooses 91 = .ok (.iload 4, 2) := by decide +kernel
theorem dX5_chooses_93 : decode cX5_chooses 93 = .ok (.istore 4, 2) := by decide +kernel
theorem dX5_chooses_95 : decode cX5_chooses 95 = .ok (.iinc 5 1, 3) := by decide +kernel
theorem dX5_chooses_98 : decode cX5_chooses 98 = .ok (.goto (-90), 3) := by decide +kernel
theorem dX5_chooses_101 : decode cX5_chooses 101 = .ok (.iload_n 3, 1) := by decide +kernel
theorem dX5_chooses_102 : decode cX5_chooses 102 = .ok (.ireturn, 1) := by decide +kernel
set_option maxRecDepth 20000 in
theorem ggX5_leastCut_X5_lays : GoodIn wsX5_leastCut wsX5_lays := goodIn_r _ [6, 7, 1, 8, 9, 10, 5, 11, 12, 13, 14, 15, 16, 17, 18, 19, 20, 21, 22, 23, 24, 25, 26, 27, 28, 29, 30, 31, 32, 33, 34, 35, 36, 37, 38, 43, 44, 45, 46, 47, 48, 49, 50, 51, 52, 53, 54, 55] (by decide +kernel) (by decide +kernel)
set_option maxRecDepth 20000 in
theorem gX5_leastCut_X5_lays : GoodIn wsX5_leastCut (wsV RX5 105 RX5 yX5_lays wsX5_lays) := goodIn_app (goodIn_of _ (by decide +kernel)) ggX5_leastCut_X5_lays
set_option maxRecDepth 20000 in
theorem ggX5_leastCut_X5_runMany : GoodIn wsX5_leastCut wsX5_runMany := goodIn_r _ [11, 12, 43, 44, 45, 46, 47, 48, 49, 50, 51, 52, 53, 54, 55] (by decide +kernel) (by decide +kernel)
set_option maxRecDepth 20000 in
theorem gX5_leastCut_X5_runMany : GoodIn wsX5_leastCut (wsV RX5 48 RX5 yX5_runMany wsX5_runMany) := goodIn_app (goodIn_of _ (by decide +kernel)) ggX5_leastCut_X5_runMany
set_option maxRecDepth 20000 in
theorem ggX5_leastCut_X5_chooses : GoodIn wsX5_leastCut wsX5_chooses := goodIn_r _ [42, 7, 1, 17, 43, 44, 45, 46, 47, 48, 49, 50, 51, 52, 53, 54, 55] (by decide +kernel) (by decide +kernel)
set_option maxRecDepth 20000 in
theorem gX5_leastCut_X5_chooses : GoodIn wsX5_leastCut (wsV RX5 108 RX5 yX5_chooses wsX5_chooses) := goodIn_app (goodIn_of _ (by decide +kernel)) ggX5_leastCut_X5_chooses
theorem dX5_leastCut_0 : decode cX5_leastCut 0 = .ok (.aload_n 0, 1) := by decide +kernel
theorem dX5_leastCut_1 : decode cX5_leastCut 1 = .ok (.invokevirtual 105, 3) := by decide +kernel
theorem dX5_leastCut_4 : decode cX5_leastCut 4 = .ok (.aload_n 0, 1) := by decide +kernel
theorem dX5_leastCut_5 : decode cX5_leastCut 5 = .ok (.invokevirtual 48, 3) := by decide +kernel
theorem dX5_leastCut_8 : decode cX5_leastCut 8 = .ok (.ifCond .ne 7, 3) := by decide +kernel
theorem dX5_leastCut_11 : decode cX5_leastCut 11 = .ok (.iconst 0, 1) := by decide +kernel
theorem dX5_leastCut_12 : decode cX5_leastCut 12 = .ok (.goto 14, 3) := by decide +kernel
theorem dX5_leastCut_15 : decode cX5_leastCut 15 = .ok (.aload_n 0, 1) := by decide +kernel
theorem dX5_leastCut_16 : decode cX5_leastCut 16 = .ok (.getfield 32, 3) := by decide +kernel
theorem dX5_leastCut_19 : decode cX5_leastCut 19 = .ok (.aload_n 0, 1) := by decide +kernel
theorem dX5_leastCut_20 : decode cX5_leastCut 20 = .ok (.iconst 0, 1) := by decide +kernel
theorem dX5_leastCut_21 : decode cX5_leastCut 21 = .ok (.iconst (-1), 1) := by decide +kernel
theorem dX5_leastCut_22 : decode cX5_leastCut 22 = .ok (.invokevirtual 108, 3) := by decide +kernel
theorem dX5_leastCut_25 : decode cX5_leastCut 25 = .ok (.iaload, 1) := by decide +kernel
theorem dX5_leastCut_26 : decode cX5_leastCut 26 = .ok (.ireturn, 1) := by decide +kernel
set_option maxRecDepth 20000 in
theorem ggX5_cutCost_X5_leastCut : GoodIn wsX5_cutCost wsX5_leastCut := goodIn_r _ [7, 8, 9, 10, 11, 6, 12, 1, 13, 14, 15, 16, 17, 18, 19, 20, 21, 22, 23, 24, 25, 26, 27, 28, 29, 30, 31, 32, 33, 34, 35, 36, 37, 38, 39, 40, 41, 42, 43, 44, 45, 46, 47, 48, 49, 50, 51, 52, 53, 54, 55, 56, 57, 58, 59, 60] (by decide +kernel) (by decide +kernel)
set_option maxRecDepth 20000 in
theorem gX5_cutCost_X5_leastCut : GoodIn wsX5_cutCost (wsV RX5 111 RX5 yX5_leastCut wsX5_leastCut) := goodIn_app (goodIn_of _ (by decide +kernel)) ggX5_cutCost_X5_leastCut
theorem dX5_cutCost_0 : decode cX5_cutCost 0 = .ok (.aload_n 0, 1) := by decide +kernel
theorem dX5_cutCost_1 : decode cX5_cutCost 1 = .ok (.aload_n 0, 1) := by decide +kernel
theorem dX5_cutCost_2 : decode cX5_cutCost 2 = .ok (.getfield 38, 3) := by decide +kernel
theorem dX5_cutCost_5 : decode cX5_cutCost 5 = .ok (.ifCond .ne 7, 3) := by decide +kernel
theorem dX5_cutCost_8 : decode cX5_cutCost 8 = .ok (.iconst 1, 1) := by decide +kernel
theorem dX5_cutCost_9 : decode cX5_cutCost 9 = .ok (.goto 4, 3) := by decide +kernel
theorem dX5_cutCost_12 : decode cX5_cutCost 12 = .ok (.iconst 0, 1) := by decide +kernel
theorem dX5_cutCost_13 : decode cX5_cutCost 13 = .ok (.putfield 35, 3) := by decide +kernel
theorem dX5_cutCost_16 : decode cX5_cutCost 16 = .ok (.aload_n 0, 1) := by decide +kernel
theorem dX5_cutCost_17 : decode cX5_cutCost 17 = .ok (.getfield 35, 3) := by decide +kernel
theorem dX5_cutCost_20 : decode cX5_cutCost 20 = .ok (.ifCond .le 7, 3) := by decide +kernel
theorem dX5_cutCost_23 : decode cX5_cutCost 23 = .ok (.iconst 0, 1) := by decide +kernel
theorem dX5_cutCost_24 : decode cX5_cutCost 24 = .ok (.goto 7, 3) := by decide +kernel
theorem dX5_cutCost_27 : decode cX5_cutCost 27 = .ok (.aload_n 0, 1) := by decide +kernel
theorem dX5_cutCost_28 : decode cX5_cutCost 28 = .ok (.invokevirtual 111, 3) := by decide +kernel
theorem dX5_cutCost_31 : decode cX5_cutCost 31 = .ok (.ireturn, 1) := by decide +kernel
set_option maxRecDepth 20000 in
theorem ggX5_cutCostByTrying_X5_leastCut : GoodIn wsX5_cutCostByTrying wsX5_leastCut := goodIn_r _ [8, 9, 10, 11, 12, 7, 13, 1, 14, 15, 16, 17, 2, 18, 19, 20, 21, 22, 23, 24, 25, 26, 27, 28, 29, 30, 31, 32, 33, 34, 35, 36, 37, 38, 39, 40, 41, 42, 43, 44, 45, 46, 47, 48, 49, 50, 51, 52, 53, 54, 55, 56, 57, 58, 59, 60] (by decide +kernel) (by decide +kernel)
set_option maxRecDepth 20000 in
theorem gX5_cutCostByTrying_X5_leastCut : GoodIn wsX5_cutCostByTrying (wsV RX5 111 RX5 yX5_leastCut wsX5_leastCut) := goodIn_app (goodIn_of _ (by decide +kernel)) ggX5_cutCostByTrying_X5_leastCut
theorem dX5_cutCostByTrying_0 : decode cX5_cutCostByTrying 0 = .ok (.aload_n 0, 1) := by decide +kernel
theorem dX5_cutCostByTrying_1 : decode cX5_cutCostByTrying 1 = .ok (.aload_n 0, 1) := by decide +kernel
theorem dX5_cutCostByTrying_2 : decode cX5_cutCostByTrying 2 = .ok (.getfield 38, 3) := by decide +kernel
theorem dX5_cutCostByTrying_5 : decode cX5_cutCostByTrying 5 = .ok (.ifCond .eq 11, 3) := by decide +kernel
theorem dX5_cutCostByTrying_8 : decode cX5_cutCostByTrying 8 = .ok (.aload_n 0, 1) := by decide +kernel
theorem dX5_cutCostByTrying_9 : decode cX5_cutCostByTrying 9 = .ok (.getfield 45, 3) := by decide +kernel
theorem dX5_cutCostByTrying_12 : decode cX5_cutCostByTrying 12 = .ok (.iconst 5, 1) := by decide +kernel
theorem dX5_cutCostByTrying_13 : decode cX5_cutCostByTrying 13 = .ok (.if_icmp .le 7, 3) := by decide +kernel
theorem dX5_cutCostByTrying_16 : decode cX5_cutCostByTrying 16 = .ok (.iconst 1, 1) := by decide +kernel
theorem dX5_cutCostByTrying_17 : decode cX5_cutCostByTrying 17 = .ok (.goto 4, 3) := by decide +kernel
theorem dX5_cutCostByTrying_20 : decode cX5_cutCostByTrying 20 = .ok (.iconst 0, 1) := by decide +kernel
theorem dX5_cutCostByTrying_21 : decode cX5_cutCostByTrying 21 = .ok (.putfield 35, 3) := by decide +kernel
theorem dX5_cutCostByTrying_24 : decode cX5_cutCostByTrying 24 = .ok (.aload_n 0, 1) := by decide +kernel
theorem dX5_cutCostByTrying_25 : decode cX5_cutCostByTrying 25 = .ok (.getfield 35, 3) := by decide +kernel
theorem dX5_cutCostByTrying_28 : decode cX5_cutCostByTrying 28 = .ok (.ifCond .le 7, 3) := by decide +kernel
theorem dX5_cutCostByTrying_31 : decode cX5_cutCostByTrying 31 = .ok (.iconst 0, 1) := by decide +kernel
theorem dX5_cutCostByTrying_32 : decode cX5_cutCostByTrying 32 = .ok (.goto 7, 3) := by decide +kernel
theorem dX5_cutCostByTrying_35 : decode cX5_cutCostByTrying 35 = .ok (.aload_n 0, 1) := by decide +kernel
theorem dX5_cutCostByTrying_36 : decode cX5_cutCostByTrying 36 = .ok (.invokevirtual 111, 3) := by decide +kernel
theorem dX5_cutCostByTrying_39 : decode cX5_cutCostByTrying 39 = .ok (.ireturn, 1) := by decide +kernel
set_option maxRecDepth 20000 in
theorem ggX5_cutTongue_X5_runMany : GoodIn wsX5_cutTongue wsX5_runMany := goodIn_r _ [7, 8, 47, 48, 49, 50, 51, 52, 53, 54, 55, 56, 57, 58, 59] (by decide +kernel) (by decide +kernel)
set_option maxRecDepth 20000 in
theorem gX5_cutTongue_X5_runMany : GoodIn wsX5_cutTongue (wsV RX5 48 RX5 yX5_runMany wsX5_runMany) := goodIn_app (goodIn_of _ (by decide +kernel)) ggX5_cutTongue_X5_runMany
set_option maxRecDepth 20000 in
theorem ggX5_cutTongue_X5_in : GoodIn wsX5_cutTongue wsX5_in := goodIn_r _ [11] (by decide +kernel) (by decide +kernel)
set_option maxRecDepth 20000 in
theorem gX5_cutTongue_X5_in : GoodIn wsX5_cutTongue (va_wsS RX5 41 yX5_in wsX5_in) := goodIn_app (goodIn_of _ (by decide +kernel)) ggX5_cutTongue_X5_in
set_option maxRecDepth 20000 in
theorem ggX5_cutTongue_X5_lays : GoodIn wsX5_cutTongue wsX5_lays := goodIn_r _ [15, 1, 16, 3, 4, 5, 6, 7, 8, 17, 18, 19, 20, 21, 22, 23, 24, 25, 26, 27, 28, 29, 30, 31, 32, 33, 34, 35, 36, 37, 38, 39, 40, 41, 42, 47, 48, 49, 50, 51, 52, 53, 54, 55, 56, 57, 58, 59] (by decide +kernel) (by decide +kernel)
set_option maxRecDepth 20000 in
theorem gX5_cutTongue_X5_lays : GoodIn wsX5_cutTongue (wsV RX5 105 RX5 yX5_lays wsX5_lays) := goodIn_app (goodIn_of _ (by decide +kernel)) ggX5_cutTongue_X5_lays
set_option maxRecDepth 20000 in
theorem ggX5_cutTongue_X5_chooses : GoodIn wsX5_cutTongue wsX5_chooses := goodIn_r _ [46, 1, 16, 21, 47, 48, 49, 50, 51, 52, 53, 54, 55, 56, 57, 58, 59] (by decide +kernel) (by decide +kernel)
set_option maxRecDepth 20000 in
theorem gX5_cutTongue_X5_chooses : GoodIn wsX5_cutTongue (wsV RX5 108 RX5 yX5_chooses wsX5_chooses) := goodIn_app (goodIn_of _ (by decide +kernel)) ggX5_cutTongue_X5_chooses
theorem dX5_cutTongue_0 : decode cX5_cutTongue 0 = .ok (.aload_n 0, 1) := by decide +kernel
theorem dX5_cutTongue_1 : decode cX5_cutTongue 1 = .ok (.aload_n 0, 1) := by decide +kernel
theorem dX5_cutTongue_2 : decode cX5_cutTongue 2 = .ok (.getfield 38, 3) := by decide +kernel
theorem dX5_cutTongue_5 : decode cX5_cutTongue 5 = .ok (.ifCond .ne 7, 3) := by decide +kernel
theorem dX5_cutTongue_8 : decode cX5_cutTongue 8 = .ok (.iconst 1, 1) := by decide +kernel
theorem dX5_cutTongue_9 : decode cX5_cutTongue 9 = .ok (.goto 22, 3) := by decide +kernel
theorem dX5_cutTongue_12 : decode cX5_cutTongue 12 = .ok (.iload_n 1, 1) := by decide +kernel
theorem dX5_cutTongue_13 : decode cX5_cutTongue 13 = .ok (.iconst 0, 1) := by decide +kernel
theorem dX5_cutTongue_14 : decode cX5_cutTongue 14 = .ok (.aload_n 0, 1) := by decide +kernel
theorem dX5_cutTongue_15 : decode cX5_cutTongue 15 = .ok (.invokevirtual 48, 3) := by decide +kernel
theorem dX5_cutTongue_18 : decode cX5_cutTongue 18 = .ok (.iconst 1, 1) := by decide +kernel
theorem dX5_cutTongue_19 : decode cX5_cutTongue 19 = .ok (.isub, 1) := by decide +kernel
theorem dX5_cutTongue_20 : decode cX5_cutTongue 20 = .ok (.invokestatic 41, 3) := by decide +kernel
theorem dX5_cutTongue_23 : decode cX5_cutTongue 23 = .ok (.ifCond .eq 7, 3) := by decide +kernel
theorem dX5_cutTongue_26 : decode cX5_cutTongue 26 = .ok (.iconst 0, 1) := by decide +kernel
theorem dX5_cutTongue_27 : decode cX5_cutTongue 27 = .ok (.goto 4, 3) := by decide +kernel
theorem dX5_cutTongue_30 : decode cX5_cutTongue 30 = .ok (.iconst 2, 1) := by decide +kernel
theorem dX5_cutTongue_31 : decode cX5_cutTongue 31 = .ok (.putfield 35, 3) := by decide +kernel
theorem dX5_cutTongue_34 : decode cX5_cutTongue 34 = .ok (.aload_n 0, 1) := by decide +kernel
theorem dX5_cutTongue_35 : decode cX5_cutTongue 35 = .ok (.getfield 35, 3) := by decide +kernel
theorem dX5_cutTongue_38 : decode cX5_cutTongue 38 = .ok (.ifCond .le 5, 3) := by decide +kernel
theorem dX5_cutTongue_41 : decode cX5_cutTongue 41 = .ok (.iconst 0, 1) := by decide +kernel
theorem dX5_cutTongue_42 : decode cX5_cutTongue 42 = .ok (.ireturn, 1) := by decide +kernel
theorem dX5_cutTongue_43 : decode cX5_cutTongue 43 = .ok (.aload_n 0, 1) := by decide +kernel
theorem dX5_cutTongue_44 : decode cX5_cutTongue 44 = .ok (.invokevirtual 105, 3) := by decide +kernel
theorem dX5_cutTongue_47 : decode cX5_cutTongue 47 = .ok (.iconst (-1), 1) := by decide +kernel
theorem dX5_cutTongue_48 : decode cX5_cutTongue 48 = .ok (.istore_n 2, 1) := by decide +kernel
theorem dX5_cutTongue_49 : decode cX5_cutTongue 49 = .ok (.iconst 0, 1) := by decide +kernel
theorem dX5_cutTongue_50 : decode cX5_cutTongue 50 = .ok (.istore_n 3, 1) := by decide +kernel
theorem dX5_cutTongue_51 : decode cX5_cutTongue 51 = .ok (.iload_n 3, 1) := by decide +kernel
theorem dX5_cutTongue_52 : decode cX5_cutTongue 52 = .ok (.iload_n 1, 1) := by decide +kernel
theorem dX5_cutTongue_53 : decode cX5_cutTongue 53 = .ok (.if_icmp .gt 16, 3) := by decide +kernel
theorem dX5_cutTongue_56 : decode cX5_cutTongue 56 = .ok (.aload_n 0, 1) := by decide +kernel
theorem dX5_cutTongue_57 : decode cX5_cutTongue 57 = .ok (.iload_n 3, 1) := by decide +kernel
theorem dX5_cutTongue_58 : decode cX5_cutTongue 58 = .ok (.iload_n 2, 1) := by decide +kernel
theorem dX5_cutTongue_59 : decode cX5_cutTongue 59 = .ok (.invokevirtual 108, 3) := by decide +kernel
theorem dX5_cutTongue_62 : decode cX5_cutTongue 62 = .ok (.istore_n 2, 1) := by decide +kernel
theorem dX5_cutTongue_63 : decode cX5_cutTongue 63 = .ok (.iinc 3 1, 3) := by decide +kernel
theorem dX5_cutTongue_66 : decode cX5_cutTongue 66 = .ok (.goto (-15), 3) := by decide +kernel
theorem dX5_cutTongue_69 : decode cX5_cutTongue 69 = .ok (.iload_n 2, 1) := by decide +kernel
theorem dX5_cutTongue_70 : decode cX5_cutTongue 70 = .ok (.ireturn, 1) := by decide +kernel
set_option maxRecDepth 20000 in
theorem ggX5_stretches_X5_lays : GoodIn wsX5_stretches wsX5_lays := goodIn_r _ [7, 1, 8, 9, 10, 11, 6, 12, 13, 14, 15, 16, 17, 18, 19, 20, 21, 22, 23, 24, 25, 26, 27, 28, 29, 30, 31, 32, 33, 34, 35, 36, 37, 38, 39, 44, 45, 46, 47, 48, 49, 50, 51, 52, 53, 54, 55, 56] (by decide +kernel) (by decide +kernel)
set_option maxRecDepth 20000 in
theorem gX5_stretches_X5_lays : GoodIn wsX5_stretches (wsV RX5 105 RX5 yX5_lays wsX5_lays) := goodIn_app (goodIn_of _ (by decide +kernel)) ggX5_stretches_X5_lays
set_option maxRecDepth 20000 in
theorem ggX5_stretches_X5_runMany : GoodIn wsX5_stretches wsX5_runMany := goodIn_r _ [12, 13, 44, 45, 46, 47, 48, 49, 50, 51, 52, 53, 54, 55, 56] (by decide +kernel) (by decide +kernel)
set_option maxRecDepth 20000 in
theorem gX5_stretches_X5_runMany : GoodIn wsX5_stretches (wsV RX5 48 RX5 yX5_runMany wsX5_runMany) := goodIn_app (goodIn_of _ (by decide +kernel)) ggX5_stretches_X5_runMany
set_option maxRecDepth 20000 in
theorem ggX5_stretches_X5_chooses : GoodIn wsX5_stretches wsX5_chooses := goodIn_r _ [43, 1, 8, 18, 44, 45, 46, 47, 48, 49, 50, 51, 52, 53, 54, 55, 56] (by decide +kernel) (by decide +kernel)
set_option maxRecDepth 20000 in
theorem gX5_stretches_X5_chooses : GoodIn wsX5_stretches (wsV RX5 108 RX5 yX5_chooses wsX5_chooses) := goodIn_app (goodIn_of _ (by decide +kernel)) ggX5_stretches_X5_chooses
theorem dX5_stretches_0 : decode cX5_stretches 0 = .ok (.aload_n 0, 1) := by decide +kernel
theorem dX5_stretches_1 : decode cX5_stretches 1 = .ok (.aload_n 0, 1) := by decide +kernel
theorem dX5_stretches_2 : decode cX5_stretches 2 = .ok (.getfield 38, 3) := by decide +kernel
theorem dX5_stretches_5 : decode cX5_stretches 5 = .ok (.ifCond .ne 7, 3) := by decide +kernel
theorem dX5_stretches_8 : decode cX5_stretches 8 = .ok (.iconst 1, 1) := by decide +kernel
theorem dX5_stretches_9 : decode cX5_stretches 9 = .ok (.goto 4, 3) := by decide +kernel
theorem dX5_stretches_12 : decode cX5_stretches 12 = .ok (.iconst 0, 1) := by decide +kernel
theorem dX5_stretches_13 : decode cX5_stretches 13 = .ok (.putfield 35, 3) := by decide +kernel
theorem dX5_stretches_16 : decode cX5_stretches 16 = .ok (.aload_n 0, 1) := by decide +kernel
theorem dX5_stretches_17 : decode cX5_stretches 17 = .ok (.getfield 35, 3) := by decide +kernel
theorem dX5_stretches_20 : decode cX5_stretches 20 = .ok (.ifCond .le 5, 3) := by decide +kernel
theorem dX5_stretches_23 : decode cX5_stretches 23 = .ok (.iconst 0, 1) := by decide +kernel
theorem dX5_stretches_24 : decode cX5_stretches 24 = .ok (.ireturn, 1) := by decide +kernel
theorem dX5_stretches_25 : decode cX5_stretches 25 = .ok (.aload_n 0, 1) := by decide +kernel
theorem dX5_stretches_26 : decode cX5_stretches 26 = .ok (.invokevirtual 105, 3) := by decide +kernel
theorem dX5_stretches_29 : decode cX5_stretches 29 = .ok (.iconst 0, 1) := by decide +kernel
theorem dX5_stretches_30 : decode cX5_stretches 30 = .ok (.istore_n 1, 1) := by decide +kernel
theorem dX5_stretches_31 : decode cX5_stretches 31 = .ok (.iconst (-1), 1) := by decide +kernel
theorem dX5_stretches_32 : decode cX5_stretches 32 = .ok (.istore_n 2, 1) := by decide +kernel
theorem dX5_stretches_33 : decode cX5_stretches 33 = .ok (.iconst 0, 1) := by decide +kernel
theorem dX5_stretches_34 : decode cX5_stretches 34 = .ok (.istore_n 3, 1) := by decide +kernel
theorem dX5_stretches_35 : decode cX5_stretches 35 = .ok (.iload_n 3, 1) := by decide +kernel
theorem dX5_stretches_36 : decode cX5_stretches 36 = .ok (.aload_n 0, 1) := by decide +kernel
theorem dX5_stretches_37 : decode cX5_stretches 37 = .ok (.invokevirtual 48, 3) := by decide +kernel
theorem dX5_stretches_40 : decode cX5_stretches 40 = .ok (.if_icmp .ge 34, 3) := by decide +kernel
theorem dX5_stretches_43 : decode cX5_stretches 43 = .ok (.aload_n 0, 1) := by decide +kernel
theorem dX5_stretches_44 : decode cX5_stretches 44 = .ok (.iload_n 3, 1) := by decide +kernel
theorem dX5_stretches_45 : decode cX5_stretches 45 = .ok (.iload_n 2, 1) := by decide +kernel
theorem dX5_stretches_46 : decode cX5_stretches 46 = .ok (.invokevirtual 108, 3) := by decide +kernel
theorem dX5_stretches_49 : decode cX5_stretches 49 = .ok (.istore 4, 2) := by decide +kernel
theorem dX5_stretches_51 : decode cX5_stretches 51 = .ok (.iload_n 1, 1) := by decide +kernel
theorem dX5_stretches_52 : decode cX5_stretches 52 = .ok (.iload 4, 2) := by decide +kernel
theorem dX5_stretches_54 : decode cX5_stretches 54 = .ok (.iload_n 2, 1) := by decide +kernel
theorem dX5_stretches_55 : decode cX5_stretches 55 = .ok (.if_icmp .ne 7, 3) := by decide +kernel
theorem dX5_stretches_58 : decode cX5_stretches 58 = .ok (.iconst 0, 1) := by decide +kernel
theorem dX5_stretches_59 : decode cX5_stretches 59 = .ok (.goto 4, 3) := by decide +kernel
theorem dX5_stretches_62 : decode cX5_stretches 62 = .ok (.iconst 1, 1) := by decide +kernel
theorem dX5_stretches_63 : decode cX5_stretches 63 = .ok (.iadd, 1) := by decide +kernel
theorem dX5_stretches_64 : decode cX5_stretches 64 = .ok (.istore_n 1, 1) := by decide +kernel
theorem dX5_stretches_65 : decode cX5_stretches 65 = .ok (.iload 4, 2) := by decide +kernel
theorem dX5_stretches_67 : decode cX5_stretches 67 = .ok (.istore_n 2, 1) := by decide +kernel
theorem dX5_stretches_68 : decode cX5_stretches 68 = .ok (.iinc 3 1, 3) := by decide +kernel
theorem dX5_stretches_71 : decode cX5_stretches 71 = .ok (.goto (-36), 3) := by decide +kernel
theorem dX5_stretches_74 : decode cX5_stretches 74 = .ok (.iload_n 1, 1) := by decide +kernel
theorem dX5_stretches_75 : decode cX5_stretches 75 = .ok (.ireturn, 1) := by decide +kernel
set_option maxRecDepth 20000 in
theorem ggX5_isStrange_X5_run : GoodIn wsX5_isStrange wsX5_run := goodIn_r _ [6, 7, 8, 25, 26, 27, 28, 29, 30, 31, 32, 33, 34, 35, 36, 37] (by decide +kernel) (by decide +kernel)
set_option maxRecDepth 20000 in
theorem gX5_isStrange_X5_run : GoodIn wsX5_isStrange (wsV RX5 52 RX5 yX5_run wsX5_run) := goodIn_app (goodIn_of _ (by decide +kernel)) ggX5_isStrange_X5_run
set_option maxRecDepth 20000 in
theorem ggX5_isStrange_X5_costOf : GoodIn wsX5_isStrange wsX5_costOf := goodIn_r _ [12, 13, 14, 15, 5, 16, 17, 18, 19, 20, 21, 22, 23, 24, 25, 26, 27, 28, 29, 30, 31, 32, 33, 34, 35, 36, 37] (by decide +kernel) (by decide +kernel)
set_option maxRecDepth 20000 in
theorem gX5_isStrange_X5_costOf : GoodIn wsX5_isStrange (wsV RX5 87 RX5 yX5_costOf wsX5_costOf) := goodIn_app (goodIn_of _ (by decide +kernel)) ggX5_isStrange_X5_costOf
theorem dX5_isStrange_0 : decode cX5_isStrange 0 = .ok (.iconst 1, 1) := by decide +kernel
theorem dX5_isStrange_1 : decode cX5_isStrange 1 = .ok (.istore_n 3, 1) := by decide +kernel
theorem dX5_isStrange_2 : decode cX5_isStrange 2 = .ok (.iconst 0, 1) := by decide +kernel
theorem dX5_isStrange_3 : decode cX5_isStrange 3 = .ok (.istore 4, 2) := by decide +kernel
theorem dX5_isStrange_5 : decode cX5_isStrange 5 = .ok (.iload 4, 2) := by decide +kernel
theorem dX5_isStrange_7 : decode cX5_isStrange 7 = .ok (.aload_n 0, 1) := by decide +kernel
theorem dX5_isStrange_8 : decode cX5_isStrange 8 = .ok (.getfield 38, 3) := by decide +kernel
theorem dX5_isStrange_11 : decode cX5_isStrange 11 = .ok (.if_icmp .ge 34, 3) := by decide +kernel
theorem dX5_isStrange_14 : decode cX5_isStrange 14 = .ok (.iload_n 3, 1) := by decide +kernel
theorem dX5_isStrange_15 : decode cX5_isStrange 15 = .ok (.ifCond .eq 22, 3) := by decide +kernel
theorem dX5_isStrange_18 : decode cX5_isStrange 18 = .ok (.aload_n 0, 1) := by decide +kernel
theorem dX5_isStrange_19 : decode cX5_isStrange 19 = .ok (.iload 4, 2) := by decide +kernel
theorem dX5_isStrange_21 : decode cX5_isStrange 21 = .ok (.aload_n 0, 1) := by decide +kernel
theorem dX5_isStrange_22 : decode cX5_isStrange 22 = .ok (.iload_n 1, 1) := by decide +kernel
theorem dX5_isStrange_23 : decode cX5_isStrange 23 = .ok (.invokevirtual 52, 3) := by decide +kernel
theorem dX5_isStrange_26 : decode cX5_isStrange 26 = .ok (.invokevirtual 87, 3) := by decide +kernel
theorem dX5_isStrange_29 : decode cX5_isStrange 29 = .ok (.iload_n 2, 1) := by decide +kernel
theorem dX5_isStrange_30 : decode cX5_isStrange 30 = .ok (.if_icmp .lt 7, 3) := by decide +kernel
theorem dX5_isStrange_33 : decode cX5_isStrange 33 = .ok (.iconst 1, 1) := by decide +kernel
theorem dX5_isStrange_34 : decode cX5_isStrange 34 = .ok (.goto 4, 3) := by decide +kernel
theorem dX5_isStrange_37 : decode cX5_isStrange 37 = .ok (.iconst 0, 1) := by decide +kernel
theorem dX5_isStrange_38 : decode cX5_isStrange 38 = .ok (.istore_n 3, 1) := by decide +kernel
theorem dX5_isStrange_39 : decode cX5_isStrange 39 = .ok (.iinc 4 1, 3) := by decide +kernel
theorem dX5_isStrange_42 : decode cX5_isStrange 42 = .ok (.goto (-37), 3) := by decide +kernel
theorem dX5_isStrange_45 : decode cX5_isStrange 45 = .ok (.iload_n 3, 1) := by decide +kernel
theorem dX5_isStrange_46 : decode cX5_isStrange 46 = .ok (.ireturn, 1) := by decide +kernel
set_option maxRecDepth 20000 in
theorem ggX5_learn_X5_in : GoodIn wsX5_learn wsX5_in := goodIn_r _ [7] (by decide +kernel) (by decide +kernel)
set_option maxRecDepth 20000 in
theorem gX5_learn_X5_in : GoodIn wsX5_learn (va_wsS RX5 41 yX5_in wsX5_in) := goodIn_app (goodIn_of _ (by decide +kernel)) ggX5_learn_X5_in
set_option maxRecDepth 20000 in
theorem ggX5_learn_X5_runMany : GoodIn wsX5_learn wsX5_runMany := goodIn_r _ [11, 12, 43, 44, 45, 46, 47, 48, 49, 50, 51, 52, 53, 54, 55] (by decide +kernel) (by decide +kernel)
set_option maxRecDepth 20000 in
theorem gX5_learn_X5_runMany : GoodIn wsX5_learn (wsV RX5 48 RX5 yX5_runMany wsX5_runMany) := goodIn_app (goodIn_of _ (by decide +kernel)) ggX5_learn_X5_runMany
set_option maxRecDepth 20000 in
theorem ggX5_learn_X5_isStrange : GoodIn wsX5_learn wsX5_isStrange := goodIn_r _ [16, 1, 17, 18, 19, 6, 20, 21, 12, 22, 23, 24, 25, 26, 27, 28, 29, 2, 30, 31, 32, 33, 34, 35, 36, 43, 44, 45, 46, 47, 48, 49, 50, 51, 52, 53, 54, 55] (by decide +kernel) (by decide +kernel)
set_option maxRecDepth 20000 in
theorem gX5_learn_X5_isStrange : GoodIn wsX5_learn (wsV RX5 114 RX5 yX5_isStrange wsX5_isStrange) := goodIn_app (goodIn_of _ (by decide +kernel)) ggX5_learn_X5_isStrange
set_option maxRecDepth 20000 in
theorem ggX5_learn_X5_keeps : GoodIn wsX5_learn wsX5_keeps := goodIn_r _ [40, 41, 2, 42, 31, 30, 32, 17, 18, 19, 6, 20, 21, 12, 43, 44, 45, 46, 47, 48, 49, 50, 51, 52, 53, 54, 55] (by decide +kernel) (by decide +kernel)
set_option maxRecDepth 20000 in
theorem gX5_learn_X5_keeps : GoodIn wsX5_learn (wsV RX5 69 RX5 yX5_keeps wsX5_keeps) := goodIn_app (goodIn_of _ (by decide +kernel)) ggX5_learn_X5_keeps
theorem dX5_learn_0 : decode cX5_learn 0 = .ok (.aload_n 0, 1) := by decide +kernel
theorem dX5_learn_1 : decode cX5_learn 1 = .ok (.iload_n 1, 1) := by decide +kernel
theorem dX5_learn_2 : decode cX5_learn 2 = .ok (.iconst 0, 1) := by decide +kernel
theorem dX5_learn_3 : decode cX5_learn 3 = .ok (.bipush 20, 2) := by decide +kernel
theorem dX5_learn_5 : decode cX5_learn 5 = .ok (.invokestatic 41, 3) := by decide +kernel
theorem dX5_learn_8 : decode cX5_learn 8 = .ok (.ifCond .ne 7, 3) := by decide +kernel
theorem dX5_learn_11 : decode cX5_learn 11 = .ok (.iconst 1, 1) := by decide +kernel
theorem dX5_learn_12 : decode cX5_learn 12 = .ok (.goto 25, 3) := by decide +kernel
theorem dX5_learn_15 : decode cX5_learn 15 = .ok (.aload_n 0, 1) := by decide +kernel
theorem dX5_learn_16 : decode cX5_learn 16 = .ok (.getfield 38, 3) := by decide +kernel
theorem dX5_learn_19 : decode cX5_learn 19 = .ok (.iconst 5, 1) := by decide +kernel
theorem dX5_learn_20 : decode cX5_learn 20 = .ok (.if_icmp .eq 12, 3) := by decide +kernel
theorem dX5_learn_23 : decode cX5_learn 23 = .ok (.aload_n 0, 1) := by decide +kernel
theorem dX5_learn_24 : decode cX5_learn 24 = .ok (.getfield 59, 3) := by decide +kernel
theorem dX5_learn_27 : decode cX5_learn 27 = .ok (.bipush 30, 2) := by decide +kernel
theorem dX5_learn_29 : decode cX5_learn 29 = .ok (.if_icmp .ne 7, 3) := by decide +kernel
theorem dX5_learn_32 : decode cX5_learn 32 = .ok (.iconst 2, 1) := by decide +kernel
theorem dX5_learn_33 : decode cX5_learn 33 = .ok (.goto 4, 3) := by decide +kernel
theorem dX5_learn_36 : decode cX5_learn 36 = .ok (.iconst 0, 1) := by decide +kernel
theorem dX5_learn_37 : decode cX5_learn 37 = .ok (.putfield 35, 3) := by decide +kernel
theorem dX5_learn_40 : decode cX5_learn 40 = .ok (.aload_n 0, 1) := by decide +kernel
theorem dX5_learn_41 : decode cX5_learn 41 = .ok (.getfield 35, 3) := by decide +kernel
theorem dX5_learn_44 : decode cX5_learn 44 = .ok (.ifCond .le 5, 3) := by decide +kernel
theorem dX5_learn_47 : decode cX5_learn 47 = .ok (.iconst 0, 1) := by decide +kernel
theorem dX5_learn_48 : decode cX5_learn 48 = .ok (.ireturn, 1) := by decide +kernel
theorem dX5_learn_49 : decode cX5_learn 49 = .ok (.iconst 0, 1) := by decide +kernel
theorem dX5_learn_50 : decode cX5_learn 50 = .ok (.istore_n 2, 1) := by decide +kernel
theorem dX5_learn_51 : decode cX5_learn 51 = .ok (.iconst 0, 1) := by decide +kernel
theorem dX5_learn_52 : decode cX5_learn 52 = .ok (.istore_n 3, 1) := by decide +kernel
theorem dX5_learn_53 : decode cX5_learn 53 = .ok (.iconst 0, 1) := by decide +kernel
theorem dX5_learn_54 : decode cX5_learn 54 = .ok (.istore 4, 2) := by decide +kernel
theorem dX5_learn_56 : decode cX5_learn 56 = .ok (.iconst 0, 1) := by decide +kernel
theorem dX5_learn_57 : decode cX5_learn 57 = .ok (.istore 5, 2) := by decide +kernel
theorem dX5_learn_59 : decode cX5_learn 59 = .ok (.iload 5, 2) := by decide +kernel
theorem dX5_learn_61 : decode cX5_learn 61 = .ok (.aload_n 0, 1) := by decide +kernel
theorem dX5_learn_62 : decode cX5_learn 62 = .ok (.invokevirtual 48, 3) := by decide +kernel
theorem dX5_learn_65 : decode cX5_learn 65 = .ok (.if_icmp .ge 52, 3) := by decide +kernel
theorem dX5_learn_68 : decode cX5_learn 68 = .ok (.aload_n 0, 1) := by decide +kernel
theorem dX5_learn_69 : decode cX5_learn 69 = .ok (.iload 5, 2) := by decide +kernel
theorem dX5_learn_71 : decode cX5_learn 71 = .ok (.iload_n 1, 1) := by decide +kernel
theorem dX5_learn_72 : decode cX5_learn 72 = .ok (.invokevirtual 114, 3) := by decide +kernel
theorem dX5_learn_75 : decode cX5_learn 75 = .ok (.ifCond .eq 8, 3) := by decide +kernel
theorem dX5_learn_78 : decode cX5_learn 78 = .ok (.iload 4, 2) := by decide +kernel
theorem dX5_learn_80 : decode cX5_learn 80 = .ok (.goto 7, 3) := by decide +kernel
theorem dX5_learn_83 : decode cX5_learn 83 = .ok (.iload 5, 2) := by decide +kernel
theorem dX5_learn_85 : decode cX5_learn 85 = .ok (.iconst 1, 1) := by decide +kernel
theorem dX5_learn_86 : decode cX5_learn 86 = .ok (.iadd, 1) := by decide +kernel
theorem dX5_learn_87 : decode cX5_learn 87 = .ok (.istore 4, 2) := by decide +kernel
theorem dX5_learn_89 : decode cX5_learn 89 = .ok (.iload 5, 2) := by decide +kernel
theorem dX5_learn_91 : decode cX5_learn 91 = .ok (.iconst 1, 1) := by decide +kernel
theorem dX5_learn_92 : decode cX5_learn 92 = .ok (.iadd, 1) := by decide +kernel
theorem dX5_learn_93 : decode cX5_learn 93 = .ok (.iload 4, 2) := by decide +kernel
theorem dX5_learn_95 : decode cX5_learn 95 = .ok (.isub, 1) := by decide +kernel
theorem dX5_learn_96 : decode cX5_learn 96 = .ok (.iload_n 3, 1) := by decide +kernel
theorem dX5_learn_97 : decode cX5_learn 97 = .ok (.if_icmp .le 14, 3) := by decide +kernel
theorem dX5_learn_100 : decode cX5_learn 100 = .ok (.iload 5, 2) := by decide +kernel
theorem dX5_learn_102 : decode cX5_learn 102 = .ok (.iconst 1, 1) := by decide +kernel
theorem dX5_learn_103 : decode cX5_learn 103 = .ok (.iadd, 1) := by decide +kernel
theorem dX5_learn_104 : decode cX5_learn 104 = .ok (.iload 4, 2) := by decide +kernel
theorem dX5_learn_106 : decode cX5_learn 106 = .ok (.isub, 1) := by decide +kernel
theorem dX5_learn_107 : decode cX5_learn 107 = .ok (.istore_n 3, 1) := by decide +kernel
theorem dX5_learn_108 : decode cX5_learn 108 = .ok (.iload 4, 2) := by decide +kernel
theorem dX5_learn_110 : decode cX5_learn 110 = .ok (.istore_n 2, 1) := by decide +kernel
theorem dX5_learn_111 : decode cX5_learn 111 = .ok (.iinc 5 1, 3) := by decide +kernel
theorem dX5_learn_114 : decode cX5_learn 114 = .ok (.goto (-55), 3) := by decide +kernel
theorem dX5_learn_117 : decode cX5_learn 117 = .ok (.iload_n 3, 1) := by decide +kernel
theorem dX5_learn_118 : decode cX5_learn 118 = .ok (.iconst 3, 1) := by decide +kernel
theorem dX5_learn_119 : decode cX5_learn 119 = .ok (.if_icmp .ge 5, 3) := by decide +kernel
theorem dX5_learn_122 : decode cX5_learn 122 = .ok (.iconst (-1), 1) := by decide +kernel
theorem dX5_learn_123 : decode cX5_learn 123 = .ok (.ireturn, 1) := by decide +kernel
theorem dX5_learn_124 : decode cX5_learn 124 = .ok (.aload_n 0, 1) := by decide +kernel
theorem dX5_learn_125 : decode cX5_learn 125 = .ok (.aload_n 0, 1) := by decide +kernel
theorem dX5_learn_126 : decode cX5_learn 126 = .ok (.getfield 38, 3) := by decide +kernel
theorem dX5_learn_129 : decode cX5_learn 129 = .ok (.iload_n 2, 1) := by decide +kernel
theorem dX5_learn_130 : decode cX5_learn 130 = .ok (.iload_n 3, 1) := by decide +kernel
theorem dX5_learn_131 : decode cX5_learn 131 = .ok (.invokevirtual 69, 3) := by decide +kernel
theorem dX5_learn_134 : decode cX5_learn 134 = .ok (.pop, 1) := by decide +kernel
theorem dX5_learn_135 : decode cX5_learn 135 = .ok (.aload_n 0, 1) := by decide +kernel
theorem dX5_learn_136 : decode cX5_learn 136 = .ok (.dup, 1) := by decide +kernel
theorem dX5_learn_137 : decode cX5_learn 137 = .ok (.getfield 38, 3) := by decide +kernel
theorem dX5_learn_140 : decode cX5_learn 140 = .ok (.iconst 1, 1) := by decide +kernel
theorem dX5_learn_141 : decode cX5_learn 141 = .ok (.iadd, 1) := by decide +kernel
theorem dX5_learn_142 : decode cX5_learn 142 = .ok (.putfield 38, 3) := by decide +kernel
theorem dX5_learn_145 : decode cX5_learn 145 = .ok (.aload_n 0, 1) := by decide +kernel
theorem dX5_learn_146 : decode cX5_learn 146 = .ok (.getfield 38, 3) := by decide +kernel
theorem dX5_learn_149 : decode cX5_learn 149 = .ok (.iconst 1, 1) := by decide +kernel
theorem dX5_learn_150 : decode cX5_learn 150 = .ok (.isub, 1) := by decide +kernel
theorem dX5_learn_151 : decode cX5_learn 151 = .ok (.ireturn, 1) := by decide +kernel
theorem dJ9_abs_0f7a4_0 : decode cJ9_abs_0f7a4 0 = .ok (.iload_n 0, 1) := by decide +kernel
theorem dJ9_abs_0f7a4_1 : decode cJ9_abs_0f7a4 1 = .ok (.ifCond .ge 8, 3) := by decide +kernel
theorem dJ9_abs_0f7a4_4 : decode cJ9_abs_0f7a4 4 = .ok (.iload_n 0, 1) := by decide +kernel
theorem dJ9_abs_0f7a4_5 : decode cJ9_abs_0f7a4 5 = .ok (.ineg, 1) := by decide +kernel
theorem dJ9_abs_0f7a4_6 : decode cJ9_abs_0f7a4 6 = .ok (.goto 4, 3) := by decide +kernel
theorem dJ9_abs_0f7a4_9 : decode cJ9_abs_0f7a4 9 = .ok (.iload_n 0, 1) := by decide +kernel
theorem dJ9_abs_0f7a4_10 : decode cJ9_abs_0f7a4 10 = .ok (.ireturn, 1) := by decide +kernel
theorem dJ9_min_7cf53_0 : decode cJ9_min_7cf53 0 = .ok (.iload_n 0, 1) := by decide +kernel
theorem dJ9_min_7cf53_1 : decode cJ9_min_7cf53 1 = .ok (.iload_n 1, 1) := by decide +kernel
theorem dJ9_min_7cf53_2 : decode cJ9_min_7cf53 2 = .ok (.if_icmp .gt 7, 3) := by decide +kernel
theorem dJ9_min_7cf53_5 : decode cJ9_min_7cf53 5 = .ok (.iload_n 0, 1) := by decide +kernel
theorem dJ9_min_7cf53_6 : decode cJ9_min_7cf53 6 = .ok (.goto 4, 3) := by decide +kernel
theorem dJ9_min_7cf53_9 : decode cJ9_min_7cf53 9 = .ok (.iload_n 1, 1) := by decide +kernel
theorem dJ9_min_7cf53_10 : decode cJ9_min_7cf53 10 = .ok (.ireturn, 1) := by decide +kernel
