/-! ===== printed: decode rows, the class ===== -/
set_option maxRecDepth 20000 in
theorem ggX4_init_X2_init : GoodIn wsX4_init wsX2_init := goodIn_r _ [25, 26, 2, 3, 27, 28, 29, 55, 56] (by decide +kernel) (by decide +kernel)
set_option maxRecDepth 20000 in
theorem gX4_init_X2_init_n9 : GoodIn wsX4_init (wsX2_init) := ggX4_init_X2_init
set_option maxRecDepth 20000 in
theorem ggX4_init_X3_init : GoodIn wsX4_init wsX3_init := goodIn_r _ [31, 32, 2, 3, 27, 33, 34, 65, 66] (by decide +kernel) (by decide +kernel)
set_option maxRecDepth 20000 in
theorem gX4_init_X3_init_n18 : GoodIn wsX4_init (wsX3_init) := ggX4_init_X3_init
set_option maxRecDepth 20000 in
theorem ggX4_init_X1_init : GoodIn wsX4_init wsX1_init := goodIn_r _ [37, 38, 2, 3, 27, 39, 40, 41, 42, 43, 44, 67, 68, 69, 70, 71] (by decide +kernel) (by decide +kernel)
set_option maxRecDepth 20000 in
theorem gX4_init_X1_init : GoodIn wsX4_init (wsX1_init) := ggX4_init_X1_init
set_option maxRecDepth 20000 in
theorem ggX4_init_X0_init : GoodIn wsX4_init wsX0_init := goodIn_r _ [46, 47, 2, 3, 48, 27, 49, 50, 51, 52, 53, 54, 72, 73, 74, 75, 76, 77] (by decide +kernel) (by decide +kernel)
set_option maxRecDepth 20000 in
theorem gX4_init_X0_init_n36 : GoodIn wsX4_init (wsX0_init) := ggX4_init_X0_init
theorem dX4_init_0 : decode cX4_init 0 = .ok (.aload_n 0, 1) := by decide +kernel
theorem dX4_init_1 : decode cX4_init 1 = .ok (.invokespecial 1, 3) := by decide +kernel
theorem dX4_init_4 : decode cX4_init 4 = .ok (.aload_n 0, 1) := by decide +kernel
theorem dX4_init_5 : decode cX4_init 5 = .ok (.new 7, 3) := by decide +kernel
theorem dX4_init_8 : decode cX4_init 8 = .ok (.dup, 1) := by decide +kernel
theorem dX4_init_9 : decode cX4_init 9 = .ok (.invokespecial 9, 3) := by decide +kernel
theorem dX4_init_12 : decode cX4_init 12 = .ok (.putfield 10, 3) := by decide +kernel
theorem dX4_init_15 : decode cX4_init 15 = .ok (.aload_n 0, 1) := by decide +kernel
theorem dX4_init_16 : decode cX4_init 16 = .ok (.new 16, 3) := by decide +kernel
theorem dX4_init_19 : decode cX4_init 19 = .ok (.dup, 1) := by decide +kernel
theorem dX4_init_20 : decode cX4_init 20 = .ok (.invokespecial 18, 3) := by decide +kernel
theorem dX4_init_23 : decode cX4_init 23 = .ok (.putfield 19, 3) := by decide +kernel
theorem dX4_init_26 : decode cX4_init 26 = .ok (.aload_n 0, 1) := by decide +kernel
theorem dX4_init_27 : decode cX4_init 27 = .ok (.iconst 5, 1) := by decide +kernel
theorem dX4_init_28 : decode cX4_init 28 = .ok (.anewarray 16, 3) := by decide +kernel
theorem dX4_init_31 : decode cX4_init 31 = .ok (.putfield 23, 3) := by decide +kernel
theorem dX4_init_34 : decode cX4_init 34 = .ok (.aload_n 0, 1) := by decide +kernel
theorem dX4_init_35 : decode cX4_init 35 = .ok (.new 27, 3) := by decide +kernel
theorem dX4_init_38 : decode cX4_init 38 = .ok (.dup, 1) := by decide +kernel
theorem dX4_init_39 : decode cX4_init 39 = .ok (.invokespecial 29, 3) := by decide +kernel
theorem dX4_init_42 : decode cX4_init 42 = .ok (.putfield 30, 3) := by decide +kernel
theorem dX4_init_45 : decode cX4_init 45 = .ok (.aload_n 0, 1) := by decide +kernel
theorem dX4_init_46 : decode cX4_init 46 = .ok (.new 34, 3) := by decide +kernel
theorem dX4_init_49 : decode cX4_init 49 = .ok (.dup, 1) := by decide +kernel
theorem dX4_init_50 : decode cX4_init 50 = .ok (.invokespecial 36, 3) := by decide +kernel
theorem dX4_init_53 : decode cX4_init 53 = .ok (.putfield 37, 3) := by decide +kernel
theorem dX4_init_56 : decode cX4_init 56 = .ok (.aload_n 0, 1) := by decide +kernel
theorem dX4_init_57 : decode cX4_init 57 = .ok (.iconst 0, 1) := by decide +kernel
theorem dX4_init_58 : decode cX4_init 58 = .ok (.putfield 41, 3) := by decide +kernel
theorem dX4_init_61 : decode cX4_init 61 = .ok (.aload_n 0, 1) := by decide +kernel
theorem dX4_init_62 : decode cX4_init 62 = .ok (.iconst 3, 1) := by decide +kernel
theorem dX4_init_63 : decode cX4_init 63 = .ok (.putfield 45, 3) := by decide +kernel
theorem dX4_init_66 : decode cX4_init 66 = .ok (.aload_n 0, 1) := by decide +kernel
theorem dX4_init_67 : decode cX4_init 67 = .ok (.iconst 4, 1) := by decide +kernel
theorem dX4_init_68 : decode cX4_init 68 = .ok (.putfield 48, 3) := by decide +kernel
theorem dX4_init_71 : decode cX4_init 71 = .ok (.iconst 0, 1) := by decide +kernel
theorem dX4_init_72 : decode cX4_init 72 = .ok (.istore_n 1, 1) := by decide +kernel
theorem dX4_init_73 : decode cX4_init 73 = .ok (.iload_n 1, 1) := by decide +kernel
theorem dX4_init_74 : decode cX4_init 74 = .ok (.iconst 5, 1) := by decide +kernel
theorem dX4_init_75 : decode cX4_init 75 = .ok (.if_icmp .ge 22, 3) := by decide +kernel
theorem dX4_init_78 : decode cX4_init 78 = .ok (.aload_n 0, 1) := by decide +kernel
theorem dX4_init_79 : decode cX4_init 79 = .ok (.getfield 23, 3) := by decide +kernel
theorem dX4_init_82 : decode cX4_init 82 = .ok (.iload_n 1, 1) := by decide +kernel
theorem dX4_init_83 : decode cX4_init 83 = .ok (.new 16, 3) := by decide +kernel
theorem dX4_init_86 : decode cX4_init 86 = .ok (.dup, 1) := by decide +kernel
theorem dX4_init_87 : decode cX4_init 87 = .ok (.invokespecial 18, 3) := by decide +kernel
theorem dX4_init_90 : decode cX4_init 90 = .ok (.aastore, 1) := by decide +kernel
theorem dX4_init_91 : decode cX4_init 91 = .ok (.iinc 1 1, 3) := by decide +kernel
theorem dX4_init_94 : decode cX4_init 94 = .ok (.goto (-21), 3) := by decide +kernel
theorem dX4_init_97 : decode cX4_init 97 = .ok (.return_, 1) := by decide +kernel
set_option maxRecDepth 20000 in
theorem ggX4_spell_X4_letterNumber : GoodIn wsX4_spell wsX4_letterNumber := goodIn_r _ [10] (by decide +kernel) (by decide +kernel)
set_option maxRecDepth 20000 in
theorem gX4_spell_X4_letterNumber : GoodIn wsX4_spell (va_wsS RX4 51 yX4_letterNumber wsX4_letterNumber) := goodIn_app (goodIn_of _ (by decide +kernel)) ggX4_spell_X4_letterNumber
set_option maxRecDepth 20000 in
theorem ggX4_spell_X2_append : GoodIn wsX4_spell wsX2_append := goodIn_r _ [15, 16, 17, 26, 27] (by decide +kernel) (by decide +kernel)
set_option maxRecDepth 20000 in
theorem gX4_spell_X2_append : GoodIn wsX4_spell (wsV RX4 70 RX2 yX2_append wsX2_append) := goodIn_app (goodIn_of _ (by decide +kernel)) ggX4_spell_X2_append
theorem dX4_spell_0 : decode cX4_spell 0 = .ok (.iload_n 1, 1) := by decide +kernel
theorem dX4_spell_1 : decode cX4_spell 1 = .ok (.invokestatic 51, 3) := by decide +kernel
theorem dX4_spell_4 : decode cX4_spell 4 = .ok (.istore_n 2, 1) := by decide +kernel
theorem dX4_spell_5 : decode cX4_spell 5 = .ok (.iload_n 2, 1) := by decide +kernel
theorem dX4_spell_6 : decode cX4_spell 6 = .ok (.iconst (-1), 1) := by decide +kernel
theorem dX4_spell_7 : decode cX4_spell 7 = .ok (.if_icmp .ne 13, 3) := by decide +kernel
theorem dX4_spell_10 : decode cX4_spell 10 = .ok (.new 55, 3) := by decide +kernel
theorem dX4_spell_13 : decode cX4_spell 13 = .ok (.dup, 1) := by decide +kernel
theorem dX4_spell_14 : decode cX4_spell 14 = .ok (.ldc 57, 2) := by decide +kernel
theorem dX4_spell_16 : decode cX4_spell 16 = .ok (.invokespecial 59, 3) := by decide +kernel
theorem dX4_spell_19 : decode cX4_spell 19 = .ok (.athrow, 1) := by decide +kernel
theorem dX4_spell_20 : decode cX4_spell 20 = .ok (.aload_n 0, 1) := by decide +kernel
theorem dX4_spell_21 : decode cX4_spell 21 = .ok (.getfield 10, 3) := by decide +kernel
theorem dX4_spell_24 : decode cX4_spell 24 = .ok (.getfield 62, 3) := by decide +kernel
theorem dX4_spell_27 : decode cX4_spell 27 = .ok (.bipush 16, 2) := by decide +kernel
theorem dX4_spell_29 : decode cX4_spell 29 = .ok (.if_icmp .lt 13, 3) := by decide +kernel
theorem dX4_spell_32 : decode cX4_spell 32 = .ok (.new 65, 3) := by decide +kernel
theorem dX4_spell_35 : decode cX4_spell 35 = .ok (.dup, 1) := by decide +kernel
theorem dX4_spell_36 : decode cX4_spell 36 = .ok (.ldc 67, 2) := by decide +kernel
theorem dX4_spell_38 : decode cX4_spell 38 = .ok (.invokespecial 69, 3) := by decide +kernel
theorem dX4_spell_41 : decode cX4_spell 41 = .ok (.athrow, 1) := by decide +kernel
theorem dX4_spell_42 : decode cX4_spell 42 = .ok (.aload_n 0, 1) := by decide +kernel
theorem dX4_spell_43 : decode cX4_spell 43 = .ok (.getfield 10, 3) := by decide +kernel
theorem dX4_spell_46 : decode cX4_spell 46 = .ok (.iload_n 2, 1) := by decide +kernel
theorem dX4_spell_47 : decode cX4_spell 47 = .ok (.invokevirtual 70, 3) := by decide +kernel
theorem dX4_spell_50 : decode cX4_spell 50 = .ok (.aload_n 0, 1) := by decide +kernel
theorem dX4_spell_51 : decode cX4_spell 51 = .ok (.getfield 10, 3) := by decide +kernel
theorem dX4_spell_54 : decode cX4_spell 54 = .ok (.getfield 62, 3) := by decide +kernel
theorem dX4_spell_57 : decode cX4_spell 57 = .ok (.ireturn, 1) := by decide +kernel
theorem dX4_clearSpelled_0 : decode cX4_clearSpelled 0 = .ok (.aload_n 0, 1) := by decide +kernel
theorem dX4_clearSpelled_1 : decode cX4_clearSpelled 1 = .ok (.getfield 10, 3) := by decide +kernel
theorem dX4_clearSpelled_4 : decode cX4_clearSpelled 4 = .ok (.getfield 62, 3) := by decide +kernel
theorem dX4_clearSpelled_7 : decode cX4_clearSpelled 7 = .ok (.istore_n 1, 1) := by decide +kernel
theorem dX4_clearSpelled_8 : decode cX4_clearSpelled 8 = .ok (.aload_n 0, 1) := by decide +kernel
theorem dX4_clearSpelled_9 : decode cX4_clearSpelled 9 = .ok (.getfield 10, 3) := by decide +kernel
theorem dX4_clearSpelled_12 : decode cX4_clearSpelled 12 = .ok (.iconst 0, 1) := by decide +kernel
theorem dX4_clearSpelled_13 : decode cX4_clearSpelled 13 = .ok (.putfield 62, 3) := by decide +kernel
theorem dX4_clearSpelled_16 : decode cX4_clearSpelled 16 = .ok (.iload_n 1, 1) := by decide +kernel
theorem dX4_clearSpelled_17 : decode cX4_clearSpelled 17 = .ok (.ireturn, 1) := by decide +kernel
set_option maxRecDepth 20000 in
theorem ggX4_runs_X2_runCount : GoodIn wsX4_runs wsX2_runCount := goodIn_r _ [6, 7, 16, 17] (by decide +kernel) (by decide +kernel)
set_option maxRecDepth 20000 in
theorem gX4_runs_X2_runCount : GoodIn wsX4_runs (wsV RX4 74 RX2 yX2_runCount wsX2_runCount) := goodIn_app (goodIn_of _ (by decide +kernel)) ggX4_runs_X2_runCount
theorem dX4_runs_0 : decode cX4_runs 0 = .ok (.aload_n 0, 1) := by decide +kernel
theorem dX4_runs_1 : decode cX4_runs 1 = .ok (.getfield 10, 3) := by decide +kernel
theorem dX4_runs_4 : decode cX4_runs 4 = .ok (.invokevirtual 74, 3) := by decide +kernel
theorem dX4_runs_7 : decode cX4_runs 7 = .ok (.ireturn, 1) := by decide +kernel
set_option maxRecDepth 20000 in
theorem ggX4_runAt_X4_requireRunPlace : GoodIn wsX4_runAt wsX4_requireRunPlace := goodIn_ca (goodIn_r _ [6, 7, 8, 1, 9, 10, 11, 12, 13, 14, 24, 25, 26, 27, 28, 29, 30, 31, 32, 33] (by decide +kernel) (by decide +kernel)) (goodIn_sub (fun _ h => List.mem_cons_of_mem _ (List.mem_append_right _ h)) (by decide +kernel))
set_option maxRecDepth 20000 in
theorem gX4_runAt_X4_requireRunPlace : GoodIn wsX4_runAt (wsV RX4 78 RX4 yX4_requireRunPlace wsX4_requireRunPlace) := goodIn_app (goodIn_of _ (by decide +kernel)) ggX4_runAt_X4_requireRunPlace
set_option maxRecDepth 20000 in
theorem ggX4_runAt_X2_runNumber : GoodIn wsX4_runAt wsX2_runNumber := goodIn_r _ [18, 19, 20, 21, 12, 22, 14, 23, 32, 33] (by decide +kernel) (by decide +kernel)
set_option maxRecDepth 20000 in
theorem gX4_runAt_X2_runNumber : GoodIn wsX4_runAt (wsV RX4 81 RX2 yX2_runNumber wsX2_runNumber) := goodIn_app (goodIn_of _ (by decide +kernel)) ggX4_runAt_X2_runNumber
theorem dX4_runAt_0 : decode cX4_runAt 0 = .ok (.aload_n 0, 1) := by decide +kernel
theorem dX4_runAt_1 : decode cX4_runAt 1 = .ok (.iload_n 1, 1) := by decide +kernel
theorem dX4_runAt_2 : decode cX4_runAt 2 = .ok (.invokevirtual 78, 3) := by decide +kernel
theorem dX4_runAt_5 : decode cX4_runAt 5 = .ok (.aload_n 0, 1) := by decide +kernel
theorem dX4_runAt_6 : decode cX4_runAt 6 = .ok (.getfield 10, 3) := by decide +kernel
theorem dX4_runAt_9 : decode cX4_runAt 9 = .ok (.iload_n 1, 1) := by decide +kernel
theorem dX4_runAt_10 : decode cX4_runAt 10 = .ok (.invokevirtual 81, 3) := by decide +kernel
theorem dX4_runAt_13 : decode cX4_runAt 13 = .ok (.ireturn, 1) := by decide +kernel
set_option maxRecDepth 20000 in
theorem ggX4_addTongue_X4_newTongue : GoodIn wsX4_addTongue wsX4_newTongue := goodIn_r _ [8, 3, 9, 10, 11, 12, 13, 14, 15, 16] (by decide +kernel) (by decide +kernel)
set_option maxRecDepth 20000 in
theorem gX4_addTongue_X4_newTongue : GoodIn wsX4_addTongue (wsV RX4 87 RX4 yX4_newTongue wsX4_newTongue) := goodIn_app (goodIn_of _ (by decide +kernel)) ggX4_addTongue_X4_newTongue
theorem dX4_addTongue_0 : decode cX4_addTongue 0 = .ok (.aload_n 0, 1) := by decide +kernel
theorem dX4_addTongue_1 : decode cX4_addTongue 1 = .ok (.getfield 41, 3) := by decide +kernel
theorem dX4_addTongue_4 : decode cX4_addTongue 4 = .ok (.iconst 5, 1) := by decide +kernel
theorem dX4_addTongue_5 : decode cX4_addTongue 5 = .ok (.if_icmp .lt 13, 3) := by decide +kernel
theorem dX4_addTongue_8 : decode cX4_addTongue 8 = .ok (.new 65, 3) := by decide +kernel
theorem dX4_addTongue_11 : decode cX4_addTongue 11 = .ok (.dup, 1) := by decide +kernel
theorem dX4_addTongue_12 : decode cX4_addTongue 12 = .ok (.ldc 85, 2) := by decide +kernel
theorem dX4_addTongue_14 : decode cX4_addTongue 14 = .ok (.invokespecial 69, 3) := by decide +kernel
theorem dX4_addTongue_17 : decode cX4_addTongue 17 = .ok (.athrow, 1) := by decide +kernel
theorem dX4_addTongue_18 : decode cX4_addTongue 18 = .ok (.aload_n 0, 1) := by decide +kernel
theorem dX4_addTongue_19 : decode cX4_addTongue 19 = .ok (.invokevirtual 87, 3) := by decide +kernel
theorem dX4_addTongue_22 : decode cX4_addTongue 22 = .ok (.ireturn, 1) := by decide +kernel
theorem dX4_tongues_0 : decode cX4_tongues 0 = .ok (.aload_n 0, 1) := by decide +kernel
theorem dX4_tongues_1 : decode cX4_tongues 1 = .ok (.getfield 41, 3) := by decide +kernel
theorem dX4_tongues_4 : decode cX4_tongues 4 = .ok (.ireturn, 1) := by decide +kernel
set_option maxRecDepth 20000 in
theorem ggX4_teach_X4_requireTongue : GoodIn wsX4_teach wsX4_requireTongue := goodIn_ca (goodIn_r _ [10, 11, 12, 13, 60, 61, 62, 63, 64, 65, 66, 67] (by decide +kernel) (by decide +kernel)) (goodIn_sub (fun _ h => List.mem_cons_of_mem _ (List.mem_append_right _ h)) (by decide +kernel))
set_option maxRecDepth 20000 in
theorem gX4_teach_X4_requireTongue : GoodIn wsX4_teach (wsV RX4 90 RX4 yX4_requireTongue wsX4_requireTongue) := goodIn_app (goodIn_of _ (by decide +kernel)) ggX4_teach_X4_requireTongue
set_option maxRecDepth 20000 in
theorem ggX4_teach_X1_isFull : GoodIn wsX4_teach wsX1_isFull := goodIn_r _ [18, 19, 20, 21, 17, 22, 23, 70, 71, 72, 73, 74] (by decide +kernel) (by decide +kernel)
set_option maxRecDepth 20000 in
theorem gX4_teach_X1_isFull : GoodIn wsX4_teach (wsV RX4 95 RX1 yX1_isFull wsX1_isFull) := goodIn_app (goodIn_of _ (by decide +kernel)) ggX4_teach_X1_isFull
set_option maxRecDepth 20000 in
theorem ggX4_teach_X2_runCount : GoodIn wsX4_teach wsX2_runCount := goodIn_r _ [28, 29, 68, 69] (by decide +kernel) (by decide +kernel)
set_option maxRecDepth 20000 in
theorem gX4_teach_X2_runCount : GoodIn wsX4_teach (wsV RX4 74 RX2 yX2_runCount wsX2_runCount) := goodIn_app (goodIn_of _ (by decide +kernel)) ggX4_teach_X2_runCount
set_option maxRecDepth 20000 in
theorem ggX4_teach_X4_teachRuns : GoodIn wsX4_teach wsX4_teachRuns := goodIn_r _ [33, 5, 3, 34, 35, 36, 37, 38, 39, 17, 40, 23, 41, 42, 43, 19, 20, 21, 22, 44, 45, 46, 27, 47, 48, 49, 50, 51, 29, 52, 53, 54, 55, 56, 57, 58, 59, 60, 61, 62, 63, 64, 65, 66, 67, 70, 71, 72, 73, 74, 68, 69, 75, 76] (by decide +kernel) (by decide +kernel)
set_option maxRecDepth 20000 in
theorem gX4_teach_X4_teachRuns : GoodIn wsX4_teach (wsV RX4 101 RX4 yX4_teachRuns wsX4_teachRuns) := goodIn_app (goodIn_of _ (by decide +kernel)) ggX4_teach_X4_teachRuns
theorem dX4_teach_0 : decode cX4_teach 0 = .ok (.aload_n 0, 1) := by decide +kernel
theorem dX4_teach_1 : decode cX4_teach 1 = .ok (.iload_n 1, 1) := by decide +kernel
theorem dX4_teach_2 : decode cX4_teach 2 = .ok (.invokevirtual 90, 3) := by decide +kernel
theorem dX4_teach_5 : decode cX4_teach 5 = .ok (.aload_n 0, 1) := by decide +kernel
theorem dX4_teach_6 : decode cX4_teach 6 = .ok (.getfield 10, 3) := by decide +kernel
theorem dX4_teach_9 : decode cX4_teach 9 = .ok (.getfield 62, 3) := by decide +kernel
theorem dX4_teach_12 : decode cX4_teach 12 = .ok (.ifCond .ne 13, 3) := by decide +kernel
theorem dX4_teach_15 : decode cX4_teach 15 = .ok (.new 65, 3) := by decide +kernel
theorem dX4_teach_18 : decode cX4_teach 18 = .ok (.dup, 1) := by decide +kernel
theorem dX4_teach_19 : decode cX4_teach 19 = .ok (.ldc 93, 2) := by decide +kernel
theorem dX4_teach_21 : decode cX4_teach 21 = .ok (.invokespecial 69, 3) := by decide +kernel
theorem dX4_teach_24 : decode cX4_teach 24 = .ok (.athrow, 1) := by decide +kernel
theorem dX4_teach_25 : decode cX4_teach 25 = .ok (.aload_n 0, 1) := by decide +kernel
theorem dX4_teach_26 : decode cX4_teach 26 = .ok (.getfield 30, 3) := by decide +kernel
theorem dX4_teach_29 : decode cX4_teach 29 = .ok (.invokevirtual 95, 3) := by decide +kernel
theorem dX4_teach_32 : decode cX4_teach 32 = .ok (.ifCond .eq 13, 3) := by decide +kernel
theorem dX4_teach_35 : decode cX4_teach 35 = .ok (.new 65, 3) := by decide +kernel
theorem dX4_teach_38 : decode cX4_teach 38 = .ok (.dup, 1) := by decide +kernel
theorem dX4_teach_39 : decode cX4_teach 39 = .ok (.ldc 99, 2) := by decide +kernel
theorem dX4_teach_41 : decode cX4_teach 41 = .ok (.invokespecial 69, 3) := by decide +kernel
theorem dX4_teach_44 : decode cX4_teach 44 = .ok (.athrow, 1) := by decide +kernel
theorem dX4_teach_45 : decode cX4_teach 45 = .ok (.aload_n 0, 1) := by decide +kernel
theorem dX4_teach_46 : decode cX4_teach 46 = .ok (.iload_n 1, 1) := by decide +kernel
theorem dX4_teach_47 : decode cX4_teach 47 = .ok (.iconst 0, 1) := by decide +kernel
theorem dX4_teach_48 : decode cX4_teach 48 = .ok (.aload_n 0, 1) := by decide +kernel
theorem dX4_teach_49 : decode cX4_teach 49 = .ok (.getfield 10, 3) := by decide +kernel
theorem dX4_teach_52 : decode cX4_teach 52 = .ok (.invokevirtual 74, 3) := by decide +kernel
theorem dX4_teach_55 : decode cX4_teach 55 = .ok (.invokevirtual 101, 3) := by decide +kernel
theorem dX4_teach_58 : decode cX4_teach 58 = .ok (.ireturn, 1) := by decide +kernel
set_option maxRecDepth 20000 in
theorem ggX4_withdraw_X4_slotOfTaught : GoodIn wsX4_withdraw wsX4_slotOfTaught := goodIn_ca (goodIn_r _ [10, 11, 12, 2, 13, 14, 15, 16, 17, 18, 19, 20, 21, 22, 34, 35, 36, 37, 38, 39, 40, 41, 42, 43, 44, 45, 46] (by decide +kernel) (by decide +kernel)) (goodIn_sub (fun _ h => List.mem_cons_of_mem _ (List.mem_append_right _ h)) (by decide +kernel))
set_option maxRecDepth 20000 in
theorem gX4_withdraw_X4_slotOfTaught : GoodIn wsX4_withdraw (wsV RX4 105 RX4 yX4_slotOfTaught wsX4_slotOfTaught) := goodIn_app (goodIn_of _ (by decide +kernel)) ggX4_withdraw_X4_slotOfTaught
set_option maxRecDepth 20000 in
theorem ggX4_withdraw_X3_remove : GoodIn wsX4_withdraw wsX3_remove := goodIn_r _ [27, 28, 29, 47, 48] (by decide +kernel) (by decide +kernel)
set_option maxRecDepth 20000 in
theorem gX4_withdraw_X3_remove : GoodIn wsX4_withdraw (wsV RX4 119 RX3 yX3_remove wsX3_remove) := goodIn_app (goodIn_of _ (by decide +kernel)) ggX4_withdraw_X3_remove
set_option maxRecDepth 20000 in
theorem ggX4_withdraw_X1_free : GoodIn wsX4_withdraw wsX1_free := goodIn_r _ [33, 22, 42, 43, 44, 45, 46] (by decide +kernel) (by decide +kernel)
set_option maxRecDepth 20000 in
theorem gX4_withdraw_X1_free : GoodIn wsX4_withdraw (wsV RX4 122 RX1 yX1_free wsX1_free) := goodIn_app (goodIn_of _ (by decide +kernel)) ggX4_withdraw_X1_free
theorem dX4_withdraw_0 : decode cX4_withdraw 0 = .ok (.aload_n 0, 1) := by decide +kernel
theorem dX4_withdraw_1 : decode cX4_withdraw 1 = .ok (.iload_n 1, 1) := by decide +kernel
theorem dX4_withdraw_2 : decode cX4_withdraw 2 = .ok (.invokevirtual 105, 3) := by decide +kernel
theorem dX4_withdraw_5 : decode cX4_withdraw 5 = .ok (.istore_n 2, 1) := by decide +kernel
theorem dX4_withdraw_6 : decode cX4_withdraw 6 = .ok (.aload_n 0, 1) := by decide +kernel
theorem dX4_withdraw_7 : decode cX4_withdraw 7 = .ok (.getfield 23, 3) := by decide +kernel
theorem dX4_withdraw_10 : decode cX4_withdraw 10 = .ok (.aload_n 0, 1) := by decide +kernel
theorem dX4_withdraw_11 : decode cX4_withdraw 11 = .ok (.getfield 30, 3) := by decide +kernel
theorem dX4_withdraw_14 : decode cX4_withdraw 14 = .ok (.getfield 108, 3) := by decide +kernel
theorem dX4_withdraw_17 : decode cX4_withdraw 17 = .ok (.iload_n 2, 1) := by decide +kernel
theorem dX4_withdraw_18 : decode cX4_withdraw 18 = .ok (.iaload, 1) := by decide +kernel
theorem dX4_withdraw_19 : decode cX4_withdraw 19 = .ok (.aaload, 1) := by decide +kernel
theorem dX4_withdraw_20 : decode cX4_withdraw 20 = .ok (.astore_n 3, 1) := by decide +kernel
theorem dX4_withdraw_21 : decode cX4_withdraw 21 = .ok (.aload_n 0, 1) := by decide +kernel
theorem dX4_withdraw_22 : decode cX4_withdraw 22 = .ok (.getfield 30, 3) := by decide +kernel
theorem dX4_withdraw_25 : decode cX4_withdraw 25 = .ok (.getfield 112, 3) := by decide +kernel
theorem dX4_withdraw_28 : decode cX4_withdraw 28 = .ok (.iload_n 2, 1) := by decide +kernel
theorem dX4_withdraw_29 : decode cX4_withdraw 29 = .ok (.iaload, 1) := by decide +kernel
theorem dX4_withdraw_30 : decode cX4_withdraw 30 = .ok (.istore 4, 2) := by decide +kernel
theorem dX4_withdraw_32 : decode cX4_withdraw 32 = .ok (.iconst 0, 1) := by decide +kernel
theorem dX4_withdraw_33 : decode cX4_withdraw 33 = .ok (.istore 5, 2) := by decide +kernel
theorem dX4_withdraw_35 : decode cX4_withdraw 35 = .ok (.iload 5, 2) := by decide +kernel
theorem dX4_withdraw_37 : decode cX4_withdraw 37 = .ok (.iload 4, 2) := by decide +kernel
theorem dX4_withdraw_39 : decode cX4_withdraw 39 = .ok (.if_icmp .ge 25, 3) := by decide +kernel
theorem dX4_withdraw_42 : decode cX4_withdraw 42 = .ok (.aload_n 3, 1) := by decide +kernel
theorem dX4_withdraw_43 : decode cX4_withdraw 43 = .ok (.aload_n 0, 1) := by decide +kernel
theorem dX4_withdraw_44 : decode cX4_withdraw 44 = .ok (.getfield 30, 3) := by decide +kernel
theorem dX4_withdraw_47 : decode cX4_withdraw 47 = .ok (.getfield 115, 3) := by decide +kernel
theorem dX4_withdraw_50 : decode cX4_withdraw 50 = .ok (.iload_n 2, 1) := by decide +kernel
theorem dX4_withdraw_51 : decode cX4_withdraw 51 = .ok (.aaload, 1) := by decide +kernel
theorem dX4_withdraw_52 : decode cX4_withdraw 52 = .ok (.iload 5, 2) := by decide +kernel
theorem dX4_withdraw_54 : decode cX4_withdraw 54 = .ok (.iaload, 1) := by decide +kernel
theorem dX4_withdraw_55 : decode cX4_withdraw 55 = .ok (.invokevirtual 119, 3) := by decide +kernel
theorem dX4_withdraw_58 : decode cX4_withdraw 58 = .ok (.iinc 5 1, 3) := by decide +kernel
theorem dX4_withdraw_61 : decode cX4_withdraw 61 = .ok (.goto (-26), 3) := by decide +kernel
theorem dX4_withdraw_64 : decode cX4_withdraw 64 = .ok (.aload_n 0, 1) := by decide +kernel
theorem dX4_withdraw_65 : decode cX4_withdraw 65 = .ok (.getfield 30, 3) := by decide +kernel
theorem dX4_withdraw_68 : decode cX4_withdraw 68 = .ok (.iload_n 2, 1) := by decide +kernel
theorem dX4_withdraw_69 : decode cX4_withdraw 69 = .ok (.invokevirtual 122, 3) := by decide +kernel
theorem dX4_withdraw_72 : decode cX4_withdraw 72 = .ok (.iload 4, 2) := by decide +kernel
theorem dX4_withdraw_74 : decode cX4_withdraw 74 = .ok (.ireturn, 1) := by decide +kernel
set_option maxRecDepth 20000 in
theorem ggX4_tongueOf_X4_slotOfTaught : GoodIn wsX4_tongueOf wsX4_slotOfTaught := goodIn_ca (goodIn_r _ [7, 8, 9, 1, 10, 11, 12, 13, 14, 15, 16, 17, 18, 19, 20, 21, 22, 23, 24, 25, 26, 27, 28, 29, 30, 31, 32] (by decide +kernel) (by decide +kernel)) (goodIn_sub (fun _ h => List.mem_cons_of_mem _ (List.mem_append_right _ h)) (by decide +kernel))
set_option maxRecDepth 20000 in
theorem gX4_tongueOf_X4_slotOfTaught : GoodIn wsX4_tongueOf (wsV RX4 105 RX4 yX4_slotOfTaught wsX4_slotOfTaught) := goodIn_app (goodIn_of _ (by decide +kernel)) ggX4_tongueOf_X4_slotOfTaught
theorem dX4_tongueOf_0 : decode cX4_tongueOf 0 = .ok (.aload_n 0, 1) := by decide +kernel
theorem dX4_tongueOf_1 : decode cX4_tongueOf 1 = .ok (.getfield 30, 3) := by decide +kernel
theorem dX4_tongueOf_4 : decode cX4_tongueOf 4 = .ok (.getfield 108, 3) := by decide +kernel
theorem dX4_tongueOf_7 : decode cX4_tongueOf 7 = .ok (.aload_n 0, 1) := by decide +kernel
theorem dX4_tongueOf_8 : decode cX4_tongueOf 8 = .ok (.iload_n 1, 1) := by decide +kernel
theorem dX4_tongueOf_9 : decode cX4_tongueOf 9 = .ok (.invokevirtual 105, 3) := by decide +kernel
theorem dX4_tongueOf_12 : decode cX4_tongueOf 12 = .ok (.iaload, 1) := by decide +kernel
theorem dX4_tongueOf_13 : decode cX4_tongueOf 13 = .ok (.ireturn, 1) := by decide +kernel
set_option maxRecDepth 20000 in
theorem ggX4_total_X4_requireTongue : GoodIn wsX4_total wsX4_requireTongue := goodIn_ca (goodIn_r _ [7, 8, 9, 10, 11, 12, 13, 14, 15, 16, 17, 18] (by decide +kernel) (by decide +kernel)) (goodIn_sub (fun _ h => List.mem_cons_of_mem _ (List.mem_append_right _ h)) (by decide +kernel))
set_option maxRecDepth 20000 in
theorem gX4_total_X4_requireTongue : GoodIn wsX4_total (wsV RX4 90 RX4 yX4_requireTongue wsX4_requireTongue) := goodIn_app (goodIn_of _ (by decide +kernel)) ggX4_total_X4_requireTongue
theorem dX4_total_0 : decode cX4_total 0 = .ok (.aload_n 0, 1) := by decide +kernel
theorem dX4_total_1 : decode cX4_total 1 = .ok (.iload_n 1, 1) := by decide +kernel
theorem dX4_total_2 : decode cX4_total 2 = .ok (.invokevirtual 90, 3) := by decide +kernel
theorem dX4_total_5 : decode cX4_total 5 = .ok (.aload_n 0, 1) := by decide +kernel
theorem dX4_total_6 : decode cX4_total 6 = .ok (.getfield 23, 3) := by decide +kernel
theorem dX4_total_9 : decode cX4_total 9 = .ok (.iload_n 1, 1) := by decide +kernel
theorem dX4_total_10 : decode cX4_total 10 = .ok (.aaload, 1) := by decide +kernel
theorem dX4_total_11 : decode cX4_total 11 = .ok (.getfield 125, 3) := by decide +kernel
theorem dX4_total_14 : decode cX4_total 14 = .ok (.ireturn, 1) := by decide +kernel
set_option maxRecDepth 20000 in
theorem ggX4_count_X4_requireTongue : GoodIn wsX4_count wsX4_requireTongue := goodIn_ca (goodIn_r _ [7, 8, 9, 10, 14, 15, 16, 17, 18, 19, 20, 21] (by decide +kernel) (by decide +kernel)) (goodIn_sub (fun _ h => List.mem_cons_of_mem _ (List.mem_append_right _ h)) (by decide +kernel))
set_option maxRecDepth 20000 in
theorem gX4_count_X4_requireTongue : GoodIn wsX4_count (wsV RX4 90 RX4 yX4_requireTongue wsX4_requireTongue) := goodIn_app (goodIn_of _ (by decide +kernel)) ggX4_count_X4_requireTongue
set_option maxRecDepth 20000 in
theorem ggX4_count_X4_requireRunKind : GoodIn wsX4_count wsX4_requireRunKind := goodIn_ca (goodIn_r _ [13, 8, 9] (by decide +kernel) (by decide +kernel)) (goodIn_sub (fun _ h => List.mem_cons_of_mem _ (List.mem_append_right _ h)) (by decide +kernel))
set_option maxRecDepth 20000 in
theorem gX4_count_X4_requireRunKind : GoodIn wsX4_count (va_wsS RX4 128 yX4_requireRunKind wsX4_requireRunKind) := goodIn_app (goodIn_of _ (by decide +kernel)) ggX4_count_X4_requireRunKind
theorem dX4_count_0 : decode cX4_count 0 = .ok (.aload_n 0, 1) := by decide +kernel
theorem dX4_count_1 : decode cX4_count 1 = .ok (.iload_n 1, 1) := by decide +kernel
theorem dX4_count_2 : decode cX4_count 2 = .ok (.invokevirtual 90, 3) := by decide +kernel
theorem dX4_count_5 : decode cX4_count 5 = .ok (.iload_n 2, 1) := by decide +kernel
theorem dX4_count_6 : decode cX4_count 6 = .ok (.invokestatic 128, 3) := by decide +kernel
theorem dX4_count_9 : decode cX4_count 9 = .ok (.aload_n 0, 1) := by decide +kernel
theorem dX4_count_10 : decode cX4_count 10 = .ok (.getfield 23, 3) := by decide +kernel
theorem dX4_count_13 : decode cX4_count 13 = .ok (.iload_n 1, 1) := by decide +kernel
theorem dX4_count_14 : decode cX4_count 14 = .ok (.aaload, 1) := by decide +kernel
theorem dX4_count_15 : decode cX4_count 15 = .ok (.getfield 131, 3) := by decide +kernel
theorem dX4_count_18 : decode cX4_count 18 = .ok (.iload_n 2, 1) := by decide +kernel
theorem dX4_count_19 : decode cX4_count 19 = .ok (.iaload, 1) := by decide +kernel
theorem dX4_count_20 : decode cX4_count 20 = .ok (.ireturn, 1) := by decide +kernel
set_option maxRecDepth 20000 in
theorem ggX4_cost_X4_requireTongue : GoodIn wsX4_cost wsX4_requireTongue := goodIn_ca (goodIn_r _ [6, 7, 8, 9, 20, 21, 22, 23, 24, 25, 26, 27] (by decide +kernel) (by decide +kernel)) (goodIn_sub (fun _ h => List.mem_cons_of_mem _ (List.mem_append_right _ h)) (by decide +kernel))
set_option maxRecDepth 20000 in
theorem gX4_cost_X4_requireTongue : GoodIn wsX4_cost (wsV RX4 90 RX4 yX4_requireTongue wsX4_requireTongue) := goodIn_app (goodIn_of _ (by decide +kernel)) ggX4_cost_X4_requireTongue
set_option maxRecDepth 20000 in
theorem ggX4_cost_X4_requireRunKind : GoodIn wsX4_cost wsX4_requireRunKind := goodIn_ca (goodIn_r _ [12, 7, 8] (by decide +kernel) (by decide +kernel)) (goodIn_sub (fun _ h => List.mem_cons_of_mem _ (List.mem_append_right _ h)) (by decide +kernel))
set_option maxRecDepth 20000 in
theorem gX4_cost_X4_requireRunKind : GoodIn wsX4_cost (va_wsS RX4 128 yX4_requireRunKind wsX4_requireRunKind) := goodIn_app (goodIn_of _ (by decide +kernel)) ggX4_cost_X4_requireRunKind
set_option maxRecDepth 20000 in
theorem ggX4_cost_X3_costOf : GoodIn wsX4_cost wsX3_costOf := goodIn_r _ [17, 18, 19, 28, 29] (by decide +kernel) (by decide +kernel)
set_option maxRecDepth 20000 in
theorem gX4_cost_X3_costOf : GoodIn wsX4_cost (wsV RX4 134 RX3 yX3_costOf wsX3_costOf) := goodIn_app (goodIn_of _ (by decide +kernel)) ggX4_cost_X3_costOf
theorem dX4_cost_0 : decode cX4_cost 0 = .ok (.aload_n 0, 1) := by decide +kernel
theorem dX4_cost_1 : decode cX4_cost 1 = .ok (.iload_n 1, 1) := by decide +kernel
theorem dX4_cost_2 : decode cX4_cost 2 = .ok (.invokevirtual 90, 3) := by decide +kernel
theorem dX4_cost_5 : decode cX4_cost 5 = .ok (.iload_n 2, 1) := by decide +kernel
theorem dX4_cost_6 : decode cX4_cost 6 = .ok (.invokestatic 128, 3) := by decide +kernel
theorem dX4_cost_9 : decode cX4_cost 9 = .ok (.aload_n 0, 1) := by decide +kernel
theorem dX4_cost_10 : decode cX4_cost 10 = .ok (.getfield 23, 3) := by decide +kernel
theorem dX4_cost_13 : decode cX4_cost 13 = .ok (.iload_n 1, 1) := by decide +kernel
theorem dX4_cost_14 : decode cX4_cost 14 = .ok (.aaload, 1) := by decide +kernel
theorem dX4_cost_15 : decode cX4_cost 15 = .ok (.iload_n 2, 1) := by decide +kernel
theorem dX4_cost_16 : decode cX4_cost 16 = .ok (.invokevirtual 134, 3) := by decide +kernel
theorem dX4_cost_19 : decode cX4_cost 19 = .ok (.ireturn, 1) := by decide +kernel
set_option maxRecDepth 20000 in
theorem ggX4_textCost_X4_requireTongue : GoodIn wsX4_textCost wsX4_requireTongue := goodIn_ca (goodIn_r _ [5, 6, 7, 8, 37, 38, 39, 40, 41, 42, 43, 44] (by decide +kernel) (by decide +kernel)) (goodIn_sub (fun _ h => List.mem_cons_of_mem _ (List.mem_append_right _ h)) (by decide +kernel))
set_option maxRecDepth 20000 in
theorem gX4_textCost_X4_requireTongue : GoodIn wsX4_textCost (wsV RX4 90 RX4 yX4_requireTongue wsX4_requireTongue) := goodIn_app (goodIn_of _ (by decide +kernel)) ggX4_textCost_X4_requireTongue
set_option maxRecDepth 20000 in
theorem ggX4_textCost_X4_costOfSpelled : GoodIn wsX4_textCost wsX4_costOfSpelled := goodIn_r _ [12, 13, 14, 15, 16, 17, 18, 19, 20, 21, 22, 23, 24, 25, 26, 27, 28, 29, 30, 31, 32, 33, 34, 35, 36, 37, 38, 39, 40, 41, 42, 43, 44, 45, 46, 47, 48] (by decide +kernel) (by decide +kernel)
set_option maxRecDepth 20000 in
theorem gX4_textCost_X4_costOfSpelled : GoodIn wsX4_textCost (wsV RX4 140 RX4 yX4_costOfSpelled wsX4_costOfSpelled) := goodIn_app (goodIn_of _ (by decide +kernel)) ggX4_textCost_X4_costOfSpelled
theorem dX4_textCost_0 : decode cX4_textCost 0 = .ok (.aload_n 0, 1) := by decide +kernel
theorem dX4_textCost_1 : decode cX4_textCost 1 = .ok (.iload_n 1, 1) := by decide +kernel
theorem dX4_textCost_2 : decode cX4_textCost 2 = .ok (.invokevirtual 90, 3) := by decide +kernel
theorem dX4_textCost_5 : decode cX4_textCost 5 = .ok (.aload_n 0, 1) := by decide +kernel
theorem dX4_textCost_6 : decode cX4_textCost 6 = .ok (.iload_n 1, 1) := by decide +kernel
theorem dX4_textCost_7 : decode cX4_textCost 7 = .ok (.invokevirtual 140, 3) := by decide +kernel
theorem dX4_textCost_10 : decode cX4_textCost 10 = .ok (.ireturn, 1) := by decide +kernel
theorem dX4_setPrice_0 : decode cX4_setPrice 0 = .ok (.iload_n 1, 1) := by decide +kernel
theorem dX4_setPrice_1 : decode cX4_setPrice 1 = .ok (.ifCond .lt 9, 3) := by decide +kernel
theorem dX4_setPrice_4 : decode cX4_setPrice 4 = .ok (.iload_n 1, 1) := by decide +kernel
theorem dX4_setPrice_5 : decode cX4_setPrice 5 = .ok (.bipush 100, 2) := by decide +kernel
theorem dX4_setPrice_7 : decode cX4_setPrice 7 = .ok (.if_icmp .le 13, 3) := by decide +kernel
theorem dX4_setPrice_10 : decode cX4_setPrice 10 = .ok (.new 55, 3) := by decide +kernel
theorem dX4_setPrice_13 : decode cX4_setPrice 13 = .ok (.dup, 1) := by decide +kernel
theorem dX4_setPrice_14 : decode cX4_setPrice 14 = .ok (.ldc 155, 2) := by decide +kernel
theorem dX4_setPrice_16 : decode cX4_setPrice 16 = .ok (.invokespecial 59, 3) := by decide +kernel
theorem dX4_setPrice_19 : decode cX4_setPrice 19 = .ok (.athrow, 1) := by decide +kernel
theorem dX4_setPrice_20 : decode cX4_setPrice 20 = .ok (.aload_n 0, 1) := by decide +kernel
theorem dX4_setPrice_21 : decode cX4_setPrice 21 = .ok (.getfield 48, 3) := by decide +kernel
theorem dX4_setPrice_24 : decode cX4_setPrice 24 = .ok (.istore_n 2, 1) := by decide +kernel
theorem dX4_setPrice_25 : decode cX4_setPrice 25 = .ok (.aload_n 0, 1) := by decide +kernel
theorem dX4_setPrice_26 : decode cX4_setPrice 26 = .ok (.iload_n 1, 1) := by decide +kernel
theorem dX4_setPrice_27 : decode cX4_setPrice 27 = .ok (.putfield 48, 3) := by decide +kernel
theorem dX4_setPrice_30 : decode cX4_setPrice 30 = .ok (.iload_n 2, 1) := by decide +kernel
theorem dX4_setPrice_31 : decode cX4_setPrice 31 = .ok (.ireturn, 1) := by decide +kernel
set_option maxRecDepth 20000 in
theorem ggX4_cutCost_X4_requireSomeTongue : GoodIn wsX4_cutCost wsX4_requireSomeTongue := goodIn_ca (goodIn_r _ [6, 7, 8, 9, 74, 75, 76, 77, 78, 79, 80, 81] (by decide +kernel) (by decide +kernel)) (goodIn_sub (fun _ h => List.mem_cons_of_mem _ (List.mem_append_right _ h)) (by decide +kernel))
set_option maxRecDepth 20000 in
theorem gX4_cutCost_X4_requireSomeTongue : GoodIn wsX4_cutCost (wsV RX4 157 RX4 yX4_requireSomeTongue wsX4_requireSomeTongue) := goodIn_app (goodIn_of _ (by decide +kernel)) ggX4_cutCost_X4_requireSomeTongue
set_option maxRecDepth 20000 in
theorem ggX4_cutCost_X4_layCostsForCut : GoodIn wsX4_cutCost wsX4_layCostsForCut := goodIn_r _ [13, 1, 14, 9, 15, 16, 17, 18, 19, 20, 21, 22, 23, 24, 25, 26, 27, 28, 29, 30, 31, 32, 33, 34, 35, 36, 37, 38, 39, 40, 41, 42, 43, 44, 45, 46, 47, 74, 75, 76, 77, 78, 79, 80, 81, 82, 83, 84, 85, 86, 87, 88, 89, 90, 91] (by decide +kernel) (by decide +kernel)
set_option maxRecDepth 20000 in
theorem gX4_cutCost_X4_layCostsForCut : GoodIn wsX4_cutCost (wsV RX4 160 RX4 yX4_layCostsForCut wsX4_layCostsForCut) := goodIn_app (goodIn_of _ (by decide +kernel)) ggX4_cutCost_X4_layCostsForCut
set_option maxRecDepth 20000 in
theorem ggX4_cutCost_X0_leastCost : GoodIn wsX4_cutCost wsX0_leastCost := goodIn_r _ [51, 29, 52, 53, 54, 55, 27, 56, 30, 57, 58, 59, 60, 61, 62, 63, 64, 65, 66, 67, 68, 69, 70, 71, 72, 73, 31, 82, 83, 84, 85, 86, 87] (by decide +kernel) (by decide +kernel)
set_option maxRecDepth 20000 in
theorem gX4_cutCost_X0_leastCost : GoodIn wsX4_cutCost (wsV RX4 163 RX0 yX0_leastCost wsX0_leastCost) := goodIn_app (goodIn_of _ (by decide +kernel)) ggX4_cutCost_X0_leastCost
theorem dX4_cutCost_0 : decode cX4_cutCost 0 = .ok (.aload_n 0, 1) := by decide +kernel
theorem dX4_cutCost_1 : decode cX4_cutCost 1 = .ok (.invokevirtual 157, 3) := by decide +kernel
theorem dX4_cutCost_4 : decode cX4_cutCost 4 = .ok (.aload_n 0, 1) := by decide +kernel
theorem dX4_cutCost_5 : decode cX4_cutCost 5 = .ok (.invokevirtual 160, 3) := by decide +kernel
theorem dX4_cutCost_8 : decode cX4_cutCost 8 = .ok (.aload_n 0, 1) := by decide +kernel
theorem dX4_cutCost_9 : decode cX4_cutCost 9 = .ok (.getfield 37, 3) := by decide +kernel
theorem dX4_cutCost_12 : decode cX4_cutCost 12 = .ok (.invokevirtual 163, 3) := by decide +kernel
theorem dX4_cutCost_15 : decode cX4_cutCost 15 = .ok (.ireturn, 1) := by decide +kernel
set_option maxRecDepth 20000 in
theorem ggX4_cutCostByTrying_X4_requireSomeTongue : GoodIn wsX4_cutCostByTrying wsX4_requireSomeTongue := goodIn_ca (goodIn_r _ [10, 1, 2, 11, 66, 67, 68, 69, 70, 71, 72, 73] (by decide +kernel) (by decide +kernel)) (goodIn_sub (fun _ h => List.mem_cons_of_mem _ (List.mem_append_right _ h)) (by decide +kernel))
set_option maxRecDepth 20000 in
theorem gX4_cutCostByTrying_X4_requireSomeTongue : GoodIn wsX4_cutCostByTrying (wsV RX4 157 RX4 yX4_requireSomeTongue wsX4_requireSomeTongue) := goodIn_app (goodIn_of _ (by decide +kernel)) ggX4_cutCostByTrying_X4_requireSomeTongue
set_option maxRecDepth 20000 in
theorem ggX4_cutCostByTrying_X4_layCostsForCut : GoodIn wsX4_cutCostByTrying wsX4_layCostsForCut := goodIn_r _ [15, 5, 3, 11, 16, 17, 18, 19, 20, 21, 22, 23, 24, 25, 26, 27, 28, 29, 30, 31, 32, 33, 34, 35, 36, 37, 38, 39, 40, 41, 42, 43, 44, 45, 46, 47, 48, 66, 67, 68, 69, 70, 71, 72, 73, 76, 77, 78, 79, 80, 81, 74, 75, 82, 83] (by decide +kernel) (by decide +kernel)
set_option maxRecDepth 20000 in
theorem gX4_cutCostByTrying_X4_layCostsForCut : GoodIn wsX4_cutCostByTrying (wsV RX4 160 RX4 yX4_layCostsForCut wsX4_layCostsForCut) := goodIn_app (goodIn_of _ (by decide +kernel)) ggX4_cutCostByTrying_X4_layCostsForCut
set_option maxRecDepth 20000 in
theorem ggX4_cutCostByTrying_X0_leastCostByTrying : GoodIn wsX4_cutCostByTrying wsX0_leastCostByTrying := goodIn_r _ [52, 53, 54, 28, 55, 30, 56, 31, 57, 58, 59, 60, 61, 62, 63, 64, 65, 32, 76, 77, 78, 79, 80, 81] (by decide +kernel) (by decide +kernel)
set_option maxRecDepth 20000 in
theorem gX4_cutCostByTrying_X0_leastCostByTrying : GoodIn wsX4_cutCostByTrying (wsV RX4 168 RX0 yX0_leastCostByTrying wsX0_leastCostByTrying) := goodIn_app (goodIn_of _ (by decide +kernel)) ggX4_cutCostByTrying_X0_leastCostByTrying
theorem dX4_cutCostByTrying_0 : decode cX4_cutCostByTrying 0 = .ok (.aload_n 0, 1) := by decide +kernel
theorem dX4_cutCostByTrying_1 : decode cX4_cutCostByTrying 1 = .ok (.invokevirtual 157, 3) := by decide +kernel
theorem dX4_cutCostByTrying_4 : decode cX4_cutCostByTrying 4 = .ok (.aload_n 0, 1) := by decide +kernel
theorem dX4_cutCostByTrying_5 : decode cX4_cutCostByTrying 5 = .ok (.getfield 10, 3) := by decide +kernel
theorem dX4_cutCostByTrying_8 : decode cX4_cutCostByTrying 8 = .ok (.getfield 62, 3) := by decide +kernel
theorem dX4_cutCostByTrying_11 : decode cX4_cutCostByTrying 11 = .ok (.iconst 5, 1) := by decide +kernel
theorem dX4_cutCostByTrying_12 : decode cX4_cutCostByTrying 12 = .ok (.if_icmp .le 13, 3) := by decide +kernel
theorem dX4_cutCostByTrying_15 : decode cX4_cutCostByTrying 15 = .ok (.new 65, 3) := by decide +kernel
theorem dX4_cutCostByTrying_18 : decode cX4_cutCostByTrying 18 = .ok (.dup, 1) := by decide +kernel
theorem dX4_cutCostByTrying_19 : decode cX4_cutCostByTrying 19 = .ok (.ldc 166, 2) := by decide +kernel
theorem dX4_cutCostByTrying_21 : decode cX4_cutCostByTrying 21 = .ok (.invokespecial 69, 3) := by decide +kernel
theorem dX4_cutCostByTrying_24 : decode cX4_cutCostByTrying 24 = .ok (.athrow, 1) := by decide +kernel
theorem dX4_cutCostByTrying_25 : decode cX4_cutCostByTrying 25 = .ok (.aload_n 0, 1) := by decide +kernel
theorem dX4_cutCostByTrying_26 : decode cX4_cutCostByTrying 26 = .ok (.invokevirtual 160, 3) := by decide +kernel
theorem dX4_cutCostByTrying_29 : decode cX4_cutCostByTrying 29 = .ok (.aload_n 0, 1) := by decide +kernel
theorem dX4_cutCostByTrying_30 : decode cX4_cutCostByTrying 30 = .ok (.getfield 37, 3) := by decide +kernel
theorem dX4_cutCostByTrying_33 : decode cX4_cutCostByTrying 33 = .ok (.invokevirtual 168, 3) := by decide +kernel
theorem dX4_cutCostByTrying_36 : decode cX4_cutCostByTrying 36 = .ok (.ireturn, 1) := by decide +kernel
set_option maxRecDepth 20000 in
theorem ggX4_cutTongue_X4_requireSomeTongue : GoodIn wsX4_cutTongue wsX4_requireSomeTongue := goodIn_ca (goodIn_r _ [7, 8, 9, 10, 82, 83, 84, 85, 86, 87, 88, 89] (by decide +kernel) (by decide +kernel)) (goodIn_sub (fun _ h => List.mem_cons_of_mem _ (List.mem_append_left _ (List.mem_append_right _ h))) (by decide +kernel))
set_option maxRecDepth 20000 in
theorem gX4_cutTongue_X4_requireSomeTongue : GoodIn wsX4_cutTongue (wsV RX4 157 RX4 yX4_requireSomeTongue wsX4_requireSomeTongue) := goodIn_app (goodIn_of _ (by decide +kernel)) ggX4_cutTongue_X4_requireSomeTongue
set_option maxRecDepth 20000 in
theorem ggX4_cutTongue_X4_requireRunPlace : GoodIn wsX4_cutTongue wsX4_requireRunPlace := goodIn_ca (goodIn_r _ [14, 15, 16, 17, 18, 19, 20, 21, 22, 23, 82, 83, 84, 85, 86, 87, 88, 89, 96, 97] (by decide +kernel) (by decide +kernel)) (goodIn_sub (fun _ h => List.mem_cons_of_mem _ (List.mem_append_right _ h)) (by decide +kernel))
set_option maxRecDepth 20000 in
theorem gX4_cutTongue_X4_requireRunPlace : GoodIn wsX4_cutTongue (wsV RX4 78 RX4 yX4_requireRunPlace wsX4_requireRunPlace) := goodIn_app (goodIn_of _ (by decide +kernel)) ggX4_cutTongue_X4_requireRunPlace
set_option maxRecDepth 20000 in
theorem ggX4_cutTongue_X4_layCostsForCut : GoodIn wsX4_cutTongue wsX4_layCostsForCut := goodIn_r _ [27, 1, 17, 10, 28, 29, 30, 18, 19, 20, 21, 22, 23, 31, 32, 33, 34, 35, 36, 37, 38, 39, 40, 41, 42, 43, 44, 45, 46, 47, 48, 49, 50, 51, 52, 53, 54, 82, 83, 84, 85, 86, 87, 88, 89, 90, 91, 92, 93, 94, 95, 96, 97, 98, 99] (by decide +kernel) (by decide +kernel)
set_option maxRecDepth 20000 in
theorem gX4_cutTongue_X4_layCostsForCut : GoodIn wsX4_cutTongue (wsV RX4 160 RX4 yX4_layCostsForCut wsX4_layCostsForCut) := goodIn_app (goodIn_of _ (by decide +kernel)) ggX4_cutTongue_X4_layCostsForCut
set_option maxRecDepth 20000 in
theorem ggX4_cutTongue_X0_findToldCut : GoodIn wsX4_cutTongue wsX0_findToldCut := goodIn_r _ [58, 36, 59, 60, 61, 62, 34, 63, 37, 64, 65, 66, 67, 68, 69, 70, 71, 72, 73, 74, 75, 76, 77, 78, 79, 80, 81, 38, 90, 91, 92, 93, 94, 95] (by decide +kernel) (by decide +kernel)
set_option maxRecDepth 20000 in
theorem gX4_cutTongue_X0_findToldCut : GoodIn wsX4_cutTongue (wsV RX4 171 RX0 yX0_findToldCut wsX0_findToldCut) := goodIn_app (goodIn_of _ (by decide +kernel)) ggX4_cutTongue_X0_findToldCut
theorem dX4_cutTongue_0 : decode cX4_cutTongue 0 = .ok (.aload_n 0, 1) := by decide +kernel
theorem dX4_cutTongue_1 : decode cX4_cutTongue 1 = .ok (.invokevirtual 157, 3) := by decide +kernel
theorem dX4_cutTongue_4 : decode cX4_cutTongue 4 = .ok (.aload_n 0, 1) := by decide +kernel
theorem dX4_cutTongue_5 : decode cX4_cutTongue 5 = .ok (.iload_n 1, 1) := by decide +kernel
theorem dX4_cutTongue_6 : decode cX4_cutTongue 6 = .ok (.invokevirtual 78, 3) := by decide +kernel
theorem dX4_cutTongue_9 : decode cX4_cutTongue 9 = .ok (.aload_n 0, 1) := by decide +kernel
theorem dX4_cutTongue_10 : decode cX4_cutTongue 10 = .ok (.invokevirtual 160, 3) := by decide +kernel
theorem dX4_cutTongue_13 : decode cX4_cutTongue 13 = .ok (.aload_n 0, 1) := by decide +kernel
theorem dX4_cutTongue_14 : decode cX4_cutTongue 14 = .ok (.getfield 37, 3) := by decide +kernel
theorem dX4_cutTongue_17 : decode cX4_cutTongue 17 = .ok (.invokevirtual 171, 3) := by decide +kernel
theorem dX4_cutTongue_20 : decode cX4_cutTongue 20 = .ok (.aload_n 0, 1) := by decide +kernel
theorem dX4_cutTongue_21 : decode cX4_cutTongue 21 = .ok (.getfield 37, 3) := by decide +kernel
theorem dX4_cutTongue_24 : decode cX4_cutTongue 24 = .ok (.getfield 174, 3) := by decide +kernel
theorem dX4_cutTongue_27 : decode cX4_cutTongue 27 = .ok (.iload_n 1, 1) := by decide +kernel
theorem dX4_cutTongue_28 : decode cX4_cutTongue 28 = .ok (.iaload, 1) := by decide +kernel
theorem dX4_cutTongue_29 : decode cX4_cutTongue 29 = .ok (.ireturn, 1) := by decide +kernel
set_option maxRecDepth 20000 in
theorem ggX4_stretches_X4_requireSomeTongue : GoodIn wsX4_stretches wsX4_requireSomeTongue := goodIn_ca (goodIn_r _ [6, 7, 8, 9, 79, 80, 81, 82, 83, 84, 85, 86] (by decide +kernel) (by decide +kernel)) (goodIn_sub (fun _ h => List.mem_cons_of_mem _ (List.mem_append_right _ h)) (by decide +kernel))
set_option maxRecDepth 20000 in
theorem gX4_stretches_X4_requireSomeTongue : GoodIn wsX4_stretches (wsV RX4 157 RX4 yX4_requireSomeTongue wsX4_requireSomeTongue) := goodIn_app (goodIn_of _ (by decide +kernel)) ggX4_stretches_X4_requireSomeTongue
set_option maxRecDepth 20000 in
theorem ggX4_stretches_X4_layCostsForCut : GoodIn wsX4_stretches wsX4_layCostsForCut := goodIn_r _ [13, 1, 14, 9, 15, 16, 17, 18, 19, 20, 21, 22, 23, 24, 25, 26, 27, 28, 29, 30, 31, 32, 33, 34, 35, 36, 37, 38, 39, 40, 41, 42, 43, 44, 45, 46, 47, 79, 80, 81, 82, 83, 84, 85, 86, 87, 88, 89, 90, 91, 92, 93, 94, 95, 96] (by decide +kernel) (by decide +kernel)
set_option maxRecDepth 20000 in
theorem gX4_stretches_X4_layCostsForCut : GoodIn wsX4_stretches (wsV RX4 160 RX4 yX4_layCostsForCut wsX4_layCostsForCut) := goodIn_app (goodIn_of _ (by decide +kernel)) ggX4_stretches_X4_layCostsForCut
set_option maxRecDepth 20000 in
theorem ggX4_stretches_X0_findToldCut : GoodIn wsX4_stretches wsX0_findToldCut := goodIn_r _ [51, 29, 52, 53, 54, 55, 27, 56, 30, 57, 58, 59, 60, 61, 62, 63, 64, 65, 66, 67, 68, 69, 70, 71, 72, 73, 74, 31, 87, 88, 89, 90, 91, 92] (by decide +kernel) (by decide +kernel)
set_option maxRecDepth 20000 in
theorem gX4_stretches_X0_findToldCut : GoodIn wsX4_stretches (wsV RX4 171 RX0 yX0_findToldCut wsX0_findToldCut) := goodIn_app (goodIn_of _ (by decide +kernel)) ggX4_stretches_X0_findToldCut
set_option maxRecDepth 20000 in
theorem ggX4_stretches_X0_stretchCount : GoodIn wsX4_stretches wsX0_stretchCount := goodIn_r _ [78, 29, 52, 87, 88, 89, 90, 91, 92] (by decide +kernel) (by decide +kernel)
set_option maxRecDepth 20000 in
theorem gX4_stretches_X0_stretchCount : GoodIn wsX4_stretches (wsV RX4 177 RX0 yX0_stretchCount wsX0_stretchCount) := goodIn_app (goodIn_of _ (by decide +kernel)) ggX4_stretches_X0_stretchCount
theorem dX4_stretches_0 : decode cX4_stretches 0 = .ok (.aload_n 0, 1) := by decide +kernel
theorem dX4_stretches_1 : decode cX4_stretches 1 = .ok (.invokevirtual 157, 3) := by decide +kernel
theorem dX4_stretches_4 : decode cX4_stretches 4 = .ok (.aload_n 0, 1) := by decide +kernel
theorem dX4_stretches_5 : decode cX4_stretches 5 = .ok (.invokevirtual 160, 3) := by decide +kernel
theorem dX4_stretches_8 : decode cX4_stretches 8 = .ok (.aload_n 0, 1) := by decide +kernel
theorem dX4_stretches_9 : decode cX4_stretches 9 = .ok (.getfield 37, 3) := by decide +kernel
theorem dX4_stretches_12 : decode cX4_stretches 12 = .ok (.invokevirtual 171, 3) := by decide +kernel
theorem dX4_stretches_15 : decode cX4_stretches 15 = .ok (.aload_n 0, 1) := by decide +kernel
theorem dX4_stretches_16 : decode cX4_stretches 16 = .ok (.getfield 37, 3) := by decide +kernel
theorem dX4_stretches_19 : decode cX4_stretches 19 = .ok (.invokevirtual 177, 3) := by decide +kernel
theorem dX4_stretches_22 : decode cX4_stretches 22 = .ok (.ireturn, 1) := by decide +kernel
theorem dX4_letterNumber_0 : decode cX4_letterNumber 0 = .ok (.iload_n 0, 1) := by decide +kernel
theorem dX4_letterNumber_1 : decode cX4_letterNumber 1 = .ok (.bipush 32, 2) := by decide +kernel
theorem dX4_letterNumber_3 : decode cX4_letterNumber 3 = .ok (.if_icmp .ne 5, 3) := by decide +kernel
theorem dX4_letterNumber_6 : decode cX4_letterNumber 6 = .ok (.iconst 0, 1) := by decide +kernel
theorem dX4_letterNumber_7 : decode cX4_letterNumber 7 = .ok (.ireturn, 1) := by decide +kernel
theorem dX4_letterNumber_8 : decode cX4_letterNumber 8 = .ok (.iload_n 0, 1) := by decide +kernel
theorem dX4_letterNumber_9 : decode cX4_letterNumber 9 = .ok (.bipush 97, 2) := by decide +kernel
theorem dX4_letterNumber_11 : decode cX4_letterNumber 11 = .ok (.if_icmp .lt 16, 3) := by decide +kernel
theorem dX4_letterNumber_14 : decode cX4_letterNumber 14 = .ok (.iload_n 0, 1) := by decide +kernel
theorem dX4_letterNumber_15 : decode cX4_letterNumber 15 = .ok (.bipush 101, 2) := by decide +kernel
theorem dX4_letterNumber_17 : decode cX4_letterNumber 17 = .ok (.if_icmp .gt 10, 3) := by decide +kernel
theorem dX4_letterNumber_20 : decode cX4_letterNumber 20 = .ok (.iload_n 0, 1) := by decide +kernel
theorem dX4_letterNumber_21 : decode cX4_letterNumber 21 = .ok (.bipush 97, 2) := by decide +kernel
theorem dX4_letterNumber_23 : decode cX4_letterNumber 23 = .ok (.isub, 1) := by decide +kernel
theorem dX4_letterNumber_24 : decode cX4_letterNumber 24 = .ok (.iconst 1, 1) := by decide +kernel
theorem dX4_letterNumber_25 : decode cX4_letterNumber 25 = .ok (.iadd, 1) := by decide +kernel
theorem dX4_letterNumber_26 : decode cX4_letterNumber 26 = .ok (.ireturn, 1) := by decide +kernel
theorem dX4_letterNumber_27 : decode cX4_letterNumber 27 = .ok (.iconst (-1), 1) := by decide +kernel
theorem dX4_letterNumber_28 : decode cX4_letterNumber 28 = .ok (.ireturn, 1) := by decide +kernel
set_option maxRecDepth 20000 in
theorem ggX4_requireRunPlace_X2_runCount : GoodIn wsX4_requireRunPlace wsX2_runCount := goodIn_r _ [8, 9, 18, 19] (by decide +kernel) (by decide +kernel)
set_option maxRecDepth 20000 in
theorem gX4_requireRunPlace_X2_runCount : GoodIn wsX4_requireRunPlace (wsV RX4 74 RX2 yX2_runCount wsX2_runCount) := goodIn_app (goodIn_of _ (by decide +kernel)) ggX4_requireRunPlace_X2_runCount
theorem dX4_requireRunPlace_0 : decode cX4_requireRunPlace 0 = .ok (.iload_n 1, 1) := by decide +kernel
theorem dX4_requireRunPlace_1 : decode cX4_requireRunPlace 1 = .ok (.ifCond .lt 14, 3) := by decide +kernel
theorem dX4_requireRunPlace_4 : decode cX4_requireRunPlace 4 = .ok (.iload_n 1, 1) := by decide +kernel
theorem dX4_requireRunPlace_5 : decode cX4_requireRunPlace 5 = .ok (.aload_n 0, 1) := by decide +kernel
theorem dX4_requireRunPlace_6 : decode cX4_requireRunPlace 6 = .ok (.getfield 10, 3) := by decide +kernel
theorem dX4_requireRunPlace_9 : decode cX4_requireRunPlace 9 = .ok (.invokevirtual 74, 3) := by decide +kernel
theorem dX4_requireRunPlace_12 : decode cX4_requireRunPlace 12 = .ok (.if_icmp .lt 13, 3) := by decide +kernel
theorem dX4_requireRunPlace_15 : decode cX4_requireRunPlace 15 = .ok (.new 185, 3) := by decide +kernel
theorem dX4_requireRunPlace_18 : decode cX4_requireRunPlace 18 = .ok (.dup, 1) := by decide +kernel
theorem dX4_requireRunPlace_19 : decode cX4_requireRunPlace 19 = .ok (.ldc 187, 2) := by decide +kernel
theorem dX4_requireRunPlace_21 : decode cX4_requireRunPlace 21 = .ok (.invokespecial 189, 3) := by decide +kernel
theorem dX4_requireRunPlace_24 : decode cX4_requireRunPlace 24 = .ok (.athrow, 1) := by decide +kernel
theorem dX4_requireRunPlace_25 : decode cX4_requireRunPlace 25 = .ok (.return_, 1) := by decide +kernel
theorem dX4_requireTongue_0 : decode cX4_requireTongue 0 = .ok (.iload_n 1, 1) := by decide +kernel
theorem dX4_requireTongue_1 : decode cX4_requireTongue 1 = .ok (.ifCond .lt 11, 3) := by decide +kernel
theorem dX4_requireTongue_4 : decode cX4_requireTongue 4 = .ok (.iload_n 1, 1) := by decide +kernel
theorem dX4_requireTongue_5 : decode cX4_requireTongue 5 = .ok (.aload_n 0, 1) := by decide +kernel
theorem dX4_requireTongue_6 : decode cX4_requireTongue 6 = .ok (.getfield 41, 3) := by decide +kernel
theorem dX4_requireTongue_9 : decode cX4_requireTongue 9 = .ok (.if_icmp .lt 13, 3) := by decide +kernel
theorem dX4_requireTongue_12 : decode cX4_requireTongue 12 = .ok (.new 185, 3) := by decide +kernel
theorem dX4_requireTongue_15 : decode cX4_requireTongue 15 = .ok (.dup, 1) := by decide +kernel
theorem dX4_requireTongue_16 : decode cX4_requireTongue 16 = .ok (.ldc 190, 2) := by decide +kernel
theorem dX4_requireTongue_18 : decode cX4_requireTongue 18 = .ok (.invokespecial 189, 3) := by decide +kernel
theorem dX4_requireTongue_21 : decode cX4_requireTongue 21 = .ok (.athrow, 1) := by decide +kernel
theorem dX4_requireTongue_22 : decode cX4_requireTongue 22 = .ok (.return_, 1) := by decide +kernel
theorem dX4_requireSomeTongue_0 : decode cX4_requireSomeTongue 0 = .ok (.aload_n 0, 1) := by decide +kernel
theorem dX4_requireSomeTongue_1 : decode cX4_requireSomeTongue 1 = .ok (.getfield 41, 3) := by decide +kernel
theorem dX4_requireSomeTongue_4 : decode cX4_requireSomeTongue 4 = .ok (.ifCond .ne 13, 3) := by decide +kernel
theorem dX4_requireSomeTongue_7 : decode cX4_requireSomeTongue 7 = .ok (.new 65, 3) := by decide +kernel
theorem dX4_requireSomeTongue_10 : decode cX4_requireSomeTongue 10 = .ok (.dup, 1) := by decide +kernel
theorem dX4_requireSomeTongue_11 : decode cX4_requireSomeTongue 11 = .ok (.ldc 192, 2) := by decide +kernel
theorem dX4_requireSomeTongue_13 : decode cX4_requireSomeTongue 13 = .ok (.invokespecial 69, 3) := by decide +kernel
theorem dX4_requireSomeTongue_16 : decode cX4_requireSomeTongue 16 = .ok (.athrow, 1) := by decide +kernel
theorem dX4_requireSomeTongue_17 : decode cX4_requireSomeTongue 17 = .ok (.return_, 1) := by decide +kernel
theorem dX4_requireRunKind_0 : decode cX4_requireRunKind 0 = .ok (.iload_n 0, 1) := by decide +kernel
theorem dX4_requireRunKind_1 : decode cX4_requireRunKind 1 = .ok (.ifCond .lt 9, 3) := by decide +kernel
theorem dX4_requireRunKind_4 : decode cX4_requireRunKind 4 = .ok (.iload_n 0, 1) := by decide +kernel
theorem dX4_requireRunKind_5 : decode cX4_requireRunKind 5 = .ok (.bipush 36, 2) := by decide +kernel
theorem dX4_requireRunKind_7 : decode cX4_requireRunKind 7 = .ok (.if_icmp .lt 13, 3) := by decide +kernel
theorem dX4_requireRunKind_10 : decode cX4_requireRunKind 10 = .ok (.new 185, 3) := by decide +kernel
theorem dX4_requireRunKind_13 : decode cX4_requireRunKind 13 = .ok (.dup, 1) := by decide +kernel
theorem dX4_requireRunKind_14 : decode cX4_requireRunKind 14 = .ok (.ldc 194, 2) := by decide +kernel
theorem dX4_requireRunKind_16 : decode cX4_requireRunKind 16 = .ok (.invokespecial 189, 3) := by decide +kernel
theorem dX4_requireRunKind_19 : decode cX4_requireRunKind 19 = .ok (.athrow, 1) := by decide +kernel
theorem dX4_requireRunKind_20 : decode cX4_requireRunKind 20 = .ok (.return_, 1) := by decide +kernel
set_option maxRecDepth 20000 in
theorem ggX4_slotOfTaught_X1_slotOf : GoodIn wsX4_slotOfTaught wsX1_slotOf := goodIn_r _ [8, 9, 10, 11, 7, 12, 13, 22, 23, 24, 25, 26] (by decide +kernel) (by decide +kernel)
set_option maxRecDepth 20000 in
theorem gX4_slotOfTaught_X1_slotOf : GoodIn wsX4_slotOfTaught (wsV RX4 196 RX1 yX1_slotOf wsX1_slotOf) := goodIn_app (goodIn_of _ (by decide +kernel)) ggX4_slotOfTaught_X1_slotOf
theorem dX4_slotOfTaught_0 : decode cX4_slotOfTaught 0 = .ok (.aload_n 0, 1) := by decide +kernel
theorem dX4_slotOfTaught_1 : decode cX4_slotOfTaught 1 = .ok (.getfield 30, 3) := by decide +kernel
theorem dX4_slotOfTaught_4 : decode cX4_slotOfTaught 4 = .ok (.iload_n 1, 1) := by decide +kernel
theorem dX4_slotOfTaught_5 : decode cX4_slotOfTaught 5 = .ok (.invokevirtual 196, 3) := by decide +kernel
theorem dX4_slotOfTaught_8 : decode cX4_slotOfTaught 8 = .ok (.istore_n 2, 1) := by decide +kernel
theorem dX4_slotOfTaught_9 : decode cX4_slotOfTaught 9 = .ok (.iload_n 2, 1) := by decide +kernel
theorem dX4_slotOfTaught_10 : decode cX4_slotOfTaught 10 = .ok (.iconst (-1), 1) := by decide +kernel
theorem dX4_slotOfTaught_11 : decode cX4_slotOfTaught 11 = .ok (.if_icmp .ne 13, 3) := by decide +kernel
theorem dX4_slotOfTaught_14 : decode cX4_slotOfTaught 14 = .ok (.new 199, 3) := by decide +kernel
theorem dX4_slotOfTaught_17 : decode cX4_slotOfTaught 17 = .ok (.dup, 1) := by decide +kernel
theorem dX4_slotOfTaught_18 : decode cX4_slotOfTaught 18 = .ok (.ldc 201, 2) := by decide +kernel
theorem dX4_slotOfTaught_20 : decode cX4_slotOfTaught 20 = .ok (.invokespecial 203, 3) := by decide +kernel
theorem dX4_slotOfTaught_23 : decode cX4_slotOfTaught 23 = .ok (.athrow, 1) := by decide +kernel
theorem dX4_slotOfTaught_24 : decode cX4_slotOfTaught 24 = .ok (.iload_n 2, 1) := by decide +kernel
theorem dX4_slotOfTaught_25 : decode cX4_slotOfTaught 25 = .ok (.ireturn, 1) := by decide +kernel
theorem dX4_newTongue_0 : decode cX4_newTongue 0 = .ok (.aload_n 0, 1) := by decide +kernel
theorem dX4_newTongue_1 : decode cX4_newTongue 1 = .ok (.getfield 41, 3) := by decide +kernel
theorem dX4_newTongue_4 : decode cX4_newTongue 4 = .ok (.istore_n 1, 1) := by decide +kernel
theorem dX4_newTongue_5 : decode cX4_newTongue 5 = .ok (.aload_n 0, 1) := by decide +kernel
theorem dX4_newTongue_6 : decode cX4_newTongue 6 = .ok (.iload_n 1, 1) := by decide +kernel
theorem dX4_newTongue_7 : decode cX4_newTongue 7 = .ok (.iconst 1, 1) := by decide +kernel
theorem dX4_newTongue_8 : decode cX4_newTongue 8 = .ok (.iadd, 1) := by decide +kernel
theorem dX4_newTongue_9 : decode cX4_newTongue 9 = .ok (.putfield 41, 3) := by decide +kernel
theorem dX4_newTongue_12 : decode cX4_newTongue 12 = .ok (.iload_n 1, 1) := by decide +kernel
theorem dX4_newTongue_13 : decode cX4_newTongue 13 = .ok (.ireturn, 1) := by decide +kernel
set_option maxRecDepth 20000 in
theorem ggX4_teachRuns_X1_take : GoodIn wsX4_teachRuns wsX1_take := goodIn_r _ [10, 11, 12, 13, 14, 15, 16, 17, 9, 18, 45, 46, 47, 48, 49] (by decide +kernel) (by decide +kernel)
set_option maxRecDepth 20000 in
theorem gX4_teachRuns_X1_take : GoodIn wsX4_teachRuns (wsV RX4 204 RX1 yX1_take wsX1_take) := goodIn_app (goodIn_of _ (by decide +kernel)) ggX4_teachRuns_X1_take
set_option maxRecDepth 20000 in
theorem ggX4_teachRuns_X2_runNumber : GoodIn wsX4_teachRuns wsX2_runNumber := goodIn_r _ [23, 24, 25, 26, 22, 27, 28, 29, 50, 51] (by decide +kernel) (by decide +kernel)
set_option maxRecDepth 20000 in
theorem gX4_teachRuns_X2_runNumber : GoodIn wsX4_teachRuns (wsV RX4 81 RX2 yX2_runNumber wsX2_runNumber) := goodIn_app (goodIn_of _ (by decide +kernel)) ggX4_teachRuns_X2_runNumber
set_option maxRecDepth 20000 in
theorem ggX4_teachRuns_X3_add : GoodIn wsX4_teachRuns wsX3_add := goodIn_r _ [34, 35, 36, 52, 53] (by decide +kernel) (by decide +kernel)
set_option maxRecDepth 20000 in
theorem gX4_teachRuns_X3_add : GoodIn wsX4_teachRuns (wsV RX4 208 RX3 yX3_add wsX3_add) := goodIn_app (goodIn_of _ (by decide +kernel)) ggX4_teachRuns_X3_add
theorem dX4_teachRuns_0 : decode cX4_teachRuns 0 = .ok (.aload_n 0, 1) := by decide +kernel
theorem dX4_teachRuns_1 : decode cX4_teachRuns 1 = .ok (.getfield 30, 3) := by decide +kernel
theorem dX4_teachRuns_4 : decode cX4_teachRuns 4 = .ok (.iload_n 1, 1) := by decide +kernel
theorem dX4_teachRuns_5 : decode cX4_teachRuns 5 = .ok (.iload_n 3, 1) := by decide +kernel
theorem dX4_teachRuns_6 : decode cX4_teachRuns 6 = .ok (.invokevirtual 204, 3) := by decide +kernel
theorem dX4_teachRuns_9 : decode cX4_teachRuns 9 = .ok (.istore 4, 2) := by decide +kernel
theorem dX4_teachRuns_11 : decode cX4_teachRuns 11 = .ok (.iconst 0, 1) := by decide +kernel
theorem dX4_teachRuns_12 : decode cX4_teachRuns 12 = .ok (.istore 5, 2) := by decide +kernel
theorem dX4_teachRuns_14 : decode cX4_teachRuns 14 = .ok (.iload 5, 2) := by decide +kernel
theorem dX4_teachRuns_16 : decode cX4_teachRuns 16 = .ok (.iload_n 3, 1) := by decide +kernel
theorem dX4_teachRuns_17 : decode cX4_teachRuns 17 = .ok (.if_icmp .ge 48, 3) := by decide +kernel
theorem dX4_teachRuns_20 : decode cX4_teachRuns 20 = .ok (.aload_n 0, 1) := by decide +kernel
theorem dX4_teachRuns_21 : decode cX4_teachRuns 21 = .ok (.getfield 10, 3) := by decide +kernel
theorem dX4_teachRuns_24 : decode cX4_teachRuns 24 = .ok (.iload_n 2, 1) := by decide +kernel
theorem dX4_teachRuns_25 : decode cX4_teachRuns 25 = .ok (.iload 5, 2) := by decide +kernel
theorem dX4_teachRuns_27 : decode cX4_teachRuns 27 = .ok (.iadd, 1) := by decide +kernel
theorem dX4_teachRuns_28 : decode cX4_teachRuns 28 = .ok (.invokevirtual 81, 3) := by decide +kernel
theorem dX4_teachRuns_31 : decode cX4_teachRuns 31 = .ok (.istore 6, 2) := by decide +kernel
theorem dX4_teachRuns_33 : decode cX4_teachRuns 33 = .ok (.aload_n 0, 1) := by decide +kernel
theorem dX4_teachRuns_34 : decode cX4_teachRuns 34 = .ok (.getfield 30, 3) := by decide +kernel
theorem dX4_teachRuns_37 : decode cX4_teachRuns 37 = .ok (.getfield 115, 3) := by decide +kernel
theorem dX4_teachRuns_40 : decode cX4_teachRuns 40 = .ok (.iload 4, 2) := by decide +kernel
theorem dX4_teachRuns_42 : decode cX4_teachRuns 42 = .ok (.aaload, 1) := by decide +kernel
theorem dX4_teachRuns_43 : decode cX4_teachRuns 43 = .ok (.iload 5, 2) := by decide +kernel
theorem dX4_teachRuns_45 : decode cX4_teachRuns 45 = .ok (.iload 6, 2) := by decide +kernel
theorem dX4_teachRuns_47 : decode cX4_teachRuns 47 = .ok (.iastore, 1) := by decide +kernel
theorem dX4_teachRuns_48 : decode cX4_teachRuns 48 = .ok (.aload_n 0, 1) := by decide +kernel
theorem dX4_teachRuns_49 : decode cX4_teachRuns 49 = .ok (.getfield 23, 3) := by decide +kernel
theorem dX4_teachRuns_52 : decode cX4_teachRuns 52 = .ok (.iload_n 1, 1) := by decide +kernel
theorem dX4_teachRuns_53 : decode cX4_teachRuns 53 = .ok (.aaload, 1) := by decide +kernel
theorem dX4_teachRuns_54 : decode cX4_teachRuns 54 = .ok (.iload 6, 2) := by decide +kernel
theorem dX4_teachRuns_56 : decode cX4_teachRuns 56 = .ok (.invokevirtual 208, 3) := by decide +kernel
theorem dX4_teachRuns_59 : decode cX4_teachRuns 59 = .ok (.iinc 5 1, 3) := by decide +kernel
theorem dX4_teachRuns_62 : decode cX4_teachRuns 62 = .ok (.goto (-48), 3) := by decide +kernel
theorem dX4_teachRuns_65 : decode cX4_teachRuns 65 = .ok (.aload_n 0, 1) := by decide +kernel
theorem dX4_teachRuns_66 : decode cX4_teachRuns 66 = .ok (.getfield 30, 3) := by decide +kernel
theorem dX4_teachRuns_69 : decode cX4_teachRuns 69 = .ok (.getfield 211, 3) := by decide +kernel
theorem dX4_teachRuns_72 : decode cX4_teachRuns 72 = .ok (.iload 4, 2) := by decide +kernel
theorem dX4_teachRuns_74 : decode cX4_teachRuns 74 = .ok (.iaload, 1) := by decide +kernel
theorem dX4_teachRuns_75 : decode cX4_teachRuns 75 = .ok (.ireturn, 1) := by decide +kernel
set_option maxRecDepth 20000 in
theorem ggX4_costOfSpelled_X2_runCount : GoodIn wsX4_costOfSpelled wsX2_runCount := goodIn_r _ [7, 8, 33, 34] (by decide +kernel) (by decide +kernel)
set_option maxRecDepth 20000 in
theorem gX4_costOfSpelled_X2_runCount : GoodIn wsX4_costOfSpelled (wsV RX4 74 RX2 yX2_runCount wsX2_runCount) := goodIn_app (goodIn_of _ (by decide +kernel)) ggX4_costOfSpelled_X2_runCount
set_option maxRecDepth 20000 in
theorem ggX4_costOfSpelled_X2_runNumber : GoodIn wsX4_costOfSpelled wsX2_runNumber := goodIn_r _ [12, 13, 14, 15, 6, 16, 8, 17, 33, 34] (by decide +kernel) (by decide +kernel)
set_option maxRecDepth 20000 in
theorem gX4_costOfSpelled_X2_runNumber : GoodIn wsX4_costOfSpelled (wsV RX4 81 RX2 yX2_runNumber wsX2_runNumber) := goodIn_app (goodIn_of _ (by decide +kernel)) ggX4_costOfSpelled_X2_runNumber
set_option maxRecDepth 20000 in
theorem ggX4_costOfSpelled_X3_costOf : GoodIn wsX4_costOfSpelled wsX3_costOf := goodIn_r _ [22, 23, 24, 35, 36] (by decide +kernel) (by decide +kernel)
set_option maxRecDepth 20000 in
theorem gX4_costOfSpelled_X3_costOf : GoodIn wsX4_costOfSpelled (wsV RX4 134 RX3 yX3_costOf wsX3_costOf) := goodIn_app (goodIn_of _ (by decide +kernel)) ggX4_costOfSpelled_X3_costOf
theorem dX4_costOfSpelled_0 : decode cX4_costOfSpelled 0 = .ok (.iconst 0, 1) := by decide +kernel
theorem dX4_costOfSpelled_1 : decode cX4_costOfSpelled 1 = .ok (.istore_n 2, 1) := by decide +kernel
theorem dX4_costOfSpelled_2 : decode cX4_costOfSpelled 2 = .ok (.iconst 0, 1) := by decide +kernel
theorem dX4_costOfSpelled_3 : decode cX4_costOfSpelled 3 = .ok (.istore_n 3, 1) := by decide +kernel
theorem dX4_costOfSpelled_4 : decode cX4_costOfSpelled 4 = .ok (.iload_n 3, 1) := by decide +kernel
theorem dX4_costOfSpelled_5 : decode cX4_costOfSpelled 5 = .ok (.aload_n 0, 1) := by decide +kernel
theorem dX4_costOfSpelled_6 : decode cX4_costOfSpelled 6 = .ok (.getfield 10, 3) := by decide +kernel
theorem dX4_costOfSpelled_9 : decode cX4_costOfSpelled 9 = .ok (.invokevirtual 74, 3) := by decide +kernel
theorem dX4_costOfSpelled_12 : decode cX4_costOfSpelled 12 = .ok (.if_icmp .ge 29, 3) := by decide +kernel
theorem dX4_costOfSpelled_15 : decode cX4_costOfSpelled 15 = .ok (.iload_n 2, 1) := by decide +kernel
theorem dX4_costOfSpelled_16 : decode cX4_costOfSpelled 16 = .ok (.aload_n 0, 1) := by decide +kernel
theorem dX4_costOfSpelled_17 : decode cX4_costOfSpelled 17 = .ok (.getfield 23, 3) := by decide +kernel
theorem dX4_costOfSpelled_20 : decode cX4_costOfSpelled 20 = .ok (.iload_n 1, 1) := by decide +kernel
theorem dX4_costOfSpelled_21 : decode cX4_costOfSpelled 21 = .ok (.aaload, 1) := by decide +kernel
theorem dX4_costOfSpelled_22 : decode cX4_costOfSpelled 22 = .ok (.aload_n 0, 1) := by decide +kernel
theorem dX4_costOfSpelled_23 : decode cX4_costOfSpelled 23 = .ok (.getfield 10, 3) := by decide +kernel
theorem dX4_costOfSpelled_26 : decode cX4_costOfSpelled 26 = .ok (.iload_n 3, 1) := by decide +kernel
theorem dX4_costOfSpelled_27 : decode cX4_costOfSpelled 27 = .ok (.invokevirtual 81, 3) := by decide +kernel
theorem dX4_costOfSpelled_30 : decode cX4_costOfSpelled 30 = .ok (.invokevirtual 134, 3) := by decide +kernel
theorem dX4_costOfSpelled_33 : decode cX4_costOfSpelled 33 = .ok (.iadd, 1) := by decide +kernel
theorem dX4_costOfSpelled_34 : decode cX4_costOfSpelled 34 = .ok (.istore_n 2, 1) := by decide +kernel
theorem dX4_costOfSpelled_35 : decode cX4_costOfSpelled 35 = .ok (.iinc 3 1, 3) := by decide +kernel
theorem dX4_costOfSpelled_38 : decode cX4_costOfSpelled 38 = .ok (.goto (-34), 3) := by decide +kernel
theorem dX4_costOfSpelled_41 : decode cX4_costOfSpelled 41 = .ok (.iload_n 2, 1) := by decide +kernel
theorem dX4_costOfSpelled_42 : decode cX4_costOfSpelled 42 = .ok (.ireturn, 1) := by decide +kernel
set_option maxRecDepth 20000 in
theorem ggX4_layCostsForCut_X2_runCount : GoodIn wsX4_layCostsForCut wsX2_runCount := goodIn_r _ [11, 12, 51, 52] (by decide +kernel) (by decide +kernel)
set_option maxRecDepth 20000 in
theorem gX4_layCostsForCut_X2_runCount : GoodIn wsX4_layCostsForCut (wsV RX4 74 RX2 yX2_runCount wsX2_runCount) := goodIn_app (goodIn_of _ (by decide +kernel)) ggX4_layCostsForCut_X2_runCount
set_option maxRecDepth 20000 in
theorem ggX4_layCostsForCut_X0_begin : GoodIn wsX4_layCostsForCut wsX0_begin := goodIn_r _ [17, 18, 19, 20, 45, 46, 47, 48, 49, 50] (by decide +kernel) (by decide +kernel)
set_option maxRecDepth 20000 in
theorem gX4_layCostsForCut_X0_begin : GoodIn wsX4_layCostsForCut (wsV RX4 222 RX0 yX0_begin wsX0_begin) := goodIn_app (goodIn_of _ (by decide +kernel)) ggX4_layCostsForCut_X0_begin
set_option maxRecDepth 20000 in
theorem ggX4_layCostsForCut_X2_runNumber : GoodIn wsX4_layCostsForCut wsX2_runNumber := goodIn_r _ [24, 25, 26, 27, 10, 28, 12, 29, 51, 52] (by decide +kernel) (by decide +kernel)
set_option maxRecDepth 20000 in
theorem gX4_layCostsForCut_X2_runNumber : GoodIn wsX4_layCostsForCut (wsV RX4 81 RX2 yX2_runNumber wsX2_runNumber) := goodIn_app (goodIn_of _ (by decide +kernel)) ggX4_layCostsForCut_X2_runNumber
set_option maxRecDepth 20000 in
theorem ggX4_layCostsForCut_X3_costOf : GoodIn wsX4_layCostsForCut wsX3_costOf := goodIn_r _ [34, 35, 36, 53, 54] (by decide +kernel) (by decide +kernel)
set_option maxRecDepth 20000 in
theorem gX4_layCostsForCut_X3_costOf : GoodIn wsX4_layCostsForCut (wsV RX4 134 RX3 yX3_costOf wsX3_costOf) := goodIn_app (goodIn_of _ (by decide +kernel)) ggX4_layCostsForCut_X3_costOf
theorem dX4_layCostsForCut_0 : decode cX4_layCostsForCut 0 = .ok (.aload_n 0, 1) := by decide +kernel
theorem dX4_layCostsForCut_1 : decode cX4_layCostsForCut 1 = .ok (.getfield 37, 3) := by decide +kernel
theorem dX4_layCostsForCut_4 : decode cX4_layCostsForCut 4 = .ok (.aload_n 0, 1) := by decide +kernel
theorem dX4_layCostsForCut_5 : decode cX4_layCostsForCut 5 = .ok (.getfield 10, 3) := by decide +kernel
theorem dX4_layCostsForCut_8 : decode cX4_layCostsForCut 8 = .ok (.invokevirtual 74, 3) := by decide +kernel
theorem dX4_layCostsForCut_11 : decode cX4_layCostsForCut 11 = .ok (.aload_n 0, 1) := by decide +kernel
theorem dX4_layCostsForCut_12 : decode cX4_layCostsForCut 12 = .ok (.getfield 41, 3) := by decide +kernel
theorem dX4_layCostsForCut_15 : decode cX4_layCostsForCut 15 = .ok (.aload_n 0, 1) := by decide +kernel
theorem dX4_layCostsForCut_16 : decode cX4_layCostsForCut 16 = .ok (.getfield 48, 3) := by decide +kernel
theorem dX4_layCostsForCut_19 : decode cX4_layCostsForCut 19 = .ok (.invokevirtual 222, 3) := by decide +kernel
theorem dX4_layCostsForCut_22 : decode cX4_layCostsForCut 22 = .ok (.iconst 0, 1) := by decide +kernel
theorem dX4_layCostsForCut_23 : decode cX4_layCostsForCut 23 = .ok (.istore_n 1, 1) := by decide +kernel
theorem dX4_layCostsForCut_24 : decode cX4_layCostsForCut 24 = .ok (.iload_n 1, 1) := by decide +kernel
theorem dX4_layCostsForCut_25 : decode cX4_layCostsForCut 25 = .ok (.aload_n 0, 1) := by decide +kernel
theorem dX4_layCostsForCut_26 : decode cX4_layCostsForCut 26 = .ok (.getfield 10, 3) := by decide +kernel
theorem dX4_layCostsForCut_29 : decode cX4_layCostsForCut 29 = .ok (.invokevirtual 74, 3) := by decide +kernel
theorem dX4_layCostsForCut_32 : decode cX4_layCostsForCut 32 = .ok (.if_icmp .ge 55, 3) := by decide +kernel
theorem dX4_layCostsForCut_35 : decode cX4_layCostsForCut 35 = .ok (.aload_n 0, 1) := by decide +kernel
theorem dX4_layCostsForCut_36 : decode cX4_layCostsForCut 36 = .ok (.getfield 10, 3) := by decide +kernel
theorem dX4_layCostsForCut_39 : decode cX4_layCostsForCut 39 = .ok (.iload_n 1, 1) := by decide +kernel
theorem dX4_layCostsForCut_40 : decode cX4_layCostsForCut 40 = .ok (.invokevirtual 81, 3) := by decide +kernel
theorem dX4_layCostsForCut_43 : decode cX4_layCostsForCut 43 = .ok (.istore_n 2, 1) := by decide +kernel
theorem dX4_layCostsForCut_44 : decode cX4_layCostsForCut 44 = .ok (.iconst 0, 1) := by decide +kernel
theorem dX4_layCostsForCut_45 : decode cX4_layCostsForCut 45 = .ok (.istore_n 3, 1) := by decide +kernel
theorem dX4_layCostsForCut_46 : decode cX4_layCostsForCut 46 = .ok (.iload_n 3, 1) := by decide +kernel
theorem dX4_layCostsForCut_47 : decode cX4_layCostsForCut 47 = .ok (.aload_n 0, 1) := by decide +kernel
theorem dX4_layCostsForCut_48 : decode cX4_layCostsForCut 48 = .ok (.getfield 41, 3) := by decide +kernel
theorem dX4_layCostsForCut_51 : decode cX4_layCostsForCut 51 = .ok (.if_icmp .ge 30, 3) := by decide +kernel
theorem dX4_layCostsForCut_54 : decode cX4_layCostsForCut 54 = .ok (.aload_n 0, 1) := by decide +kernel
theorem dX4_layCostsForCut_55 : decode cX4_layCostsForCut 55 = .ok (.getfield 37, 3) := by decide +kernel
theorem dX4_layCostsForCut_58 : decode cX4_layCostsForCut 58 = .ok (.getfield 226, 3) := by decide +kernel
theorem dX4_layCostsForCut_61 : decode cX4_layCostsForCut 61 = .ok (.iload_n 1, 1) := by decide +kernel
theorem dX4_layCostsForCut_62 : decode cX4_layCostsForCut 62 = .ok (.aaload, 1) := by decide +kernel
theorem dX4_layCostsForCut_63 : decode cX4_layCostsForCut 63 = .ok (.iload_n 3, 1) := by decide +kernel
theorem dX4_layCostsForCut_64 : decode cX4_layCostsForCut 64 = .ok (.aload_n 0, 1) := by decide +kernel
theorem dX4_layCostsForCut_65 : decode cX4_layCostsForCut 65 = .ok (.getfield 23, 3) := by decide +kernel
theorem dX4_layCostsForCut_68 : decode cX4_layCostsForCut 68 = .ok (.iload_n 3, 1) := by decide +kernel
theorem dX4_layCostsForCut_69 : decode cX4_layCostsForCut 69 = .ok (.aaload, 1) := by decide +kernel
theorem dX4_layCostsForCut_70 : decode cX4_layCostsForCut 70 = .ok (.iload_n 2, 1) := by decide +kernel
theorem dX4_layCostsForCut_71 : decode cX4_layCostsForCut 71 = .ok (.invokevirtual 134, 3) := by decide +kernel
theorem dX4_layCostsForCut_74 : decode cX4_layCostsForCut 74 = .ok (.iastore, 1) := by decide +kernel
theorem dX4_layCostsForCut_75 : decode cX4_layCostsForCut 75 = .ok (.iinc 3 1, 3) := by decide +kernel
theorem dX4_layCostsForCut_78 : decode cX4_layCostsForCut 78 = .ok (.goto (-32), 3) := by decide +kernel
theorem dX4_layCostsForCut_81 : decode cX4_layCostsForCut 81 = .ok (.iinc 1 1, 3) := by decide +kernel
theorem dX4_layCostsForCut_84 : decode cX4_layCostsForCut 84 = .ok (.goto (-60), 3) := by decide +kernel
theorem dX4_layCostsForCut_87 : decode cX4_layCostsForCut 87 = .ok (.return_, 1) := by decide +kernel
