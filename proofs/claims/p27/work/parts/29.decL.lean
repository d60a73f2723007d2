/-! ===== printed: decode rows of the law's small methods, the words of what they call ===== -/
theorem dL_cell_0 : decode cL_cell 0 = .ok (.iload_n 1, 1) := by decide +kernel
theorem dL_cell_1 : decode cL_cell 1 = .ok (.aload_n 0, 1) := by decide +kernel
theorem dL_cell_2 : decode cL_cell 2 = .ok (.arraylength, 1) := by decide +kernel
theorem dL_cell_3 : decode cL_cell 3 = .ok (.if_icmp .ge 9, 3) := by decide +kernel
theorem dL_cell_6 : decode cL_cell 6 = .ok (.aload_n 0, 1) := by decide +kernel
theorem dL_cell_7 : decode cL_cell 7 = .ok (.iload_n 1, 1) := by decide +kernel
theorem dL_cell_8 : decode cL_cell 8 = .ok (.iaload, 1) := by decide +kernel
theorem dL_cell_9 : decode cL_cell 9 = .ok (.goto 15, 3) := by decide +kernel
theorem dL_cell_12 : decode cL_cell 12 = .ok (.sipush 7919, 3) := by decide +kernel
theorem dL_cell_15 : decode cL_cell 15 = .ok (.iload_n 1, 1) := by decide +kernel
theorem dL_cell_16 : decode cL_cell 16 = .ok (.iconst 3, 1) := by decide +kernel
theorem dL_cell_17 : decode cL_cell 17 = .ok (.iadd, 1) := by decide +kernel
theorem dL_cell_18 : decode cL_cell 18 = .ok (.imul, 1) := by decide +kernel
theorem dL_cell_19 : decode cL_cell 19 = .ok (.iload_n 1, 1) := by decide +kernel
theorem dL_cell_20 : decode cL_cell 20 = .ok (.bipush 11, 2) := by decide +kernel
theorem dL_cell_22 : decode cL_cell 22 = .ok (.iadd, 1) := by decide +kernel
theorem dL_cell_23 : decode cL_cell 23 = .ok (.imul, 1) := by decide +kernel
theorem dL_cell_24 : decode cL_cell 24 = .ok (.ireturn, 1) := by decide +kernel
theorem dL_low_0 : decode cL_low 0 = .ok (.iload_n 0, 1) := by decide +kernel
theorem dL_low_1 : decode cL_low 1 = .ok (.ldc 7, 2) := by decide +kernel
theorem dL_low_3 : decode cL_low 3 = .ok (.iand, 1) := by decide +kernel
theorem dL_low_4 : decode cL_low 4 = .ok (.iload_n 1, 1) := by decide +kernel
theorem dL_low_5 : decode cL_low 5 = .ok (.irem, 1) := by decide +kernel
theorem dL_low_6 : decode cL_low 6 = .ok (.ireturn, 1) := by decide +kernel
set_option maxRecDepth 20000 in
theorem ggL_areCosts_X4_total : GoodIn wsL_areCosts wsX4_total := goodIn_ca (goodIn_r _ [5, 6, 7, 8, 9, 10, 4, 11, 12, 13, 14, 34, 35, 36, 37, 38, 39, 40, 41, 42, 43] (by decide +kernel) (by decide +kernel)) (goodIn_sub (fun _ h => List.mem_cons_of_mem _ (List.mem_append_right _ h)) (by decide +kernel))
set_option maxRecDepth 20000 in
theorem gL_areCosts_X4_total : GoodIn wsL_areCosts (wsV RL 8 RX4 yX4_total wsX4_total) := goodIn_app (goodIn_of _ (by decide +kernel)) ggL_areCosts_X4_total
set_option maxRecDepth 20000 in
theorem ggL_areCosts_X4_count : GoodIn wsL_areCosts wsX4_count := goodIn_ca (goodIn_r _ [18, 6, 19, 8, 9, 10, 4, 11, 12, 13, 14, 20, 21, 22, 34, 35, 36, 37, 38, 39, 40, 41, 42, 43] (by decide +kernel) (by decide +kernel)) (goodIn_sub (fun _ h => List.mem_cons_of_mem _ (List.mem_append_right _ h)) (by decide +kernel))
set_option maxRecDepth 20000 in
theorem gL_areCosts_X4_count : GoodIn wsL_areCosts (wsV RL 14 RX4 yX4_count wsX4_count) := goodIn_app (goodIn_of _ (by decide +kernel)) ggL_areCosts_X4_count
set_option maxRecDepth 20000 in
theorem ggL_areCosts_X4_cost : GoodIn wsL_areCosts wsX4_cost := goodIn_ca (goodIn_r _ [26, 6, 8, 9, 10, 4, 11, 12, 13, 14, 20, 21, 22, 27, 28, 29, 30, 31, 32, 33, 34, 35, 36, 37, 38, 39, 40, 41, 42, 43] (by decide +kernel) (by decide +kernel)) (goodIn_sub (fun _ h => List.mem_cons_of_mem _ (List.mem_append_right _ h)) (by decide +kernel))
set_option maxRecDepth 20000 in
theorem gL_areCosts_X4_cost : GoodIn wsL_areCosts (wsV RL 18 RX4 yX4_cost wsX4_cost) := goodIn_app (goodIn_of _ (by decide +kernel)) ggL_areCosts_X4_cost
theorem dL_areCosts_0 : decode cL_areCosts 0 = .ok (.aload_n 0, 1) := by decide +kernel
theorem dL_areCosts_1 : decode cL_areCosts 1 = .ok (.iload_n 1, 1) := by decide +kernel
theorem dL_areCosts_2 : decode cL_areCosts 2 = .ok (.invokevirtual 8, 3) := by decide +kernel
theorem dL_areCosts_5 : decode cL_areCosts 5 = .ok (.istore_n 2, 1) := by decide +kernel
theorem dL_areCosts_6 : decode cL_areCosts 6 = .ok (.iconst 0, 1) := by decide +kernel
theorem dL_areCosts_7 : decode cL_areCosts 7 = .ok (.istore_n 3, 1) := by decide +kernel
theorem dL_areCosts_8 : decode cL_areCosts 8 = .ok (.iconst 1, 1) := by decide +kernel
theorem dL_areCosts_9 : decode cL_areCosts 9 = .ok (.istore 4, 2) := by decide +kernel
theorem dL_areCosts_11 : decode cL_areCosts 11 = .ok (.iconst 0, 1) := by decide +kernel
theorem dL_areCosts_12 : decode cL_areCosts 12 = .ok (.istore 5, 2) := by decide +kernel
theorem dL_areCosts_14 : decode cL_areCosts 14 = .ok (.iload 5, 2) := by decide +kernel
theorem dL_areCosts_16 : decode cL_areCosts 16 = .ok (.bipush 36, 2) := by decide +kernel
theorem dL_areCosts_18 : decode cL_areCosts 18 = .ok (.if_icmp .ge 130, 3) := by decide +kernel
theorem dL_areCosts_21 : decode cL_areCosts 21 = .ok (.iload 4, 2) := by decide +kernel
theorem dL_areCosts_23 : decode cL_areCosts 23 = .ok (.ifCond .eq 125, 3) := by decide +kernel
theorem dL_areCosts_26 : decode cL_areCosts 26 = .ok (.aload_n 0, 1) := by decide +kernel
theorem dL_areCosts_27 : decode cL_areCosts 27 = .ok (.iload_n 1, 1) := by decide +kernel
theorem dL_areCosts_28 : decode cL_areCosts 28 = .ok (.iload 5, 2) := by decide +kernel
theorem dL_areCosts_30 : decode cL_areCosts 30 = .ok (.invokevirtual 14, 3) := by decide +kernel
theorem dL_areCosts_33 : decode cL_areCosts 33 = .ok (.istore 6, 2) := by decide +kernel
theorem dL_areCosts_35 : decode cL_areCosts 35 = .ok (.iconst 1, 1) := by decide +kernel
theorem dL_areCosts_36 : decode cL_areCosts 36 = .ok (.istore 7, 2) := by decide +kernel
theorem dL_areCosts_38 : decode cL_areCosts 38 = .ok (.aload_n 0, 1) := by decide +kernel
theorem dL_areCosts_39 : decode cL_areCosts 39 = .ok (.iload_n 1, 1) := by decide +kernel
theorem dL_areCosts_40 : decode cL_areCosts 40 = .ok (.iload 5, 2) := by decide +kernel
theorem dL_areCosts_42 : decode cL_areCosts 42 = .ok (.invokevirtual 18, 3) := by decide +kernel
theorem dL_areCosts_45 : decode cL_areCosts 45 = .ok (.istore 8, 2) := by decide +kernel
theorem dL_areCosts_47 : decode cL_areCosts 47 = .ok (.iconst 1, 1) := by decide +kernel
theorem dL_areCosts_48 : decode cL_areCosts 48 = .ok (.istore 9, 2) := by decide +kernel
theorem dL_areCosts_50 : decode cL_areCosts 50 = .ok (.iload 9, 2) := by decide +kernel
theorem dL_areCosts_52 : decode cL_areCosts 52 = .ok (.iload 8, 2) := by decide +kernel
theorem dL_areCosts_54 : decode cL_areCosts 54 = .ok (.if_icmp .ge 15, 3) := by decide +kernel
theorem dL_areCosts_57 : decode cL_areCosts 57 = .ok (.iload 7, 2) := by decide +kernel
theorem dL_areCosts_59 : decode cL_areCosts 59 = .ok (.iconst 2, 1) := by decide +kernel
theorem dL_areCosts_60 : decode cL_areCosts 60 = .ok (.imul, 1) := by decide +kernel
theorem dL_areCosts_61 : decode cL_areCosts 61 = .ok (.istore 7, 2) := by decide +kernel
theorem dL_areCosts_63 : decode cL_areCosts 63 = .ok (.iinc 9 1, 3) := by decide +kernel
theorem dL_areCosts_66 : decode cL_areCosts 66 = .ok (.goto (-16), 3) := by decide +kernel
theorem dL_areCosts_69 : decode cL_areCosts 69 = .ok (.iload_n 3, 1) := by decide +kernel
theorem dL_areCosts_70 : decode cL_areCosts 70 = .ok (.iload 6, 2) := by decide +kernel
theorem dL_areCosts_72 : decode cL_areCosts 72 = .ok (.iadd, 1) := by decide +kernel
theorem dL_areCosts_73 : decode cL_areCosts 73 = .ok (.istore_n 3, 1) := by decide +kernel
theorem dL_areCosts_74 : decode cL_areCosts 74 = .ok (.iload 8, 2) := by decide +kernel
theorem dL_areCosts_76 : decode cL_areCosts 76 = .ok (.ifCond .lt 63, 3) := by decide +kernel
theorem dL_areCosts_79 : decode cL_areCosts 79 = .ok (.iload 8, 2) := by decide +kernel
theorem dL_areCosts_81 : decode cL_areCosts 81 = .ok (.bipush 20, 2) := by decide +kernel
theorem dL_areCosts_83 : decode cL_areCosts 83 = .ok (.if_icmp .ge 56, 3) := by decide +kernel
theorem dL_areCosts_86 : decode cL_areCosts 86 = .ok (.iload 8, 2) := by decide +kernel
theorem dL_areCosts_88 : decode cL_areCosts 88 = .ok (.ifCond .ne 17, 3) := by decide +kernel
theorem dL_areCosts_91 : decode cL_areCosts 91 = .ok (.iload 6, 2) := by decide +kernel
theorem dL_areCosts_93 : decode cL_areCosts 93 = .ok (.iconst 1, 1) := by decide +kernel
theorem dL_areCosts_94 : decode cL_areCosts 94 = .ok (.iadd, 1) := by decide +kernel
theorem dL_areCosts_95 : decode cL_areCosts 95 = .ok (.iload_n 2, 1) := by decide +kernel
theorem dL_areCosts_96 : decode cL_areCosts 96 = .ok (.bipush 36, 2) := by decide +kernel
theorem dL_areCosts_98 : decode cL_areCosts 98 = .ok (.iadd, 1) := by decide +kernel
theorem dL_areCosts_99 : decode cL_areCosts 99 = .ok (.if_icmp .lt 40, 3) := by decide +kernel
theorem dL_areCosts_102 : decode cL_areCosts 102 = .ok (.goto 33, 3) := by decide +kernel
theorem dL_areCosts_105 : decode cL_areCosts 105 = .ok (.iload 6, 2) := by decide +kernel
theorem dL_areCosts_107 : decode cL_areCosts 107 = .ok (.iconst 1, 1) := by decide +kernel
theorem dL_areCosts_108 : decode cL_areCosts 108 = .ok (.iadd, 1) := by decide +kernel
theorem dL_areCosts_109 : decode cL_areCosts 109 = .ok (.iconst 2, 1) := by decide +kernel
theorem dL_areCosts_110 : decode cL_areCosts 110 = .ok (.imul, 1) := by decide +kernel
theorem dL_areCosts_111 : decode cL_areCosts 111 = .ok (.iload 7, 2) := by decide +kernel
theorem dL_areCosts_113 : decode cL_areCosts 113 = .ok (.imul, 1) := by decide +kernel
theorem dL_areCosts_114 : decode cL_areCosts 114 = .ok (.iload_n 2, 1) := by decide +kernel
theorem dL_areCosts_115 : decode cL_areCosts 115 = .ok (.bipush 36, 2) := by decide +kernel
theorem dL_areCosts_117 : decode cL_areCosts 117 = .ok (.iadd, 1) := by decide +kernel
theorem dL_areCosts_118 : decode cL_areCosts 118 = .ok (.if_icmp .lt 21, 3) := by decide +kernel
theorem dL_areCosts_121 : decode cL_areCosts 121 = .ok (.iload 6, 2) := by decide +kernel
theorem dL_areCosts_123 : decode cL_areCosts 123 = .ok (.iconst 1, 1) := by decide +kernel
theorem dL_areCosts_124 : decode cL_areCosts 124 = .ok (.iadd, 1) := by decide +kernel
theorem dL_areCosts_125 : decode cL_areCosts 125 = .ok (.iload 7, 2) := by decide +kernel
theorem dL_areCosts_127 : decode cL_areCosts 127 = .ok (.imul, 1) := by decide +kernel
theorem dL_areCosts_128 : decode cL_areCosts 128 = .ok (.iload_n 2, 1) := by decide +kernel
theorem dL_areCosts_129 : decode cL_areCosts 129 = .ok (.bipush 36, 2) := by decide +kernel
theorem dL_areCosts_131 : decode cL_areCosts 131 = .ok (.iadd, 1) := by decide +kernel
theorem dL_areCosts_132 : decode cL_areCosts 132 = .ok (.if_icmp .ge 7, 3) := by decide +kernel
theorem dL_areCosts_135 : decode cL_areCosts 135 = .ok (.iconst 1, 1) := by decide +kernel
theorem dL_areCosts_136 : decode cL_areCosts 136 = .ok (.goto 4, 3) := by decide +kernel
theorem dL_areCosts_139 : decode cL_areCosts 139 = .ok (.iconst 0, 1) := by decide +kernel
theorem dL_areCosts_140 : decode cL_areCosts 140 = .ok (.istore 4, 2) := by decide +kernel
theorem dL_areCosts_142 : decode cL_areCosts 142 = .ok (.iinc 5 1, 3) := by decide +kernel
theorem dL_areCosts_145 : decode cL_areCosts 145 = .ok (.goto (-131), 3) := by decide +kernel
theorem dL_areCosts_148 : decode cL_areCosts 148 = .ok (.iload 4, 2) := by decide +kernel
theorem dL_areCosts_150 : decode cL_areCosts 150 = .ok (.ifCond .eq 12, 3) := by decide +kernel
theorem dL_areCosts_153 : decode cL_areCosts 153 = .ok (.iload_n 3, 1) := by decide +kernel
theorem dL_areCosts_154 : decode cL_areCosts 154 = .ok (.iload_n 2, 1) := by decide +kernel
theorem dL_areCosts_155 : decode cL_areCosts 155 = .ok (.if_icmp .ne 7, 3) := by decide +kernel
theorem dL_areCosts_158 : decode cL_areCosts 158 = .ok (.iconst 1, 1) := by decide +kernel
theorem dL_areCosts_159 : decode cL_areCosts 159 = .ok (.goto 4, 3) := by decide +kernel
theorem dL_areCosts_162 : decode cL_areCosts 162 = .ok (.iconst 0, 1) := by decide +kernel
theorem dL_areCosts_163 : decode cL_areCosts 163 = .ok (.ireturn, 1) := by decide +kernel
set_option maxRecDepth 20000 in
theorem ggL_isCut_X4_runs : GoodIn wsL_isCut wsX4_runs := goodIn_r _ [5, 6, 7, 8, 9, 10, 11, 12, 150, 151, 152, 153, 154, 155, 156, 157, 158, 159] (by decide +kernel) (by decide +kernel)
set_option maxRecDepth 20000 in
theorem gL_isCut_X4_runs : GoodIn wsL_isCut (wsV RL 21 RX4 yX4_runs wsX4_runs) := goodIn_app (goodIn_of _ (by decide +kernel)) ggL_isCut_X4_runs
set_option maxRecDepth 20000 in
theorem ggL_isCut_X4_cutTongue : GoodIn wsL_isCut wsX4_cutTongue := goodIn_ca (goodIn_ca (goodIn_r _ [16, 17, 18, 19, 20, 21, 4, 22, 23, 24, 25, 26, 27, 28, 29, 30, 31, 6, 7, 8, 9, 10, 11, 12, 32, 33, 34, 35, 36, 37, 38, 39, 40, 41, 42, 43, 44, 45, 46, 47, 48, 49, 50, 51, 52, 53, 54, 55, 56, 57, 58, 59, 60, 61, 62, 63, 64, 65, 66, 67, 68, 69, 70, 71, 72, 73, 74, 75, 76, 77, 78, 79, 80, 81, 82, 83, 84, 85, 86, 87, 88, 89, 150, 151, 152, 153, 154, 155, 156, 157, 160, 161, 162, 163, 164, 165, 158, 159, 166, 167] (by decide +kernel) (by decide +kernel)) (goodIn_sub (fun _ h => List.mem_cons_of_mem _ (List.mem_append_left _ (List.mem_append_right _ h))) (by decide +kernel))) (goodIn_sub (fun _ h => List.mem_cons_of_mem _ (List.mem_append_right _ h)) (by decide +kernel))
set_option maxRecDepth 20000 in
theorem gL_isCut_X4_cutTongue : GoodIn wsL_isCut (wsV RL 25 RX4 yX4_cutTongue wsX4_cutTongue) := goodIn_app (goodIn_of _ (by decide +kernel)) ggL_isCut_X4_cutTongue
set_option maxRecDepth 20000 in
theorem ggL_isCut_X4_tongues : GoodIn wsL_isCut wsX4_tongues := goodIn_r _ [93, 25, 150, 151, 152, 153, 154, 155, 156, 157] (by decide +kernel) (by decide +kernel)
set_option maxRecDepth 20000 in
theorem gL_isCut_X4_tongues : GoodIn wsL_isCut (wsV RL 28 RX4 yX4_tongues wsX4_tongues) := goodIn_app (goodIn_of _ (by decide +kernel)) ggL_isCut_X4_tongues
set_option maxRecDepth 20000 in
theorem ggL_isCut_X4_runAt : GoodIn wsL_isCut wsX4_runAt := goodIn_ca (goodIn_r _ [97, 6, 26, 27, 28, 4, 29, 30, 31, 7, 8, 9, 10, 11, 12, 47, 48, 49, 50, 51, 52, 53, 54, 55, 150, 151, 152, 153, 154, 155, 156, 157, 158, 159] (by decide +kernel) (by decide +kernel)) (goodIn_sub (fun _ h => List.mem_cons_of_mem _ (List.mem_append_right _ h)) (by decide +kernel))
set_option maxRecDepth 20000 in
theorem gL_isCut_X4_runAt : GoodIn wsL_isCut (wsV RL 31 RX4 yX4_runAt wsX4_runAt) := goodIn_app (goodIn_of _ (by decide +kernel)) ggL_isCut_X4_runAt
set_option maxRecDepth 20000 in
theorem ggL_isCut_X4_cost : GoodIn wsL_isCut wsX4_cost := goodIn_ca (goodIn_r _ [101, 38, 102, 103, 104, 4, 105, 30, 31, 25, 106, 107, 108, 56, 57, 58, 59, 60, 61, 62, 150, 151, 152, 153, 154, 155, 156, 157, 166, 167] (by decide +kernel) (by decide +kernel)) (goodIn_sub (fun _ h => List.mem_cons_of_mem _ (List.mem_append_right _ h)) (by decide +kernel))
set_option maxRecDepth 20000 in
theorem gL_isCut_X4_cost : GoodIn wsL_isCut (wsV RL 18 RX4 yX4_cost wsX4_cost) := goodIn_app (goodIn_of _ (by decide +kernel)) ggL_isCut_X4_cost
set_option maxRecDepth 20000 in
theorem ggL_isCut_X4_textCost : GoodIn wsL_isCut wsX4_textCost := goodIn_ca (goodIn_r _ [112, 102, 103, 104, 4, 105, 30, 31, 25, 113, 114, 115, 116, 6, 38, 7, 8, 9, 10, 11, 12, 47, 48, 49, 50, 51, 52, 53, 54, 55, 56, 57, 58, 59, 60, 61, 62, 150, 151, 152, 153, 154, 155, 156, 157, 158, 159, 166, 167] (by decide +kernel) (by decide +kernel)) (goodIn_sub (fun _ h => List.mem_cons_of_mem _ (List.mem_append_right _ h)) (by decide +kernel))
set_option maxRecDepth 20000 in
theorem gL_isCut_X4_textCost : GoodIn wsL_isCut (wsV RL 34 RX4 yX4_textCost wsX4_textCost) := goodIn_app (goodIn_of _ (by decide +kernel)) ggL_isCut_X4_textCost
set_option maxRecDepth 20000 in
theorem ggL_isCut_X4_cutCost : GoodIn wsL_isCut wsX4_cutCost := goodIn_ca (goodIn_r _ [120, 17, 19, 20, 21, 4, 22, 23, 24, 25, 32, 33, 34, 35, 6, 36, 37, 38, 7, 8, 9, 10, 11, 12, 39, 40, 41, 42, 43, 44, 45, 46, 47, 48, 49, 50, 51, 52, 53, 54, 55, 56, 57, 58, 59, 60, 61, 62, 121, 122, 123, 124, 72, 68, 69, 70, 71, 73, 74, 75, 76, 77, 78, 79, 80, 81, 82, 83, 84, 85, 86, 87, 88, 89, 150, 151, 152, 153, 154, 155, 156, 157, 160, 161, 162, 163, 164, 165, 158, 159, 166, 167] (by decide +kernel) (by decide +kernel)) (goodIn_sub (fun _ h => List.mem_cons_of_mem _ (List.mem_append_left _ (List.mem_append_right _ h))) (by decide +kernel))
set_option maxRecDepth 20000 in
theorem gL_isCut_X4_cutCost : GoodIn wsL_isCut (wsV RL 37 RX4 yX4_cutCost wsX4_cutCost) := goodIn_app (goodIn_of _ (by decide +kernel)) ggL_isCut_X4_cutCost
set_option maxRecDepth 20000 in
theorem ggL_isCut_X4_stretches : GoodIn wsL_isCut wsX4_stretches := goodIn_ca (goodIn_r _ [128, 17, 19, 20, 21, 4, 22, 23, 24, 25, 32, 33, 34, 35, 6, 36, 37, 38, 7, 8, 9, 10, 11, 12, 39, 40, 41, 42, 43, 44, 45, 46, 47, 48, 49, 50, 51, 52, 53, 54, 55, 56, 57, 58, 59, 60, 61, 62, 63, 64, 65, 66, 67, 68, 69, 70, 71, 72, 73, 74, 75, 76, 77, 78, 79, 80, 81, 82, 83, 84, 85, 86, 87, 88, 89, 129, 130, 131, 132, 150, 151, 152, 153, 154, 155, 156, 157, 160, 161, 162, 163, 164, 165, 158, 159, 166, 167] (by decide +kernel) (by decide +kernel)) (goodIn_sub (fun _ h => List.mem_cons_of_mem _ (List.mem_append_left _ (List.mem_append_right _ h))) (by decide +kernel))
set_option maxRecDepth 20000 in
theorem gL_isCut_X4_stretches : GoodIn wsL_isCut (wsV RL 40 RX4 yX4_stretches wsX4_stretches) := goodIn_app (goodIn_of _ (by decide +kernel)) ggL_isCut_X4_stretches
set_option maxRecDepth 20000 in
theorem ggL_isCut_X4_cutCostByTrying : GoodIn wsL_isCut wsX4_cutCostByTrying := goodIn_ca (goodIn_r _ [136, 23, 24, 6, 137, 17, 19, 20, 21, 4, 22, 25, 32, 33, 34, 35, 36, 37, 38, 7, 8, 9, 10, 11, 12, 39, 40, 41, 42, 43, 44, 45, 46, 47, 48, 49, 50, 51, 52, 53, 54, 55, 56, 57, 58, 59, 60, 61, 62, 138, 139, 140, 141, 142, 143, 144, 145, 73, 146, 147, 148, 149, 86, 87, 88, 89, 150, 151, 152, 153, 154, 155, 156, 157, 158, 159, 160, 161, 162, 163, 164, 165, 166, 167] (by decide +kernel) (by decide +kernel)) (goodIn_sub (fun _ h => List.mem_cons_of_mem _ (List.mem_append_left _ (List.mem_append_right _ h))) (by decide +kernel))
set_option maxRecDepth 20000 in
theorem gL_isCut_X4_cutCostByTrying : GoodIn wsL_isCut (wsV RL 43 RX4 yX4_cutCostByTrying wsX4_cutCostByTrying) := goodIn_app (goodIn_of _ (by decide +kernel)) ggL_isCut_X4_cutCostByTrying
theorem dL_isCut_0 : decode cL_isCut 0 = .ok (.aload_n 0, 1) := by decide +kernel
theorem dL_isCut_1 : decode cL_isCut 1 = .ok (.invokevirtual 21, 3) := by decide +kernel
theorem dL_isCut_4 : decode cL_isCut 4 = .ok (.istore_n 3, 1) := by decide +kernel
theorem dL_isCut_5 : decode cL_isCut 5 = .ok (.iconst 0, 1) := by decide +kernel
theorem dL_isCut_6 : decode cL_isCut 6 = .ok (.istore 4, 2) := by decide +kernel
theorem dL_isCut_8 : decode cL_isCut 8 = .ok (.iconst 0, 1) := by decide +kernel
theorem dL_isCut_9 : decode cL_isCut 9 = .ok (.istore 5, 2) := by decide +kernel
theorem dL_isCut_11 : decode cL_isCut 11 = .ok (.iconst (-1), 1) := by decide +kernel
theorem dL_isCut_12 : decode cL_isCut 12 = .ok (.istore 6, 2) := by decide +kernel
theorem dL_isCut_14 : decode cL_isCut 14 = .ok (.iload_n 3, 1) := by decide +kernel
theorem dL_isCut_15 : decode cL_isCut 15 = .ok (.iload_n 2, 1) := by decide +kernel
theorem dL_isCut_16 : decode cL_isCut 16 = .ok (.ifCond .ne 7, 3) := by decide +kernel
theorem dL_isCut_19 : decode cL_isCut 19 = .ok (.iconst 0, 1) := by decide +kernel
theorem dL_isCut_20 : decode cL_isCut 20 = .ok (.goto 6, 3) := by decide +kernel
theorem dL_isCut_23 : decode cL_isCut 23 = .ok (.iload_n 2, 1) := by decide +kernel
theorem dL_isCut_24 : decode cL_isCut 24 = .ok (.iconst 1, 1) := by decide +kernel
theorem dL_isCut_25 : decode cL_isCut 25 = .ok (.iadd, 1) := by decide +kernel
theorem dL_isCut_26 : decode cL_isCut 26 = .ok (.if_icmp .ne 7, 3) := by decide +kernel
theorem dL_isCut_29 : decode cL_isCut 29 = .ok (.iconst 1, 1) := by decide +kernel
theorem dL_isCut_30 : decode cL_isCut 30 = .ok (.goto 4, 3) := by decide +kernel
theorem dL_isCut_33 : decode cL_isCut 33 = .ok (.iconst 0, 1) := by decide +kernel
theorem dL_isCut_34 : decode cL_isCut 34 = .ok (.istore 7, 2) := by decide +kernel
theorem dL_isCut_36 : decode cL_isCut 36 = .ok (.iconst 0, 1) := by decide +kernel
theorem dL_isCut_37 : decode cL_isCut 37 = .ok (.istore 8, 2) := by decide +kernel
theorem dL_isCut_39 : decode cL_isCut 39 = .ok (.iload 8, 2) := by decide +kernel
theorem dL_isCut_41 : decode cL_isCut 41 = .ok (.iload_n 3, 1) := by decide +kernel
theorem dL_isCut_42 : decode cL_isCut 42 = .ok (.if_icmp .ge 108, 3) := by decide +kernel
theorem dL_isCut_45 : decode cL_isCut 45 = .ok (.iload 7, 2) := by decide +kernel
theorem dL_isCut_47 : decode cL_isCut 47 = .ok (.ifCond .eq 103, 3) := by decide +kernel
theorem dL_isCut_50 : decode cL_isCut 50 = .ok (.aload_n 0, 1) := by decide +kernel
theorem dL_isCut_51 : decode cL_isCut 51 = .ok (.iload 8, 2) := by decide +kernel
theorem dL_isCut_53 : decode cL_isCut 53 = .ok (.invokevirtual 25, 3) := by decide +kernel
theorem dL_isCut_56 : decode cL_isCut 56 = .ok (.istore 9, 2) := by decide +kernel
theorem dL_isCut_58 : decode cL_isCut 58 = .ok (.iload 9, 2) := by decide +kernel
theorem dL_isCut_60 : decode cL_isCut 60 = .ok (.ifCond .lt 16, 3) := by decide +kernel
theorem dL_isCut_63 : decode cL_isCut 63 = .ok (.iload 9, 2) := by decide +kernel
theorem dL_isCut_65 : decode cL_isCut 65 = .ok (.aload_n 0, 1) := by decide +kernel
theorem dL_isCut_66 : decode cL_isCut 66 = .ok (.invokevirtual 28, 3) := by decide +kernel
theorem dL_isCut_69 : decode cL_isCut 69 = .ok (.if_icmp .ge 7, 3) := by decide +kernel
theorem dL_isCut_72 : decode cL_isCut 72 = .ok (.iconst 1, 1) := by decide +kernel
theorem dL_isCut_73 : decode cL_isCut 73 = .ok (.goto 4, 3) := by decide +kernel
theorem dL_isCut_76 : decode cL_isCut 76 = .ok (.iconst 0, 1) := by decide +kernel
theorem dL_isCut_77 : decode cL_isCut 77 = .ok (.istore 7, 2) := by decide +kernel
theorem dL_isCut_79 : decode cL_isCut 79 = .ok (.iload 4, 2) := by decide +kernel
theorem dL_isCut_81 : decode cL_isCut 81 = .ok (.iload 7, 2) := by decide +kernel
theorem dL_isCut_83 : decode cL_isCut 83 = .ok (.ifCond .eq 36, 3) := by decide +kernel
theorem dL_isCut_86 : decode cL_isCut 86 = .ok (.aload_n 0, 1) := by decide +kernel
theorem dL_isCut_87 : decode cL_isCut 87 = .ok (.iload 9, 2) := by decide +kernel
theorem dL_isCut_89 : decode cL_isCut 89 = .ok (.aload_n 0, 1) := by decide +kernel
theorem dL_isCut_90 : decode cL_isCut 90 = .ok (.iload 8, 2) := by decide +kernel
theorem dL_isCut_92 : decode cL_isCut 92 = .ok (.invokevirtual 31, 3) := by decide +kernel
theorem dL_isCut_95 : decode cL_isCut 95 = .ok (.invokevirtual 18, 3) := by decide +kernel
theorem dL_isCut_98 : decode cL_isCut 98 = .ok (.iload 6, 2) := by decide +kernel
theorem dL_isCut_100 : decode cL_isCut 100 = .ok (.ifCond .lt 10, 3) := by decide +kernel
theorem dL_isCut_103 : decode cL_isCut 103 = .ok (.iload 6, 2) := by decide +kernel
theorem dL_isCut_105 : decode cL_isCut 105 = .ok (.iload 9, 2) := by decide +kernel
theorem dL_isCut_107 : decode cL_isCut 107 = .ok (.if_icmp .ne 7, 3) := by decide +kernel
theorem dL_isCut_110 : decode cL_isCut 110 = .ok (.iconst 0, 1) := by decide +kernel
theorem dL_isCut_111 : decode cL_isCut 111 = .ok (.goto 4, 3) := by decide +kernel
theorem dL_isCut_114 : decode cL_isCut 114 = .ok (.iload_n 1, 1) := by decide +kernel
theorem dL_isCut_115 : decode cL_isCut 115 = .ok (.iadd, 1) := by decide +kernel
theorem dL_isCut_116 : decode cL_isCut 116 = .ok (.goto 4, 3) := by decide +kernel
theorem dL_isCut_119 : decode cL_isCut 119 = .ok (.iconst 0, 1) := by decide +kernel
theorem dL_isCut_120 : decode cL_isCut 120 = .ok (.iadd, 1) := by decide +kernel
theorem dL_isCut_121 : decode cL_isCut 121 = .ok (.istore 4, 2) := by decide +kernel
theorem dL_isCut_123 : decode cL_isCut 123 = .ok (.iload 5, 2) := by decide +kernel
theorem dL_isCut_125 : decode cL_isCut 125 = .ok (.iload 9, 2) := by decide +kernel
theorem dL_isCut_127 : decode cL_isCut 127 = .ok (.iload 6, 2) := by decide +kernel
theorem dL_isCut_129 : decode cL_isCut 129 = .ok (.if_icmp .ne 7, 3) := by decide +kernel
theorem dL_isCut_132 : decode cL_isCut 132 = .ok (.iconst 0, 1) := by decide +kernel
theorem dL_isCut_133 : decode cL_isCut 133 = .ok (.goto 4, 3) := by decide +kernel
theorem dL_isCut_136 : decode cL_isCut 136 = .ok (.iconst 1, 1) := by decide +kernel
theorem dL_isCut_137 : decode cL_isCut 137 = .ok (.iadd, 1) := by decide +kernel
theorem dL_isCut_138 : decode cL_isCut 138 = .ok (.istore 5, 2) := by decide +kernel
theorem dL_isCut_140 : decode cL_isCut 140 = .ok (.iload 9, 2) := by decide +kernel
theorem dL_isCut_142 : decode cL_isCut 142 = .ok (.istore 6, 2) := by decide +kernel
theorem dL_isCut_144 : decode cL_isCut 144 = .ok (.iinc 8 1, 3) := by decide +kernel
theorem dL_isCut_147 : decode cL_isCut 147 = .ok (.goto (-108), 3) := by decide +kernel
theorem dL_isCut_150 : decode cL_isCut 150 = .ok (.iconst 0, 1) := by decide +kernel
theorem dL_isCut_151 : decode cL_isCut 151 = .ok (.istore 8, 2) := by decide +kernel
theorem dL_isCut_153 : decode cL_isCut 153 = .ok (.iload 8, 2) := by decide +kernel
theorem dL_isCut_155 : decode cL_isCut 155 = .ok (.aload_n 0, 1) := by decide +kernel
theorem dL_isCut_156 : decode cL_isCut 156 = .ok (.invokevirtual 28, 3) := by decide +kernel
theorem dL_isCut_159 : decode cL_isCut 159 = .ok (.if_icmp .ge 32, 3) := by decide +kernel
theorem dL_isCut_162 : decode cL_isCut 162 = .ok (.iload 7, 2) := by decide +kernel
theorem dL_isCut_164 : decode cL_isCut 164 = .ok (.ifCond .eq 27, 3) := by decide +kernel
theorem dL_isCut_167 : decode cL_isCut 167 = .ok (.aload_n 0, 1) := by decide +kernel
theorem dL_isCut_168 : decode cL_isCut 168 = .ok (.iload 8, 2) := by decide +kernel
theorem dL_isCut_170 : decode cL_isCut 170 = .ok (.invokevirtual 34, 3) := by decide +kernel
theorem dL_isCut_173 : decode cL_isCut 173 = .ok (.iload 4, 2) := by decide +kernel
theorem dL_isCut_175 : decode cL_isCut 175 = .ok (.if_icmp .lt 7, 3) := by decide +kernel
theorem dL_isCut_178 : decode cL_isCut 178 = .ok (.iconst 1, 1) := by decide +kernel
theorem dL_isCut_179 : decode cL_isCut 179 = .ok (.goto 4, 3) := by decide +kernel
theorem dL_isCut_182 : decode cL_isCut 182 = .ok (.iconst 0, 1) := by decide +kernel
theorem dL_isCut_183 : decode cL_isCut 183 = .ok (.istore 7, 2) := by decide +kernel
theorem dL_isCut_185 : decode cL_isCut 185 = .ok (.iinc 8 1, 3) := by decide +kernel
theorem dL_isCut_188 : decode cL_isCut 188 = .ok (.goto (-35), 3) := by decide +kernel
theorem dL_isCut_191 : decode cL_isCut 191 = .ok (.iload 7, 2) := by decide +kernel
theorem dL_isCut_193 : decode cL_isCut 193 = .ok (.ifCond .eq 39, 3) := by decide +kernel
theorem dL_isCut_196 : decode cL_isCut 196 = .ok (.aload_n 0, 1) := by decide +kernel
theorem dL_isCut_197 : decode cL_isCut 197 = .ok (.invokevirtual 37, 3) := by decide +kernel
theorem dL_isCut_200 : decode cL_isCut 200 = .ok (.iload 4, 2) := by decide +kernel
theorem dL_isCut_202 : decode cL_isCut 202 = .ok (.if_icmp .ne 30, 3) := by decide +kernel
theorem dL_isCut_205 : decode cL_isCut 205 = .ok (.aload_n 0, 1) := by decide +kernel
theorem dL_isCut_206 : decode cL_isCut 206 = .ok (.invokevirtual 40, 3) := by decide +kernel
theorem dL_isCut_209 : decode cL_isCut 209 = .ok (.iload 5, 2) := by decide +kernel
theorem dL_isCut_211 : decode cL_isCut 211 = .ok (.if_icmp .ne 21, 3) := by decide +kernel
theorem dL_isCut_214 : decode cL_isCut 214 = .ok (.iload_n 2, 1) := by decide +kernel
theorem dL_isCut_215 : decode cL_isCut 215 = .ok (.iconst 5, 1) := by decide +kernel
theorem dL_isCut_216 : decode cL_isCut 216 = .ok (.if_icmp .gt 12, 3) := by decide +kernel
theorem dL_isCut_219 : decode cL_isCut 219 = .ok (.aload_n 0, 1) := by decide +kernel
theorem dL_isCut_220 : decode cL_isCut 220 = .ok (.invokevirtual 43, 3) := by decide +kernel
theorem dL_isCut_223 : decode cL_isCut 223 = .ok (.iload 4, 2) := by decide +kernel
theorem dL_isCut_225 : decode cL_isCut 225 = .ok (.if_icmp .ne 7, 3) := by decide +kernel
theorem dL_isCut_228 : decode cL_isCut 228 = .ok (.iconst 1, 1) := by decide +kernel
theorem dL_isCut_229 : decode cL_isCut 229 = .ok (.goto 4, 3) := by decide +kernel
theorem dL_isCut_232 : decode cL_isCut 232 = .ok (.iconst 0, 1) := by decide +kernel
theorem dL_isCut_233 : decode cL_isCut 233 = .ok (.ireturn, 1) := by decide +kernel
