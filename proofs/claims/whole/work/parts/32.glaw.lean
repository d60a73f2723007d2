/-! ===== printed: the law calls: the words of what it calls ===== -/
set_option maxRecDepth 20000 in
theorem ggL_law_X4_init : GoodIn wsL_law wsX4_init := goodIn_r _ [9, 10, 11, 12, 13, 14, 15, 16, 17, 18, 19, 20, 21, 22, 23, 24, 25, 26, 27, 28, 29, 30, 31, 32, 33, 34, 35, 36, 37, 38, 39, 40, 41, 42, 43, 44, 45, 46, 47, 48, 49, 50, 51, 52, 53, 54, 55, 56, 57, 58, 59, 60, 61, 62, 63, 617, 618, 596, 597, 598, 599, 600, 601, 602, 603, 619, 620, 621, 622, 623, 624, 625, 626, 627, 628, 629, 630, 631] (by decide +kernel) (by decide +kernel)
set_option maxRecDepth 20000 in
theorem gL_law_X4_init : GoodIn wsL_law (wsX4_init) := ggL_law_X4_init
set_option maxRecDepth 20000 in
theorem ggL_law_X5_init : GoodIn wsL_law wsX5_init := goodIn_r _ [66, 67, 11, 12, 36, 68, 69, 70, 71, 72, 73, 74, 75, 76, 604, 605, 606, 607, 608, 609, 610, 611, 612, 613, 614, 615, 616] (by decide +kernel) (by decide +kernel)
set_option maxRecDepth 20000 in
theorem gL_law_X5_init : GoodIn wsL_law (wsX5_init) := ggL_law_X5_init
set_option maxRecDepth 20000 in
theorem ggL_law_L_spell : GoodIn wsL_law wsL_spell := goodIn_ca (goodIn_ca (goodIn_r _ [80, 81, 82, 83, 84, 85, 2, 86, 87, 88, 89, 90, 16, 91, 92, 93, 94, 95, 96, 97, 15, 98, 37, 38, 596, 597, 598, 599, 600, 601, 602, 603, 617, 618] (by decide +kernel) (by decide +kernel)) (goodIn_sub (fun _ h => List.mem_append_left _ (List.mem_append_left _ (List.mem_append_left _ (List.mem_append_right _ h)))) (by decide +kernel))) (goodIn_sub (fun _ h => List.mem_append_left _ (List.mem_append_left _ (List.mem_append_right _ h))) (by decide +kernel))
set_option maxRecDepth 20000 in
theorem gL_law_L_spell : GoodIn wsL_law (va_wsS RL 82 yL_spell wsL_spell) := goodIn_app (goodIn_of _ (by decide +kernel)) ggL_law_L_spell
set_option maxRecDepth 20000 in
theorem ggL_law_X5_spell : GoodIn wsL_law wsX5_spell := goodIn_r _ [102, 103, 76, 68, 604, 605, 606, 607, 608, 609, 610, 611, 612, 613, 614, 615, 616] (by decide +kernel) (by decide +kernel)
set_option maxRecDepth 20000 in
theorem gL_law_X5_spell : GoodIn wsL_law (wsV RL 87 RX5 yX5_spell wsX5_spell) := goodIn_app (goodIn_of _ (by decide +kernel)) ggL_law_X5_spell
set_option maxRecDepth 20000 in
theorem ggL_law_X5_thrown : GoodIn wsL_law wsX5_thrown := goodIn_r _ [107, 76, 604, 605, 606, 607, 608, 609, 610, 611, 612, 613, 614, 615, 616] (by decide +kernel) (by decide +kernel)
set_option maxRecDepth 20000 in
theorem gL_law_X5_thrown : GoodIn wsL_law (wsV RL 88 RX5 yX5_thrown wsX5_thrown) := goodIn_app (goodIn_of _ (by decide +kernel)) ggL_law_X5_thrown
set_option maxRecDepth 20000 in
theorem ggL_law_X4_clearSpelled : GoodIn wsL_law wsX4_clearSpelled := goodIn_r _ [111, 16, 91, 596, 597, 598, 599, 600, 601, 602, 603, 617, 618] (by decide +kernel) (by decide +kernel)
set_option maxRecDepth 20000 in
theorem gL_law_X4_clearSpelled : GoodIn wsL_law (wsV RL 91 RX4 yX4_clearSpelled wsX4_clearSpelled) := goodIn_app (goodIn_of _ (by decide +kernel)) ggL_law_X4_clearSpelled
set_option maxRecDepth 20000 in
theorem ggL_law_X5_clearSpelled : GoodIn wsL_law wsX5_clearSpelled := goodIn_r _ [115, 76, 103, 604, 605, 606, 607, 608, 609, 610, 611, 612, 613, 614, 615, 616] (by decide +kernel) (by decide +kernel)
set_option maxRecDepth 20000 in
theorem gL_law_X5_clearSpelled : GoodIn wsL_law (wsV RL 94 RX5 yX5_clearSpelled wsX5_clearSpelled) := goodIn_app (goodIn_of _ (by decide +kernel)) ggL_law_X5_clearSpelled
set_option maxRecDepth 20000 in
theorem ggL_law_X4_runs : GoodIn wsL_law wsX4_runs := goodIn_r _ [119, 16, 120, 121, 122, 15, 123, 38, 596, 597, 598, 599, 600, 601, 602, 603, 617, 618] (by decide +kernel) (by decide +kernel)
set_option maxRecDepth 20000 in
theorem gL_law_X4_runs : GoodIn wsL_law (wsV RL 95 RX4 yX4_runs wsX4_runs) := goodIn_app (goodIn_of _ (by decide +kernel)) ggL_law_X4_runs
set_option maxRecDepth 20000 in
theorem ggL_law_X5_runs : GoodIn wsL_law wsX5_runs := goodIn_r _ [127, 76, 128, 129, 130, 5, 131, 103, 604, 605, 606, 607, 608, 609, 610, 611, 612, 613, 614, 615, 616] (by decide +kernel) (by decide +kernel)
set_option maxRecDepth 20000 in
theorem gL_law_X5_runs : GoodIn wsL_law (wsV RL 98 RX5 yX5_runs wsX5_runs) := goodIn_app (goodIn_of _ (by decide +kernel)) ggL_law_X5_runs
set_option maxRecDepth 20000 in
theorem ggL_law_L_runAt : GoodIn wsL_law wsL_runAt := goodIn_ca (goodIn_r _ [134, 135, 136, 137, 138, 2, 139, 16, 140, 141, 142, 143, 144, 145, 120, 121, 122, 15, 123, 38, 146, 147, 148, 149, 150, 151, 152, 153, 37, 596, 597, 598, 599, 600, 601, 602, 603, 617, 618] (by decide +kernel) (by decide +kernel)) (goodIn_sub (fun _ h => List.mem_append_left _ (List.mem_append_right _ h)) (by decide +kernel))
set_option maxRecDepth 20000 in
theorem gL_law_L_runAt : GoodIn wsL_law (va_wsS RL 99 yL_runAt wsL_runAt) := goodIn_app (goodIn_of _ (by decide +kernel)) ggL_law_L_runAt
set_option maxRecDepth 20000 in
theorem ggL_law_X5_runAt : GoodIn wsL_law wsX5_runAt := goodIn_r _ [157, 76, 128, 129, 130, 5, 131, 103, 158, 159, 160, 161, 162, 163, 164, 68, 165, 166, 167, 168, 604, 605, 606, 607, 608, 609, 610, 611, 612, 613, 614, 615, 616] (by decide +kernel) (by decide +kernel)
set_option maxRecDepth 20000 in
theorem gL_law_X5_runAt : GoodIn wsL_law (wsV RL 102 RX5 yX5_runAt wsX5_runAt) := goodIn_app (goodIn_of _ (by decide +kernel)) ggL_law_X5_runAt
set_option maxRecDepth 20000 in
theorem ggL_law_L_addTongue : GoodIn wsL_law wsL_addTongue := goodIn_ca (goodIn_r _ [171, 82, 172, 173, 174, 2, 175, 89, 90, 30, 176, 177, 178, 179, 596, 597, 598, 599, 600, 601, 602, 603] (by decide +kernel) (by decide +kernel)) (goodIn_sub (fun _ h => List.mem_append_left _ (List.mem_append_left _ (List.mem_append_right _ h))) (by decide +kernel))
set_option maxRecDepth 20000 in
theorem gL_law_L_addTongue : GoodIn wsL_law (va_wsS RL 103 yL_addTongue wsL_addTongue) := goodIn_app (goodIn_of _ (by decide +kernel)) ggL_law_L_addTongue
set_option maxRecDepth 20000 in
theorem ggL_law_X5_addTongue : GoodIn wsL_law wsX5_addTongue := goodIn_r _ [183, 184, 76, 604, 605, 606, 607, 608, 609, 610, 611, 612, 613, 614, 615, 616] (by decide +kernel) (by decide +kernel)
set_option maxRecDepth 20000 in
theorem gL_law_X5_addTongue : GoodIn wsL_law (wsV RL 106 RX5 yX5_addTongue wsX5_addTongue) := goodIn_app (goodIn_of _ (by decide +kernel)) ggL_law_X5_addTongue
set_option maxRecDepth 20000 in
theorem ggL_law_X4_tongues : GoodIn wsL_law wsX4_tongues := goodIn_r _ [188, 30, 596, 597, 598, 599, 600, 601, 602, 603] (by decide +kernel) (by decide +kernel)
set_option maxRecDepth 20000 in
theorem gL_law_X4_tongues : GoodIn wsL_law (wsV RL 107 RX4 yX4_tongues wsX4_tongues) := goodIn_app (goodIn_of _ (by decide +kernel)) ggL_law_X4_tongues
set_option maxRecDepth 20000 in
theorem ggL_law_X5_tongues : GoodIn wsL_law wsX5_tongues := goodIn_r _ [192, 76, 184, 604, 605, 606, 607, 608, 609, 610, 611, 612, 613, 614, 615, 616] (by decide +kernel) (by decide +kernel)
set_option maxRecDepth 20000 in
theorem gL_law_X5_tongues : GoodIn wsL_law (wsV RL 110 RX5 yX5_tongues wsX5_tongues) := goodIn_app (goodIn_of _ (by decide +kernel)) ggL_law_X5_tongues
set_option maxRecDepth 20000 in
theorem ggL_law_L_teach : GoodIn wsL_law wsL_teach := goodIn_ca (goodIn_ca (goodIn_r _ [195, 135, 82, 196, 197, 198, 2, 199, 89, 90, 16, 91, 25, 200, 201, 202, 203, 144, 145, 30, 204, 205, 206, 24, 207, 208, 209, 210, 211, 48, 120, 121, 122, 15, 123, 38, 212, 213, 214, 215, 216, 21, 217, 218, 219, 220, 221, 53, 49, 50, 146, 147, 148, 149, 150, 151, 152, 153, 37, 222, 223, 224, 19, 225, 42, 43, 596, 597, 598, 599, 600, 601, 602, 603, 617, 618, 621, 622, 623, 624, 625, 619, 620] (by decide +kernel) (by decide +kernel)) (goodIn_sub (fun _ h => List.mem_append_left _ (List.mem_append_left _ (List.mem_append_right _ h))) (by decide +kernel))) (goodIn_sub (fun _ h => List.mem_append_left _ (List.mem_append_right _ h)) (by decide +kernel))
set_option maxRecDepth 20000 in
theorem gL_law_L_teach : GoodIn wsL_law (va_wsS RL 111 yL_teach wsL_teach) := goodIn_app (goodIn_of _ (by decide +kernel)) ggL_law_L_teach
set_option maxRecDepth 20000 in
theorem ggL_law_X5_teach : GoodIn wsL_law wsX5_teach := goodIn_r _ [229, 103, 230, 76, 231, 232, 233, 5, 234, 184, 158, 159, 160, 128, 129, 130, 131, 235, 236, 237, 238, 71, 239, 72, 73, 74, 161, 162, 163, 164, 68, 604, 605, 606, 607, 608, 609, 610, 611, 612, 613, 614, 615, 616] (by decide +kernel) (by decide +kernel)
set_option maxRecDepth 20000 in
theorem gL_law_X5_teach : GoodIn wsL_law (wsV RL 113 RX5 yX5_teach wsX5_teach) := goodIn_app (goodIn_of _ (by decide +kernel)) ggL_law_X5_teach
set_option maxRecDepth 20000 in
theorem ggL_law_L_withdraw : GoodIn wsL_law wsL_withdraw := goodIn_ca (goodIn_r _ [242, 243, 244, 245, 246, 2, 247, 21, 25, 248, 249, 216, 250, 251, 252, 253, 254, 255, 256, 257, 258, 24, 259, 208, 209, 210, 211, 48, 260, 261, 262, 19, 263, 42, 43, 264, 265, 266, 267, 596, 597, 598, 599, 600, 601, 602, 603, 621, 622, 623, 624, 625, 619, 620] (by decide +kernel) (by decide +kernel)) (goodIn_sub (fun _ h => List.mem_append_right _ h) (by decide +kernel))
set_option maxRecDepth 20000 in
theorem gL_law_L_withdraw : GoodIn wsL_law (va_wsS RL 114 yL_withdraw wsL_withdraw) := goodIn_app (goodIn_of _ (by decide +kernel)) ggL_law_L_withdraw
set_option maxRecDepth 20000 in
theorem ggL_law_X5_withdraw : GoodIn wsL_law wsX5_withdraw := goodIn_r _ [271, 76, 73, 230, 71, 72, 74, 272, 273, 274, 5, 275, 604, 605, 606, 607, 608, 609, 610, 611, 612, 613, 614, 615, 616] (by decide +kernel) (by decide +kernel)
set_option maxRecDepth 20000 in
theorem gL_law_X5_withdraw : GoodIn wsL_law (wsV RL 116 RX5 yX5_withdraw wsX5_withdraw) := goodIn_app (goodIn_of _ (by decide +kernel)) ggL_law_X5_withdraw
set_option maxRecDepth 20000 in
theorem ggL_law_L_tongueOf : GoodIn wsL_law wsL_tongueOf := goodIn_ca (goodIn_r _ [278, 243, 279, 280, 281, 2, 282, 25, 248, 250, 251, 252, 253, 254, 255, 256, 257, 258, 24, 259, 208, 209, 210, 211, 48, 596, 597, 598, 599, 600, 601, 602, 603, 621, 622, 623, 624, 625] (by decide +kernel) (by decide +kernel)) (goodIn_sub (fun _ h => List.mem_append_right _ h) (by decide +kernel))
set_option maxRecDepth 20000 in
theorem gL_law_L_tongueOf : GoodIn wsL_law (va_wsS RL 117 yL_tongueOf wsL_tongueOf) := goodIn_app (goodIn_of _ (by decide +kernel)) ggL_law_L_tongueOf
set_option maxRecDepth 20000 in
theorem ggL_law_X5_tongueOf : GoodIn wsL_law wsX5_tongueOf := goodIn_r _ [286, 76, 72, 272, 273, 274, 5, 275, 230, 71, 604, 605, 606, 607, 608, 609, 610, 611, 612, 613, 614, 615, 616] (by decide +kernel) (by decide +kernel)
set_option maxRecDepth 20000 in
theorem gL_law_X5_tongueOf : GoodIn wsL_law (wsV RL 119 RX5 yX5_tongueOf wsX5_tongueOf) := goodIn_app (goodIn_of _ (by decide +kernel)) ggL_law_X5_tongueOf
set_option maxRecDepth 20000 in
theorem ggL_law_L_total : GoodIn wsL_law wsL_total := goodIn_ca (goodIn_r _ [289, 135, 290, 291, 292, 2, 293, 21, 294, 200, 201, 202, 203, 144, 145, 30, 596, 597, 598, 599, 600, 601, 602, 603, 619, 620] (by decide +kernel) (by decide +kernel)) (goodIn_sub (fun _ h => List.mem_append_left _ (List.mem_append_right _ h)) (by decide +kernel))
set_option maxRecDepth 20000 in
theorem gL_law_L_total : GoodIn wsL_law (va_wsS RL 120 yL_total wsL_total) := goodIn_app (goodIn_of _ (by decide +kernel)) ggL_law_L_total
set_option maxRecDepth 20000 in
theorem ggL_law_X5_total : GoodIn wsL_law wsX5_total := goodIn_r _ [298, 76, 231, 232, 233, 5, 234, 184, 158, 159, 160, 299, 300, 301, 302, 230, 72, 73, 165, 166, 167, 168, 604, 605, 606, 607, 608, 609, 610, 611, 612, 613, 614, 615, 616] (by decide +kernel) (by decide +kernel)
set_option maxRecDepth 20000 in
theorem gL_law_X5_total : GoodIn wsL_law (wsV RL 122 RX5 yX5_total wsX5_total) := goodIn_app (goodIn_of _ (by decide +kernel)) ggL_law_X5_total
set_option maxRecDepth 20000 in
theorem ggL_law_L_count : GoodIn wsL_law wsL_count := goodIn_ca (goodIn_r _ [305, 135, 306, 307, 308, 2, 309, 21, 310, 200, 201, 202, 203, 144, 145, 30, 311, 312, 313, 596, 597, 598, 599, 600, 601, 602, 603, 619, 620] (by decide +kernel) (by decide +kernel)) (goodIn_sub (fun _ h => List.mem_append_left _ (List.mem_append_right _ h)) (by decide +kernel))
set_option maxRecDepth 20000 in
theorem gL_law_L_count : GoodIn wsL_law (va_wsS RL 123 yL_count wsL_count) := goodIn_app (goodIn_of _ (by decide +kernel)) ggL_law_L_count
set_option maxRecDepth 20000 in
theorem ggL_law_X5_count : GoodIn wsL_law wsX5_count := goodIn_r _ [317, 318, 319, 320, 5, 321, 76, 231, 232, 233, 234, 184, 158, 159, 160, 322, 323, 324, 325, 230, 73, 72, 74, 604, 605, 606, 607, 608, 609, 610, 611, 612, 613, 614, 615, 616] (by decide +kernel) (by decide +kernel)
set_option maxRecDepth 20000 in
theorem gL_law_X5_count : GoodIn wsL_law (wsV RL 126 RX5 yX5_count wsX5_count) := goodIn_app (goodIn_of _ (by decide +kernel)) ggL_law_X5_count
set_option maxRecDepth 20000 in
theorem ggL_law_L_cost : GoodIn wsL_law wsL_cost := goodIn_ca (goodIn_r _ [328, 135, 329, 330, 331, 2, 332, 21, 200, 201, 202, 203, 144, 145, 30, 311, 312, 313, 333, 334, 335, 19, 336, 43, 42, 596, 597, 598, 599, 600, 601, 602, 603, 619, 620] (by decide +kernel) (by decide +kernel)) (goodIn_sub (fun _ h => List.mem_append_left _ (List.mem_append_right _ h)) (by decide +kernel))
set_option maxRecDepth 20000 in
theorem gL_law_L_cost : GoodIn wsL_law (va_wsS RL 127 yL_cost wsL_cost) := goodIn_app (goodIn_of _ (by decide +kernel)) ggL_law_L_cost
set_option maxRecDepth 20000 in
theorem ggL_law_X5_cost : GoodIn wsL_law wsX5_cost := goodIn_r _ [340, 318, 319, 320, 5, 321, 76, 231, 232, 233, 234, 184, 158, 159, 160, 341, 342, 343, 344, 322, 323, 324, 325, 230, 73, 72, 74, 299, 300, 301, 302, 604, 605, 606, 607, 608, 609, 610, 611, 612, 613, 614, 615, 616] (by decide +kernel) (by decide +kernel)
set_option maxRecDepth 20000 in
theorem gL_law_X5_cost : GoodIn wsL_law (wsV RL 129 RX5 yX5_cost wsX5_cost) := goodIn_app (goodIn_of _ (by decide +kernel)) ggL_law_X5_cost
set_option maxRecDepth 20000 in
theorem ggL_law_L_rank : GoodIn wsL_law wsL_rank := goodIn_ca (goodIn_r _ [347, 135, 348, 349, 350, 2, 351, 21, 200, 201, 202, 203, 144, 145, 30, 311, 312, 313, 352, 353, 354, 19, 355, 42, 596, 597, 598, 599, 600, 601, 602, 603, 619, 620] (by decide +kernel) (by decide +kernel)) (goodIn_sub (fun _ h => List.mem_append_left _ (List.mem_append_right _ h)) (by decide +kernel))
set_option maxRecDepth 20000 in
theorem gL_law_L_rank : GoodIn wsL_law (va_wsS RL 130 yL_rank wsL_rank) := goodIn_app (goodIn_of _ (by decide +kernel)) ggL_law_L_rank
set_option maxRecDepth 20000 in
theorem ggL_law_X5_rank : GoodIn wsL_law wsX5_rank := goodIn_r _ [359, 318, 319, 320, 5, 321, 76, 231, 232, 233, 234, 184, 158, 159, 160, 360, 361, 362, 363, 322, 323, 324, 325, 230, 73, 72, 74, 604, 605, 606, 607, 608, 609, 610, 611, 612, 613, 614, 615, 616] (by decide +kernel) (by decide +kernel)
set_option maxRecDepth 20000 in
theorem gL_law_X5_rank : GoodIn wsL_law (wsV RL 132 RX5 yX5_rank wsX5_rank) := goodIn_app (goodIn_of _ (by decide +kernel)) ggL_law_X5_rank
set_option maxRecDepth 20000 in
theorem ggL_law_L_textCost : GoodIn wsL_law wsL_textCost := goodIn_ca (goodIn_r _ [366, 135, 367, 368, 369, 2, 370, 200, 201, 202, 203, 144, 145, 30, 371, 372, 373, 374, 16, 21, 120, 121, 122, 15, 123, 38, 146, 147, 148, 149, 150, 151, 152, 153, 37, 333, 334, 335, 19, 336, 43, 42, 596, 597, 598, 599, 600, 601, 602, 603, 617, 618, 619, 620] (by decide +kernel) (by decide +kernel)) (goodIn_sub (fun _ h => List.mem_append_left _ (List.mem_append_right _ h)) (by decide +kernel))
set_option maxRecDepth 20000 in
theorem gL_law_L_textCost : GoodIn wsL_law (va_wsS RL 133 yL_textCost wsL_textCost) := goodIn_app (goodIn_of _ (by decide +kernel)) ggL_law_L_textCost
set_option maxRecDepth 20000 in
theorem ggL_law_X5_textCost : GoodIn wsL_law wsX5_textCost := goodIn_r _ [378, 76, 231, 232, 233, 5, 234, 184, 158, 159, 160, 379, 380, 381, 382, 128, 129, 130, 131, 103, 161, 162, 163, 164, 68, 341, 342, 343, 344, 322, 323, 324, 325, 230, 73, 72, 74, 299, 300, 301, 302, 604, 605, 606, 607, 608, 609, 610, 611, 612, 613, 614, 615, 616] (by decide +kernel) (by decide +kernel)
set_option maxRecDepth 20000 in
theorem gL_law_X5_textCost : GoodIn wsL_law (wsV RL 135 RX5 yX5_textCost wsX5_textCost) := goodIn_app (goodIn_of _ (by decide +kernel)) ggL_law_X5_textCost
set_option maxRecDepth 20000 in
theorem ggL_law_L_distance : GoodIn wsL_law wsL_distance := goodIn_ca (goodIn_r _ [385, 135, 386, 387, 388, 2, 389, 200, 201, 202, 203, 144, 145, 30, 390, 391, 392, 393, 20, 16, 394, 395, 396, 19, 397, 42, 43, 120, 121, 122, 15, 123, 38, 146, 147, 148, 149, 150, 151, 152, 153, 37, 222, 223, 224, 225, 398, 399, 400, 401, 21, 402, 403, 404, 405, 352, 353, 354, 355, 596, 597, 598, 599, 600, 601, 602, 603, 619, 620, 617, 618] (by decide +kernel) (by decide +kernel)) (goodIn_sub (fun _ h => List.mem_append_left _ (List.mem_append_right _ h)) (by decide +kernel))
set_option maxRecDepth 20000 in
theorem gL_law_L_distance : GoodIn wsL_law (va_wsS RL 136 yL_distance wsL_distance) := goodIn_app (goodIn_of _ (by decide +kernel)) ggL_law_L_distance
set_option maxRecDepth 20000 in
theorem ggL_law_X5_distance : GoodIn wsL_law wsX5_distance := goodIn_r _ [409, 76, 231, 232, 233, 5, 234, 184, 158, 159, 160, 410, 411, 412, 413, 128, 129, 130, 131, 103, 414, 415, 416, 417, 161, 162, 163, 164, 68, 360, 361, 362, 363, 322, 323, 324, 325, 230, 73, 72, 74, 604, 605, 606, 607, 608, 609, 610, 611, 612, 613, 614, 615, 616] (by decide +kernel) (by decide +kernel)
set_option maxRecDepth 20000 in
theorem gL_law_X5_distance : GoodIn wsL_law (wsV RL 138 RX5 yX5_distance wsX5_distance) := goodIn_app (goodIn_of _ (by decide +kernel)) ggL_law_X5_distance
set_option maxRecDepth 20000 in
theorem ggL_law_L_setMargin : GoodIn wsL_law wsL_setMargin := goodIn_ca (goodIn_r _ [420, 81, 421, 422, 423, 2, 424, 87, 88, 31, 596, 597, 598, 599, 600, 601, 602, 603] (by decide +kernel) (by decide +kernel)) (goodIn_sub (fun _ h => List.mem_append_left _ (List.mem_append_left _ (List.mem_append_left _ (List.mem_append_right _ h)))) (by decide +kernel))
set_option maxRecDepth 20000 in
theorem gL_law_L_setMargin : GoodIn wsL_law (va_wsS RL 139 yL_setMargin wsL_setMargin) := goodIn_app (goodIn_of _ (by decide +kernel)) ggL_law_L_setMargin
set_option maxRecDepth 20000 in
theorem ggL_law_X5_setMargin : GoodIn wsL_law wsX5_setMargin := goodIn_r _ [428, 76, 69, 158, 159, 5, 160, 604, 605, 606, 607, 608, 609, 610, 611, 612, 613, 614, 615, 616] (by decide +kernel) (by decide +kernel)
set_option maxRecDepth 20000 in
theorem gL_law_X5_setMargin : GoodIn wsL_law (wsV RL 141 RX5 yX5_setMargin wsX5_setMargin) := goodIn_app (goodIn_of _ (by decide +kernel)) ggL_law_X5_setMargin
set_option maxRecDepth 20000 in
theorem ggL_law_X4_tell : GoodIn wsL_law wsX4_tell := goodIn_r _ [432, 16, 91, 30, 371, 372, 373, 2, 374, 21, 120, 121, 122, 15, 123, 38, 146, 147, 148, 149, 150, 151, 152, 153, 37, 333, 334, 335, 19, 336, 43, 42, 433, 434, 435, 436, 31, 596, 597, 598, 599, 600, 601, 602, 603, 617, 618, 619, 620] (by decide +kernel) (by decide +kernel)
set_option maxRecDepth 20000 in
theorem gL_law_X4_tell : GoodIn wsL_law (wsV RL 142 RX4 yX4_tell wsX4_tell) := goodIn_app (goodIn_of _ (by decide +kernel)) ggL_law_X4_tell
set_option maxRecDepth 20000 in
theorem ggL_law_X5_tell : GoodIn wsL_law wsX5_tell := goodIn_r _ [440, 76, 184, 103, 69, 379, 380, 381, 5, 382, 128, 129, 130, 131, 161, 162, 163, 164, 68, 341, 342, 343, 344, 322, 323, 324, 325, 230, 73, 72, 74, 299, 300, 301, 302, 604, 605, 606, 607, 608, 609, 610, 611, 612, 613, 614, 615, 616] (by decide +kernel) (by decide +kernel)
set_option maxRecDepth 20000 in
theorem gL_law_X5_tell : GoodIn wsL_law (wsV RL 145 RX5 yX5_tell wsX5_tell) := goodIn_app (goodIn_of _ (by decide +kernel)) ggL_law_X5_tell
set_option maxRecDepth 20000 in
theorem ggL_law_X4_tellByRanks : GoodIn wsL_law wsX4_tellByRanks := goodIn_r _ [444, 16, 91, 30, 390, 391, 392, 2, 393, 20, 394, 395, 396, 19, 397, 42, 43, 120, 121, 122, 15, 123, 38, 146, 147, 148, 149, 150, 151, 152, 153, 37, 222, 223, 224, 225, 398, 399, 400, 401, 21, 402, 403, 404, 405, 352, 353, 354, 355, 596, 597, 598, 599, 600, 601, 602, 603, 617, 618, 619, 620] (by decide +kernel) (by decide +kernel)
set_option maxRecDepth 20000 in
theorem gL_law_X4_tellByRanks : GoodIn wsL_law (wsV RL 146 RX4 yX4_tellByRanks wsX4_tellByRanks) := goodIn_app (goodIn_of _ (by decide +kernel)) ggL_law_X4_tellByRanks
set_option maxRecDepth 20000 in
theorem ggL_law_X5_tellByRanks : GoodIn wsL_law wsX5_tellByRanks := goodIn_r _ [448, 76, 184, 103, 410, 411, 412, 5, 413, 128, 129, 130, 131, 414, 415, 416, 417, 161, 162, 163, 164, 68, 360, 361, 362, 363, 322, 323, 324, 325, 230, 73, 72, 74, 604, 605, 606, 607, 608, 609, 610, 611, 612, 613, 614, 615, 616] (by decide +kernel) (by decide +kernel)
set_option maxRecDepth 20000 in
theorem gL_law_X5_tellByRanks : GoodIn wsL_law (wsV RL 149 RX5 yX5_tellByRanks wsX5_tellByRanks) := goodIn_app (goodIn_of _ (by decide +kernel)) ggL_law_X5_tellByRanks
set_option maxRecDepth 20000 in
theorem ggL_law_L_setPrice : GoodIn wsL_law wsL_setPrice := goodIn_ca (goodIn_r _ [451, 81, 452, 453, 454, 2, 455, 87, 88, 32, 596, 597, 598, 599, 600, 601, 602, 603] (by decide +kernel) (by decide +kernel)) (goodIn_sub (fun _ h => List.mem_append_left _ (List.mem_append_left _ (List.mem_append_left _ (List.mem_append_right _ h)))) (by decide +kernel))
set_option maxRecDepth 20000 in
theorem gL_law_L_setPrice : GoodIn wsL_law (va_wsS RL 150 yL_setPrice wsL_setPrice) := goodIn_app (goodIn_of _ (by decide +kernel)) ggL_law_L_setPrice
set_option maxRecDepth 20000 in
theorem ggL_law_X5_setPrice : GoodIn wsL_law wsX5_setPrice := goodIn_r _ [459, 76, 70, 158, 159, 5, 160, 604, 605, 606, 607, 608, 609, 610, 611, 612, 613, 614, 615, 616] (by decide +kernel) (by decide +kernel)
set_option maxRecDepth 20000 in
theorem gL_law_X5_setPrice : GoodIn wsL_law (wsV RL 152 RX5 yX5_setPrice wsX5_setPrice) := goodIn_app (goodIn_of _ (by decide +kernel)) ggL_law_X5_setPrice
set_option maxRecDepth 20000 in
theorem ggL_law_L_cutCost : GoodIn wsL_law wsL_cutCost := goodIn_ca (goodIn_r _ [462, 82, 463, 464, 465, 2, 466, 29, 467, 468, 469, 470, 89, 90, 30, 471, 472, 473, 474, 16, 32, 475, 21, 120, 121, 122, 15, 123, 38, 476, 477, 478, 28, 479, 61, 62, 63, 146, 147, 148, 149, 150, 151, 152, 153, 37, 333, 334, 335, 19, 336, 43, 42, 480, 481, 482, 483, 60, 484, 485, 486, 487, 58, 488, 489, 490, 491, 492, 493, 494, 495, 496, 497, 498, 499, 500, 501, 502, 503, 596, 597, 598, 599, 600, 601, 602, 603, 626, 627, 628, 629, 630, 631, 617, 618, 619, 620] (by decide +kernel) (by decide +kernel)) (goodIn_sub (fun _ h => List.mem_append_left _ (List.mem_append_left _ (List.mem_append_right _ h))) (by decide +kernel))
set_option maxRecDepth 20000 in
theorem gL_law_L_cutCost : GoodIn wsL_law (va_wsS RL 153 yL_cutCost wsL_cutCost) := goodIn_app (goodIn_of _ (by decide +kernel)) ggL_law_L_cutCost
set_option maxRecDepth 20000 in
theorem ggL_law_X5_cutCost : GoodIn wsL_law wsX5_cutCost := goodIn_r _ [507, 184, 76, 508, 509, 510, 5, 511, 75, 512, 513, 514, 515, 128, 129, 130, 131, 103, 516, 517, 518, 519, 70, 161, 162, 163, 164, 68, 341, 342, 343, 344, 322, 323, 324, 325, 230, 73, 72, 74, 299, 300, 301, 302, 520, 521, 522, 523, 604, 605, 606, 607, 608, 609, 610, 611, 612, 613, 614, 615, 616] (by decide +kernel) (by decide +kernel)
set_option maxRecDepth 20000 in
theorem gL_law_X5_cutCost : GoodIn wsL_law (wsV RL 155 RX5 yX5_cutCost wsX5_cutCost) := goodIn_app (goodIn_of _ (by decide +kernel)) ggL_law_X5_cutCost
set_option maxRecDepth 20000 in
theorem ggL_law_L_cutCostByTrying : GoodIn wsL_law wsL_cutCostByTrying := goodIn_ca (goodIn_r _ [526, 82, 527, 528, 529, 2, 530, 89, 90, 16, 91, 29, 467, 468, 469, 470, 30, 471, 472, 473, 474, 32, 475, 21, 120, 121, 122, 15, 123, 38, 476, 477, 478, 28, 479, 61, 62, 63, 146, 147, 148, 149, 150, 151, 152, 153, 37, 333, 334, 335, 19, 336, 43, 42, 531, 532, 533, 534, 535, 536, 537, 538, 58, 539, 540, 404, 541, 500, 501, 502, 503, 596, 597, 598, 599, 600, 601, 602, 603, 617, 618, 626, 627, 628, 629, 630, 631, 619, 620] (by decide +kernel) (by decide +kernel)) (goodIn_sub (fun _ h => List.mem_append_left _ (List.mem_append_left _ (List.mem_append_right _ h))) (by decide +kernel))
set_option maxRecDepth 20000 in
theorem gL_law_L_cutCostByTrying : GoodIn wsL_law (va_wsS RL 156 yL_cutCostByTrying wsL_cutCostByTrying) := goodIn_app (goodIn_of _ (by decide +kernel)) ggL_law_L_cutCostByTrying
set_option maxRecDepth 20000 in
theorem ggL_law_X5_cutCostByTrying : GoodIn wsL_law wsX5_cutCostByTrying := goodIn_r _ [545, 184, 103, 76, 508, 509, 510, 5, 511, 75, 512, 513, 514, 515, 128, 129, 130, 131, 516, 517, 518, 519, 70, 161, 162, 163, 164, 68, 341, 342, 343, 344, 322, 323, 324, 325, 230, 73, 72, 74, 299, 300, 301, 302, 520, 521, 522, 523, 604, 605, 606, 607, 608, 609, 610, 611, 612, 613, 614, 615, 616] (by decide +kernel) (by decide +kernel)
set_option maxRecDepth 20000 in
theorem gL_law_X5_cutCostByTrying : GoodIn wsL_law (wsV RL 158 RX5 yX5_cutCostByTrying wsX5_cutCostByTrying) := goodIn_app (goodIn_of _ (by decide +kernel)) ggL_law_X5_cutCostByTrying
set_option maxRecDepth 20000 in
theorem ggL_law_L_cutTongue : GoodIn wsL_law wsL_cutTongue := goodIn_ca (goodIn_ca (goodIn_r _ [548, 82, 135, 549, 550, 551, 2, 552, 29, 553, 467, 468, 469, 470, 89, 90, 30, 140, 141, 142, 143, 144, 145, 16, 120, 121, 122, 15, 123, 38, 471, 472, 473, 474, 32, 475, 21, 476, 477, 478, 28, 479, 61, 62, 63, 146, 147, 148, 149, 150, 151, 152, 153, 37, 333, 334, 335, 19, 336, 43, 42, 554, 555, 556, 557, 59, 484, 485, 486, 487, 60, 58, 488, 489, 490, 491, 492, 493, 494, 495, 496, 497, 498, 499, 500, 501, 502, 503, 596, 597, 598, 599, 600, 601, 602, 603, 626, 627, 628, 629, 630, 631, 617, 618, 619, 620] (by decide +kernel) (by decide +kernel)) (goodIn_sub (fun _ h => List.mem_append_left _ (List.mem_append_left _ (List.mem_append_right _ h))) (by decide +kernel))) (goodIn_sub (fun _ h => List.mem_append_left _ (List.mem_append_right _ h)) (by decide +kernel))
set_option maxRecDepth 20000 in
theorem gL_law_L_cutTongue : GoodIn wsL_law (va_wsS RL 159 yL_cutTongue wsL_cutTongue) := goodIn_app (goodIn_of _ (by decide +kernel)) ggL_law_L_cutTongue
set_option maxRecDepth 20000 in
theorem ggL_law_X5_cutTongue : GoodIn wsL_law wsX5_cutTongue := goodIn_r _ [561, 184, 76, 128, 129, 130, 5, 131, 103, 158, 159, 160, 512, 513, 514, 515, 75, 516, 517, 518, 519, 70, 161, 162, 163, 164, 68, 341, 342, 343, 344, 322, 323, 324, 325, 230, 73, 72, 74, 299, 300, 301, 302, 520, 521, 522, 523, 604, 605, 606, 607, 608, 609, 610, 611, 612, 613, 614, 615, 616] (by decide +kernel) (by decide +kernel)
set_option maxRecDepth 20000 in
theorem gL_law_X5_cutTongue : GoodIn wsL_law (wsV RL 161 RX5 yX5_cutTongue wsX5_cutTongue) := goodIn_app (goodIn_of _ (by decide +kernel)) ggL_law_X5_cutTongue
set_option maxRecDepth 20000 in
theorem ggL_law_L_stretches : GoodIn wsL_law wsL_stretches := goodIn_ca (goodIn_r _ [564, 82, 565, 566, 567, 2, 568, 29, 467, 468, 469, 470, 89, 90, 30, 471, 472, 473, 474, 16, 32, 475, 21, 120, 121, 122, 15, 123, 38, 476, 477, 478, 28, 479, 61, 62, 63, 146, 147, 148, 149, 150, 151, 152, 153, 37, 333, 334, 335, 19, 336, 43, 42, 554, 555, 556, 557, 59, 484, 485, 486, 487, 60, 58, 488, 489, 490, 491, 492, 493, 494, 495, 496, 497, 498, 499, 500, 501, 502, 503, 569, 570, 571, 572, 596, 597, 598, 599, 600, 601, 602, 603, 626, 627, 628, 629, 630, 631, 617, 618, 619, 620] (by decide +kernel) (by decide +kernel)) (goodIn_sub (fun _ h => List.mem_append_left _ (List.mem_append_left _ (List.mem_append_right _ h))) (by decide +kernel))
set_option maxRecDepth 20000 in
theorem gL_law_L_stretches : GoodIn wsL_law (va_wsS RL 162 yL_stretches wsL_stretches) := goodIn_app (goodIn_of _ (by decide +kernel)) ggL_law_L_stretches
set_option maxRecDepth 20000 in
theorem ggL_law_X5_stretches : GoodIn wsL_law wsX5_stretches := goodIn_r _ [576, 184, 76, 512, 513, 514, 5, 515, 75, 128, 129, 130, 131, 103, 516, 517, 518, 519, 70, 161, 162, 163, 164, 68, 341, 342, 343, 344, 322, 323, 324, 325, 230, 73, 72, 74, 299, 300, 301, 302, 520, 521, 522, 523, 604, 605, 606, 607, 608, 609, 610, 611, 612, 613, 614, 615, 616] (by decide +kernel) (by decide +kernel)
set_option maxRecDepth 20000 in
theorem gL_law_X5_stretches : GoodIn wsL_law (wsV RL 164 RX5 yX5_stretches wsX5_stretches) := goodIn_app (goodIn_of _ (by decide +kernel)) ggL_law_X5_stretches
set_option maxRecDepth 20000 in
theorem ggL_law_L_learn : GoodIn wsL_law wsL_learn := goodIn_ca (goodIn_ca (goodIn_r _ [579, 81, 82, 580, 581, 582, 2, 583, 87, 88, 89, 90, 30, 25, 16, 204, 205, 206, 24, 207, 208, 209, 210, 211, 48, 120, 121, 122, 15, 123, 38, 146, 147, 148, 149, 150, 151, 152, 153, 37, 584, 585, 586, 587, 21, 333, 334, 335, 19, 336, 43, 42, 176, 177, 178, 179, 212, 213, 214, 215, 216, 217, 218, 219, 220, 221, 53, 49, 50, 222, 223, 224, 225, 596, 597, 598, 599, 600, 601, 602, 603, 621, 622, 623, 624, 625, 617, 618, 619, 620] (by decide +kernel) (by decide +kernel)) (goodIn_sub (fun _ h => List.mem_append_left _ (List.mem_append_left _ (List.mem_append_left _ (List.mem_append_right _ h)))) (by decide +kernel))) (goodIn_sub (fun _ h => List.mem_append_left _ (List.mem_append_left _ (List.mem_append_right _ h))) (by decide +kernel))
set_option maxRecDepth 20000 in
theorem gL_law_L_learn : GoodIn wsL_law (va_wsS RL 165 yL_learn wsL_learn) := goodIn_app (goodIn_of _ (by decide +kernel)) ggL_law_L_learn
set_option maxRecDepth 20000 in
theorem ggL_law_X5_learn : GoodIn wsL_law wsX5_learn := goodIn_r _ [591, 184, 230, 76, 158, 159, 5, 160, 128, 129, 130, 131, 103, 592, 593, 594, 595, 161, 162, 163, 164, 68, 341, 342, 343, 344, 322, 323, 324, 325, 73, 72, 74, 299, 300, 301, 302, 235, 236, 237, 238, 71, 239, 604, 605, 606, 607, 608, 609, 610, 611, 612, 613, 614, 615, 616] (by decide +kernel) (by decide +kernel)
set_option maxRecDepth 20000 in
theorem gL_law_X5_learn : GoodIn wsL_law (wsV RL 167 RX5 yX5_learn wsX5_learn) := goodIn_app (goodIn_of _ (by decide +kernel)) ggL_law_X5_learn
