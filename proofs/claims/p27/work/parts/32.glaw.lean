/-! ===== printed: the law calls: the words of what it calls ===== -/
set_option maxRecDepth 20000 in
theorem ggL_law_X4_init : GoodIn wsL_law wsX4_init := goodIn_r _ [5, 6, 7, 8, 9, 10, 11, 12, 13, 14, 15, 16, 17, 18, 19, 20, 21, 22, 23, 24, 25, 26, 27, 28, 29, 30, 31, 32, 33, 34, 35, 36, 37, 38, 39, 40, 41, 42, 43, 44, 45, 46, 47, 48, 49, 50, 51, 52, 53, 54, 55, 56, 57, 58, 59, 305, 306, 297, 298, 299, 300, 301, 302, 303, 304, 307, 308, 309, 310, 311, 312, 313, 314, 315, 316, 317, 318, 319] (by decide +kernel) (by decide +kernel)
set_option maxRecDepth 20000 in
theorem gL_law_X4_init : GoodIn wsL_law (wsX4_init) := ggL_law_X4_init
set_option maxRecDepth 20000 in
theorem ggL_law_X4_addTongue : GoodIn wsL_law wsX4_addTongue := goodIn_ca (goodIn_r _ [63, 64, 65, 26, 66, 67, 68, 2, 69, 297, 298, 299, 300, 301, 302, 303, 304] (by decide +kernel) (by decide +kernel)) (goodIn_sub (fun _ h => List.mem_append_left _ (List.mem_append_left _ (List.mem_append_left _ (List.mem_append_right _ h)))) (by decide +kernel))
set_option maxRecDepth 20000 in
theorem gL_law_X4_addTongue : GoodIn wsL_law (wsV RL 47 RX4 yX4_addTongue wsX4_addTongue) := goodIn_app (goodIn_of _ (by decide +kernel)) ggL_law_X4_addTongue
set_option maxRecDepth 20000 in
theorem ggL_law_L_cell : GoodIn wsL_law wsL_cell := goodIn_r _ [73] (by decide +kernel) (by decide +kernel)
set_option maxRecDepth 20000 in
theorem gL_law_L_cell : GoodIn wsL_law (va_wsS RL 50 yL_cell wsL_cell) := goodIn_app (goodIn_of _ (by decide +kernel)) ggL_law_L_cell
set_option maxRecDepth 20000 in
theorem ggL_law_L_low : GoodIn wsL_law wsL_low := goodIn_r _ [76, 77] (by decide +kernel) (by decide +kernel)
set_option maxRecDepth 20000 in
theorem gL_law_L_low : GoodIn wsL_law (va_wsS RL 56 yL_low wsL_low) := goodIn_app (goodIn_of _ (by decide +kernel)) ggL_law_L_low
set_option maxRecDepth 20000 in
theorem ggL_law_X4_spell : GoodIn wsL_law wsX4_spell := goodIn_ca (goodIn_ca (goodIn_r _ [81, 82, 83, 64, 65, 12, 84, 85, 86, 2, 87, 88, 89, 90, 11, 91, 33, 34, 297, 298, 299, 300, 301, 302, 303, 304, 305, 306] (by decide +kernel) (by decide +kernel)) (goodIn_sub (fun _ h => List.mem_append_left _ (List.mem_append_left _ (List.mem_append_right _ h))) (by decide +kernel))) (goodIn_sub (fun _ h => List.mem_append_left _ (List.mem_append_left _ (List.mem_append_left _ (List.mem_append_right _ h)))) (by decide +kernel))
set_option maxRecDepth 20000 in
theorem gL_law_X4_spell : GoodIn wsL_law (wsV RL 59 RX4 yX4_spell wsX4_spell) := goodIn_app (goodIn_of _ (by decide +kernel)) ggL_law_X4_spell
set_option maxRecDepth 20000 in
theorem ggL_law_X4_clearSpelled : GoodIn wsL_law wsX4_clearSpelled := goodIn_r _ [95, 12, 84, 297, 298, 299, 300, 301, 302, 303, 304, 305, 306] (by decide +kernel) (by decide +kernel)
set_option maxRecDepth 20000 in
theorem gL_law_X4_clearSpelled : GoodIn wsL_law (wsV RL 63 RX4 yX4_clearSpelled wsX4_clearSpelled) := goodIn_app (goodIn_of _ (by decide +kernel)) ggL_law_X4_clearSpelled
set_option maxRecDepth 20000 in
theorem ggL_law_X4_tongues : GoodIn wsL_law wsX4_tongues := goodIn_r _ [99, 26, 297, 298, 299, 300, 301, 302, 303, 304] (by decide +kernel) (by decide +kernel)
set_option maxRecDepth 20000 in
theorem gL_law_X4_tongues : GoodIn wsL_law (wsV RL 28 RX4 yX4_tongues wsX4_tongues) := goodIn_app (goodIn_of _ (by decide +kernel)) ggL_law_X4_tongues
set_option maxRecDepth 20000 in
theorem ggL_law_X4_teach : GoodIn wsL_law wsX4_teach := goodIn_ca (goodIn_ca (goodIn_r _ [103, 64, 65, 12, 84, 21, 104, 105, 106, 2, 107, 108, 109, 26, 110, 111, 112, 20, 113, 114, 115, 116, 117, 44, 118, 119, 120, 11, 121, 34, 122, 123, 124, 125, 126, 17, 127, 128, 129, 130, 131, 49, 45, 46, 132, 133, 134, 135, 136, 137, 138, 139, 33, 140, 141, 142, 15, 143, 38, 39, 297, 298, 299, 300, 301, 302, 303, 304, 305, 306, 309, 310, 311, 312, 313, 307, 308] (by decide +kernel) (by decide +kernel)) (goodIn_sub (fun _ h => List.mem_append_left _ (List.mem_append_left _ (List.mem_append_left _ (List.mem_append_right _ h)))) (by decide +kernel))) (goodIn_sub (fun _ h => List.mem_append_left _ (List.mem_append_right _ h)) (by decide +kernel))
set_option maxRecDepth 20000 in
theorem gL_law_X4_teach : GoodIn wsL_law (wsV RL 66 RX4 yX4_teach wsX4_teach) := goodIn_app (goodIn_of _ (by decide +kernel)) ggL_law_X4_teach
set_option maxRecDepth 20000 in
theorem ggL_law_X4_tongueOf : GoodIn wsL_law wsX4_tongueOf := goodIn_ca (goodIn_r _ [147, 21, 148, 149, 150, 151, 2, 152, 153, 154, 155, 156, 157, 20, 158, 114, 115, 116, 117, 44, 297, 298, 299, 300, 301, 302, 303, 304, 309, 310, 311, 312, 313] (by decide +kernel) (by decide +kernel)) (goodIn_sub (fun _ h => List.mem_append_right _ h) (by decide +kernel))
set_option maxRecDepth 20000 in
theorem gL_law_X4_tongueOf : GoodIn wsL_law (wsV RL 69 RX4 yX4_tongueOf wsX4_tongueOf) := goodIn_app (goodIn_of _ (by decide +kernel)) ggL_law_X4_tongueOf
set_option maxRecDepth 20000 in
theorem ggL_law_X4_withdraw : GoodIn wsL_law wsX4_withdraw := goodIn_ca (goodIn_r _ [162, 17, 21, 148, 163, 126, 149, 150, 151, 2, 152, 153, 154, 155, 156, 157, 20, 158, 114, 115, 116, 117, 44, 164, 165, 166, 15, 167, 38, 39, 168, 169, 170, 171, 297, 298, 299, 300, 301, 302, 303, 304, 309, 310, 311, 312, 313, 307, 308] (by decide +kernel) (by decide +kernel)) (goodIn_sub (fun _ h => List.mem_append_right _ h) (by decide +kernel))
set_option maxRecDepth 20000 in
theorem gL_law_X4_withdraw : GoodIn wsL_law (wsV RL 72 RX4 yX4_withdraw wsX4_withdraw) := goodIn_app (goodIn_of _ (by decide +kernel)) ggL_law_X4_withdraw
set_option maxRecDepth 20000 in
theorem ggL_law_X4_setPrice : GoodIn wsL_law wsX4_setPrice := goodIn_ca (goodIn_r _ [175, 82, 83, 28, 297, 298, 299, 300, 301, 302, 303, 304] (by decide +kernel) (by decide +kernel)) (goodIn_sub (fun _ h => List.mem_append_left _ (List.mem_append_left _ (List.mem_append_right _ h))) (by decide +kernel))
set_option maxRecDepth 20000 in
theorem gL_law_X4_setPrice : GoodIn wsL_law (wsV RL 75 RX4 yX4_setPrice wsX4_setPrice) := goodIn_app (goodIn_of _ (by decide +kernel)) ggL_law_X4_setPrice
set_option maxRecDepth 20000 in
theorem ggL_law_L_areCosts : GoodIn wsL_law wsL_areCosts := goodIn_ca (goodIn_r _ [178, 179, 180, 181, 2, 182, 17, 183, 104, 105, 106, 107, 108, 109, 26, 184, 185, 186, 187, 188, 189, 190, 191, 192, 193, 194, 195, 196, 197, 198, 15, 199, 39, 38, 297, 298, 299, 300, 301, 302, 303, 304, 307, 308] (by decide +kernel) (by decide +kernel)) (goodIn_sub (fun _ h => List.mem_append_left _ (List.mem_append_right _ h)) (by decide +kernel))
set_option maxRecDepth 20000 in
theorem gL_law_L_areCosts : GoodIn wsL_law (va_wsS RL 78 yL_areCosts wsL_areCosts) := goodIn_app (goodIn_of _ (by decide +kernel)) ggL_law_L_areCosts
set_option maxRecDepth 20000 in
theorem ggL_law_L_isCut : GoodIn wsL_law wsL_isCut := goodIn_ca (goodIn_ca (goodIn_r _ [202, 203, 204, 205, 2, 206, 12, 118, 119, 120, 11, 121, 34, 207, 208, 209, 210, 25, 211, 212, 213, 214, 215, 64, 65, 26, 216, 217, 218, 219, 108, 109, 220, 221, 222, 223, 28, 224, 17, 225, 226, 227, 24, 228, 57, 58, 59, 132, 133, 134, 135, 136, 137, 138, 139, 33, 196, 197, 198, 15, 199, 39, 38, 229, 230, 231, 232, 55, 233, 234, 235, 236, 56, 54, 237, 238, 239, 240, 241, 242, 243, 244, 245, 246, 247, 248, 249, 250, 251, 252, 96, 97, 98, 99, 253, 254, 255, 256, 192, 193, 194, 195, 104, 105, 106, 107, 189, 190, 191, 257, 258, 259, 260, 261, 262, 263, 264, 265, 266, 267, 268, 269, 270, 271, 272, 273, 274, 275, 276, 277, 278, 279, 280, 281, 282, 283, 284, 84, 285, 286, 287, 288, 289, 290, 291, 292, 293, 294, 295, 296, 297, 298, 299, 300, 301, 302, 303, 304, 305, 306, 314, 315, 316, 317, 318, 319, 307, 308] (by decide +kernel) (by decide +kernel)) (goodIn_sub (fun _ h => List.mem_append_left _ (List.mem_append_left _ (List.mem_append_left _ (List.mem_append_right _ h)))) (by decide +kernel))) (goodIn_sub (fun _ h => List.mem_append_left _ (List.mem_append_right _ h)) (by decide +kernel))
set_option maxRecDepth 20000 in
theorem gL_law_L_isCut : GoodIn wsL_law (va_wsS RL 82 yL_isCut wsL_isCut) := goodIn_app (goodIn_of _ (by decide +kernel)) ggL_law_L_isCut
