set_option maxRecDepth 20000 in
theorem ggL_law_X6_init : GoodIn wsL_law wsX6_init := goodIn_r _ [10, 11, 12, 13, 14, 15, 16, 17, 18, 19, 20, 21, 22, 23, 24, 25, 26, 27, 28, 29, 30, 31, 32, 33, 34, 35, 6, 36, 37, 38, 39, 40, 41, 42, 653, 654, 655, 631, 632, 633, 634, 635, 636, 637, 656, 657, 658] (by decide +kernel) (by decide +kernel)
set_option maxRecDepth 20000 in
theorem gL_law_X6_init : GoodIn wsL_law (wsX6_init) := ggL_law_X6_init
set_option maxRecDepth 20000 in
theorem ggL_law_X7_init : GoodIn wsL_law wsX7_init := goodIn_r _ [45, 46, 12, 13, 6, 47, 48, 30, 49, 50, 51, 52, 53, 54, 55, 56, 638, 639, 640, 641, 642, 643, 644, 645, 646, 647, 648, 649, 650, 651, 652] (by decide +kernel) (by decide +kernel)
set_option maxRecDepth 20000 in
theorem gL_law_X7_init : GoodIn wsL_law (wsX7_init) := ggL_law_X7_init
set_option maxRecDepth 20000 in
theorem ggL_law_L_put : GoodIn wsL_law wsL_put := goodIn_ca (goodIn_ca (goodIn_r _ [60, 61, 62, 63, 64, 65, 2, 66, 67, 68, 17, 26, 69, 70, 71, 72, 73, 74, 75, 76, 77, 78, 79, 80, 81, 82, 83, 84, 85, 86, 87, 88, 89, 90, 91, 92, 93, 94, 95, 96, 97, 98, 99, 100, 101, 102, 103, 104, 105, 106, 107, 108, 109, 110, 111, 112, 113, 114, 115, 16, 116, 117, 31, 32, 118, 119, 120, 121, 122, 123, 124, 125, 126, 127, 128, 129, 130, 131, 132, 631, 632, 633, 634, 635, 636, 637, 653, 654, 655] (by decide +kernel) (by decide +kernel)) (goodIn_sub (fun _ h => List.mem_append_left _ (List.mem_append_left _ (List.mem_append_right _ h))) (by decide +kernel))) (goodIn_sub (fun _ h => List.mem_append_left _ (List.mem_append_right _ h)) (by decide +kernel))
set_option maxRecDepth 20000 in
theorem gL_law_L_put : GoodIn wsL_law (va_wsS RL 71 yL_put wsL_put) := goodIn_app (goodIn_of _ (by decide +kernel)) ggL_law_L_put
set_option maxRecDepth 20000 in
theorem ggL_law_X7_put : GoodIn wsL_law wsX7_put := goodIn_r _ [136, 137, 138, 47, 48, 49, 139, 50, 140, 141, 5, 142, 143, 144, 145, 146, 147, 148, 149, 150, 151, 152, 153, 154, 155, 156, 157, 158, 159, 160, 161, 162, 638, 639, 640, 641, 642, 643, 644, 645, 646, 647, 648, 649, 650, 651, 652] (by decide +kernel) (by decide +kernel)
set_option maxRecDepth 20000 in
theorem gL_law_X7_put : GoodIn wsL_law (wsV RL 76 RX7 yX7_put wsX7_put) := goodIn_app (goodIn_of _ (by decide +kernel)) ggL_law_X7_put
set_option maxRecDepth 20000 in
theorem ggL_law_X7_thrown : GoodIn wsL_law wsX7_thrown := goodIn_r _ [166, 153, 638, 639, 640, 641, 642, 643, 644, 645, 646, 647, 648, 649, 650, 651, 652] (by decide +kernel) (by decide +kernel)
set_option maxRecDepth 20000 in
theorem gL_law_X7_thrown : GoodIn wsL_law (wsV RL 77 RX7 yX7_thrown wsX7_thrown) := goodIn_app (goodIn_of _ (by decide +kernel)) ggL_law_X7_thrown
set_option maxRecDepth 20000 in
theorem ggL_law_L_turn : GoodIn wsL_law wsL_turn := goodIn_ca (goodIn_ca (goodIn_ca (goodIn_r _ [169, 61, 170, 62, 171, 172, 173, 2, 174, 79, 80, 26, 69, 17, 175, 176, 177, 73, 74, 178, 179, 180, 181, 182, 183, 184, 185, 186, 187, 188, 189, 67, 68, 190, 191, 192, 193, 194, 195, 196, 197, 198, 199, 200, 201, 202, 203, 204, 205, 206, 207, 208, 209, 210, 211, 212, 213, 214, 215, 216, 217, 218, 16, 219, 220, 221, 222, 223, 117, 32, 224, 225, 226, 227, 228, 229, 230, 231, 122, 123, 124, 125, 126, 127, 128, 129, 130, 131, 132, 89, 90, 91, 92, 93, 94, 631, 632, 633, 634, 635, 636, 637, 653, 654, 655] (by decide +kernel) (by decide +kernel)) (goodIn_sub (fun _ h => List.mem_append_left _ (List.mem_append_right _ h)) (by decide +kernel))) (goodIn_sub (fun _ h => List.mem_append_left _ (List.mem_append_left _ (List.mem_append_right _ h))) (by decide +kernel))) (goodIn_sub (fun _ h => List.mem_append_right _ h) (by decide +kernel))
set_option maxRecDepth 20000 in
theorem gL_law_L_turn : GoodIn wsL_law (va_wsS RL 80 yL_turn wsL_turn) := goodIn_app (goodIn_of _ (by decide +kernel)) ggL_law_L_turn
set_option maxRecDepth 20000 in
theorem ggL_law_X7_turn : GoodIn wsL_law wsX7_turn := goodIn_r _ [235, 137, 138, 50, 139, 48, 47, 143, 144, 5, 145, 149, 150, 151, 152, 153, 236, 237, 238, 239, 240, 241, 242, 243, 146, 147, 148, 244, 245, 246, 247, 154, 155, 156, 157, 158, 159, 160, 161, 162, 638, 639, 640, 641, 642, 643, 644, 645, 646, 647, 648, 649, 650, 651, 652] (by decide +kernel) (by decide +kernel)
set_option maxRecDepth 20000 in
theorem gL_law_X7_turn : GoodIn wsL_law (wsV RL 83 RX7 yX7_turn wsX7_turn) := goodIn_app (goodIn_of _ (by decide +kernel)) ggL_law_X7_turn
set_option maxRecDepth 20000 in
theorem ggL_law_L_undo : GoodIn wsL_law wsL_undo := goodIn_ca (goodIn_r _ [250, 62, 251, 252, 253, 2, 254, 79, 80, 17, 94, 67, 68, 69, 26, 255, 256, 257, 16, 258, 117, 259, 260, 261, 262, 263, 264, 265, 266, 32, 224, 225, 226, 227, 267, 268, 269, 192, 270, 196, 197, 198, 199, 200, 201, 184, 185, 186, 187, 188, 189, 190, 191, 193, 194, 195, 202, 203, 204, 205, 206, 207, 208, 209, 210, 211, 212, 213, 214, 215, 271, 272, 273, 274, 220, 221, 222, 223, 275, 276, 277, 278, 31, 95, 96, 97, 279, 280, 281, 282, 631, 632, 633, 634, 635, 636, 637, 653, 654, 655] (by decide +kernel) (by decide +kernel)) (goodIn_sub (fun _ h => List.mem_append_left _ (List.mem_append_right _ h)) (by decide +kernel))
set_option maxRecDepth 20000 in
theorem gL_law_L_undo : GoodIn wsL_law (va_wsS RL 84 yL_undo wsL_undo) := goodIn_app (goodIn_of _ (by decide +kernel)) ggL_law_L_undo
set_option maxRecDepth 20000 in
theorem ggL_law_X7_undo : GoodIn wsL_law wsX7_undo := goodIn_r _ [286, 139, 137, 50, 138, 48, 47, 49, 243, 149, 150, 151, 5, 152, 153, 236, 237, 238, 239, 240, 241, 242, 146, 147, 148, 638, 639, 640, 641, 642, 643, 644, 645, 646, 647, 648, 649, 650, 651, 652] (by decide +kernel) (by decide +kernel)
set_option maxRecDepth 20000 in
theorem gL_law_X7_undo : GoodIn wsL_law (wsV RL 87 RX7 yX7_undo wsX7_undo) := goodIn_app (goodIn_of _ (by decide +kernel)) ggL_law_X7_undo
set_option maxRecDepth 20000 in
theorem ggL_law_L_lay : GoodIn wsL_law wsL_lay := goodIn_ca (goodIn_r _ [289, 170, 290, 291, 292, 2, 293, 67, 68, 17, 69, 26, 294, 295, 296, 181, 182, 297, 106, 107, 108, 109, 110, 111, 112, 298, 299, 300, 16, 301, 117, 228, 229, 230, 231, 122, 123, 124, 125, 126, 127, 128, 129, 130, 131, 132, 89, 90, 91, 92, 93, 94, 631, 632, 633, 634, 635, 636, 637, 653, 654, 655] (by decide +kernel) (by decide +kernel)) (goodIn_sub (fun _ h => List.mem_append_right _ h) (by decide +kernel))
set_option maxRecDepth 20000 in
theorem gL_law_L_lay : GoodIn wsL_law (va_wsS RL 90 yL_lay wsL_lay) := goodIn_app (goodIn_of _ (by decide +kernel)) ggL_law_L_lay
set_option maxRecDepth 20000 in
theorem ggL_law_X7_lay : GoodIn wsL_law wsX7_lay := goodIn_r _ [305, 306, 47, 48, 138, 139, 137, 307, 308, 5, 309, 146, 147, 148, 143, 144, 145, 149, 150, 151, 152, 153, 244, 245, 246, 247, 154, 155, 156, 157, 158, 159, 160, 161, 162, 638, 639, 640, 641, 642, 643, 644, 645, 646, 647, 648, 649, 650, 651, 652] (by decide +kernel) (by decide +kernel)
set_option maxRecDepth 20000 in
theorem gL_law_X7_lay : GoodIn wsL_law (wsV RL 93 RX7 yX7_lay wsX7_lay) := goodIn_app (goodIn_of _ (by decide +kernel)) ggL_law_X7_lay
set_option maxRecDepth 20000 in
theorem ggL_law_X6_result : GoodIn wsL_law wsX6_result := goodIn_r _ [313, 26, 631, 632, 633, 634, 635, 636, 637] (by decide +kernel) (by decide +kernel)
set_option maxRecDepth 20000 in
theorem gL_law_X6_result : GoodIn wsL_law (wsV RL 94 RX6 yX6_result wsX6_result) := goodIn_app (goodIn_of _ (by decide +kernel)) ggL_law_X6_result
set_option maxRecDepth 20000 in
theorem ggL_law_X7_result : GoodIn wsL_law wsX7_result := goodIn_r _ [317, 153, 137, 638, 639, 640, 641, 642, 643, 644, 645, 646, 647, 648, 649, 650, 651, 652] (by decide +kernel) (by decide +kernel)
set_option maxRecDepth 20000 in
theorem gL_law_X7_result : GoodIn wsL_law (wsV RL 97 RX7 yX7_result wsX7_result) := goodIn_app (goodIn_of _ (by decide +kernel)) ggL_law_X7_result
set_option maxRecDepth 20000 in
theorem ggL_law_X6_mover : GoodIn wsL_law wsX6_mover := goodIn_r _ [321, 26, 98, 99, 100, 2, 101, 69, 102, 103, 104, 105, 67, 68, 106, 107, 108, 109, 110, 111, 112, 631, 632, 633, 634, 635, 636, 637] (by decide +kernel) (by decide +kernel)
set_option maxRecDepth 20000 in
theorem gL_law_X6_mover : GoodIn wsL_law (wsV RL 98 RX6 yX6_mover wsX6_mover) := goodIn_app (goodIn_of _ (by decide +kernel)) ggL_law_X6_mover
set_option maxRecDepth 20000 in
theorem ggL_law_X7_mover : GoodIn wsL_law wsX7_mover := goodIn_r _ [325, 153, 137, 48, 638, 639, 640, 641, 642, 643, 644, 645, 646, 647, 648, 649, 650, 651, 652] (by decide +kernel) (by decide +kernel)
set_option maxRecDepth 20000 in
theorem gL_law_X7_mover : GoodIn wsL_law (wsV RL 101 RX7 yX7_mover wsX7_mover) := goodIn_app (goodIn_of _ (by decide +kernel)) ggL_law_X7_mover
set_option maxRecDepth 20000 in
theorem ggL_law_X6_mustTurn : GoodIn wsL_law wsX6_mustTurn := goodIn_r _ [329, 69, 631, 632, 633, 634, 635, 636, 637] (by decide +kernel) (by decide +kernel)
set_option maxRecDepth 20000 in
theorem gL_law_X6_mustTurn : GoodIn wsL_law (wsV RL 102 RX6 yX6_mustTurn wsX6_mustTurn) := goodIn_app (goodIn_of _ (by decide +kernel)) ggL_law_X6_mustTurn
set_option maxRecDepth 20000 in
theorem ggL_law_X7_mustTurn : GoodIn wsL_law wsX7_mustTurn := goodIn_r _ [333, 153, 138, 638, 639, 640, 641, 642, 643, 644, 645, 646, 647, 648, 649, 650, 651, 652] (by decide +kernel) (by decide +kernel)
set_option maxRecDepth 20000 in
theorem gL_law_X7_mustTurn : GoodIn wsL_law (wsV RL 105 RX7 yX7_mustTurn wsX7_mustTurn) := goodIn_app (goodIn_of _ (by decide +kernel)) ggL_law_X7_mustTurn
set_option maxRecDepth 20000 in
theorem ggL_law_L_at : GoodIn wsL_law wsL_at := goodIn_ca (goodIn_r _ [336, 61, 337, 338, 339, 2, 340, 67, 68, 70, 71, 72, 73, 74, 95, 96, 97, 631, 632, 633, 634, 635, 636, 637] (by decide +kernel) (by decide +kernel)) (goodIn_sub (fun _ h => List.mem_append_left _ (List.mem_append_left _ (List.mem_append_right _ h))) (by decide +kernel))
set_option maxRecDepth 20000 in
theorem gL_law_L_at : GoodIn wsL_law (va_wsS RL 106 yL_at wsL_at) := goodIn_app (goodIn_of _ (by decide +kernel)) ggL_law_L_at
set_option maxRecDepth 20000 in
theorem ggL_law_X7_at : GoodIn wsL_law wsX7_at := goodIn_r _ [344, 47, 140, 141, 5, 142, 143, 144, 145, 149, 150, 151, 152, 153, 146, 147, 148, 638, 639, 640, 641, 642, 643, 644, 645, 646, 647, 648, 649, 650, 651, 652] (by decide +kernel) (by decide +kernel)
set_option maxRecDepth 20000 in
theorem gL_law_X7_at : GoodIn wsL_law (wsV RL 108 RX7 yX7_at wsX7_at) := goodIn_app (goodIn_of _ (by decide +kernel)) ggL_law_X7_at
set_option maxRecDepth 20000 in
theorem ggL_law_X6_marbles : GoodIn wsL_law wsX6_marbles := goodIn_r _ [105, 67, 68, 106, 107, 108, 109, 110, 111, 112, 631, 632, 633, 634, 635, 636, 637] (by decide +kernel) (by decide +kernel)
set_option maxRecDepth 20000 in
theorem gL_law_X6_marbles : GoodIn wsL_law (wsV RL 109 RX6 yX6_marbles wsX6_marbles) := goodIn_app (goodIn_of _ (by decide +kernel)) ggL_law_X6_marbles
set_option maxRecDepth 20000 in
theorem ggL_law_X7_marbles : GoodIn wsL_law wsX7_marbles := goodIn_r _ [349, 153, 47, 307, 308, 5, 309, 146, 147, 148, 638, 639, 640, 641, 642, 643, 644, 645, 646, 647, 648, 649, 650, 651, 652] (by decide +kernel) (by decide +kernel)
set_option maxRecDepth 20000 in
theorem gL_law_X7_marbles : GoodIn wsL_law (wsV RL 112 RX7 yX7_marbles wsX7_marbles) := goodIn_app (goodIn_of _ (by decide +kernel)) ggL_law_X7_marbles
set_option maxRecDepth 20000 in
theorem ggL_law_X6_share : GoodIn wsL_law wsX6_share := goodIn_r _ [353, 354, 102, 103, 104, 2, 105, 67, 68, 106, 107, 108, 109, 110, 111, 112, 631, 632, 633, 634, 635, 636, 637] (by decide +kernel) (by decide +kernel)
set_option maxRecDepth 20000 in
theorem gL_law_X6_share : GoodIn wsL_law (wsV RL 113 RX6 yX6_share wsX6_share) := goodIn_app (goodIn_of _ (by decide +kernel)) ggL_law_X6_share
set_option maxRecDepth 20000 in
theorem ggL_law_X7_share : GoodIn wsL_law wsX7_share := goodIn_r _ [358, 153, 47, 359, 307, 308, 5, 309, 146, 147, 148, 638, 639, 640, 641, 642, 643, 644, 645, 646, 647, 648, 649, 650, 651, 652] (by decide +kernel) (by decide +kernel)
set_option maxRecDepth 20000 in
theorem gL_law_X7_share : GoodIn wsL_law (wsV RL 117 RX7 yX7_share wsX7_share) := goodIn_app (goodIn_of _ (by decide +kernel)) ggL_law_X7_share
set_option maxRecDepth 20000 in
theorem ggL_law_X6_moves : GoodIn wsL_law wsX6_moves := goodIn_r _ [363, 17, 255, 256, 257, 16, 258, 117, 631, 632, 633, 634, 635, 636, 637, 653, 654, 655] (by decide +kernel) (by decide +kernel)
set_option maxRecDepth 20000 in
theorem gL_law_X6_moves : GoodIn wsL_law (wsV RL 118 RX6 yX6_moves wsX6_moves) := goodIn_app (goodIn_of _ (by decide +kernel)) ggL_law_X6_moves
set_option maxRecDepth 20000 in
theorem ggL_law_X7_moves : GoodIn wsL_law wsX7_moves := goodIn_r _ [367, 153, 139, 638, 639, 640, 641, 642, 643, 644, 645, 646, 647, 648, 649, 650, 651, 652] (by decide +kernel) (by decide +kernel)
set_option maxRecDepth 20000 in
theorem gL_law_X7_moves : GoodIn wsL_law (wsV RL 121 RX7 yX7_moves wsX7_moves) := goodIn_app (goodIn_of _ (by decide +kernel)) ggL_law_X7_moves
set_option maxRecDepth 20000 in
theorem ggL_law_L_textLength : GoodIn wsL_law wsL_textLength := goodIn_ca (goodIn_r _ [370, 61, 371, 372, 373, 2, 374, 375, 376, 377, 378, 73, 74, 17, 255, 256, 257, 16, 258, 117, 379, 380, 381, 382, 259, 260, 261, 262, 263, 264, 265, 266, 32, 224, 225, 226, 227, 631, 632, 633, 634, 635, 636, 637, 653, 654, 655] (by decide +kernel) (by decide +kernel)) (goodIn_sub (fun _ h => List.mem_append_left _ (List.mem_append_left _ (List.mem_append_right _ h))) (by decide +kernel))
set_option maxRecDepth 20000 in
theorem gL_law_L_textLength : GoodIn wsL_law (va_wsS RL 122 yL_textLength wsL_textLength) := goodIn_app (goodIn_of _ (by decide +kernel)) ggL_law_L_textLength
set_option maxRecDepth 20000 in
theorem ggL_law_X7_textLength : GoodIn wsL_law wsX7_textLength := goodIn_r _ [386, 139, 143, 144, 5, 145, 149, 150, 151, 152, 153, 387, 388, 389, 390, 50, 638, 639, 640, 641, 642, 643, 644, 645, 646, 647, 648, 649, 650, 651, 652] (by decide +kernel) (by decide +kernel)
set_option maxRecDepth 20000 in
theorem gL_law_X7_textLength : GoodIn wsL_law (wsV RL 124 RX7 yX7_textLength wsX7_textLength) := goodIn_app (goodIn_of _ (by decide +kernel)) ggL_law_X7_textLength
set_option maxRecDepth 20000 in
theorem ggL_law_L_textAt : GoodIn wsL_law wsL_textAt := goodIn_ca (goodIn_r _ [393, 61, 394, 395, 396, 2, 397, 73, 74, 17, 375, 376, 377, 378, 255, 256, 257, 16, 258, 117, 379, 380, 381, 382, 259, 260, 261, 262, 263, 264, 265, 266, 32, 224, 225, 226, 227, 275, 276, 277, 278, 31, 267, 398, 197, 192, 198, 399, 200, 201, 631, 632, 633, 634, 635, 636, 637, 653, 654, 655] (by decide +kernel) (by decide +kernel)) (goodIn_sub (fun _ h => List.mem_append_left _ (List.mem_append_left _ (List.mem_append_right _ h))) (by decide +kernel))
set_option maxRecDepth 20000 in
theorem gL_law_L_textAt : GoodIn wsL_law (va_wsS RL 125 yL_textAt wsL_textAt) := goodIn_app (goodIn_of _ (by decide +kernel)) ggL_law_L_textAt
set_option maxRecDepth 20000 in
theorem ggL_law_X7_textAt : GoodIn wsL_law wsX7_textAt := goodIn_r _ [403, 139, 49, 50, 143, 144, 5, 145, 387, 388, 389, 390, 149, 150, 151, 152, 153, 638, 639, 640, 641, 642, 643, 644, 645, 646, 647, 648, 649, 650, 651, 652] (by decide +kernel) (by decide +kernel)
set_option maxRecDepth 20000 in
theorem gL_law_X7_textAt : GoodIn wsL_law (wsV RL 127 RX7 yX7_textAt wsX7_textAt) := goodIn_app (goodIn_of _ (by decide +kernel)) ggL_law_X7_textAt
set_option maxRecDepth 20000 in
theorem ggL_law_L_lines : GoodIn wsL_law wsL_lines := goodIn_ca (goodIn_r _ [406, 61, 407, 408, 409, 2, 410, 411, 412, 413, 73, 74, 118, 119, 120, 121, 67, 68, 414, 415, 124, 416, 126, 127, 128, 129, 130, 131, 132, 417, 107, 108, 109, 110, 111, 112, 631, 632, 633, 634, 635, 636, 637] (by decide +kernel) (by decide +kernel)) (goodIn_sub (fun _ h => List.mem_append_left _ (List.mem_append_left _ (List.mem_append_right _ h))) (by decide +kernel))
set_option maxRecDepth 20000 in
theorem gL_law_L_lines : GoodIn wsL_law (va_wsS RL 128 yL_lines wsL_lines) := goodIn_app (goodIn_of _ (by decide +kernel)) ggL_law_L_lines
set_option maxRecDepth 20000 in
theorem ggL_law_X7_lines : GoodIn wsL_law wsX7_lines := goodIn_r _ [421, 47, 422, 423, 5, 424, 143, 144, 145, 149, 150, 151, 152, 153, 157, 158, 159, 160, 161, 162, 146, 147, 148, 638, 639, 640, 641, 642, 643, 644, 645, 646, 647, 648, 649, 650, 651, 652] (by decide +kernel) (by decide +kernel)
set_option maxRecDepth 20000 in
theorem gL_law_X7_lines : GoodIn wsL_law (wsV RL 130 RX7 yX7_lines wsX7_lines) := goodIn_app (goodIn_of _ (by decide +kernel)) ggL_law_X7_lines
set_option maxRecDepth 20000 in
theorem ggL_law_L_fours : GoodIn wsL_law wsL_fours := goodIn_ca (goodIn_r _ [427, 61, 428, 429, 430, 2, 431, 411, 412, 413, 73, 74, 118, 119, 120, 121, 67, 68, 89, 90, 91, 92, 93, 94, 432, 433, 124, 434, 126, 127, 128, 129, 435, 436, 437, 438, 417, 107, 108, 109, 110, 111, 112, 631, 632, 633, 634, 635, 636, 637] (by decide +kernel) (by decide +kernel)) (goodIn_sub (fun _ h => List.mem_append_left _ (List.mem_append_left _ (List.mem_append_right _ h))) (by decide +kernel))
set_option maxRecDepth 20000 in
theorem gL_law_L_fours : GoodIn wsL_law (va_wsS RL 131 yL_fours wsL_fours) := goodIn_app (goodIn_of _ (by decide +kernel)) ggL_law_L_fours
set_option maxRecDepth 20000 in
theorem ggL_law_X7_fours : GoodIn wsL_law wsX7_fours := goodIn_r _ [442, 47, 422, 423, 5, 424, 143, 144, 145, 149, 150, 151, 152, 153, 157, 158, 159, 160, 161, 162, 146, 147, 148, 638, 639, 640, 641, 642, 643, 644, 645, 646, 647, 648, 649, 650, 651, 652] (by decide +kernel) (by decide +kernel)
set_option maxRecDepth 20000 in
theorem gL_law_X7_fours : GoodIn wsL_law (wsV RL 133 RX7 yX7_fours wsX7_fours) := goodIn_app (goodIn_of _ (by decide +kernel)) ggL_law_X7_fours
set_option maxRecDepth 20000 in
theorem ggL_law_L_foursBehind : GoodIn wsL_law wsL_foursBehind := goodIn_ca (goodIn_ca (goodIn_r _ [445, 61, 170, 446, 447, 448, 2, 449, 411, 412, 413, 73, 74, 175, 176, 177, 178, 179, 180, 181, 182, 183, 184, 185, 118, 119, 120, 121, 67, 68, 190, 191, 192, 193, 194, 195, 196, 197, 198, 199, 200, 201, 202, 203, 204, 205, 206, 207, 208, 209, 210, 211, 212, 213, 214, 215, 89, 90, 91, 92, 93, 94, 432, 433, 124, 434, 126, 127, 128, 129, 435, 436, 437, 438, 417, 107, 108, 109, 110, 111, 112, 631, 632, 633, 634, 635, 636, 637] (by decide +kernel) (by decide +kernel)) (goodIn_sub (fun _ h => List.mem_append_left _ (List.mem_append_left _ (List.mem_append_right _ h))) (by decide +kernel))) (goodIn_sub (fun _ h => List.mem_append_right _ h) (by decide +kernel))
set_option maxRecDepth 20000 in
theorem gL_law_L_foursBehind : GoodIn wsL_law (va_wsS RL 134 yL_foursBehind wsL_foursBehind) := goodIn_app (goodIn_of _ (by decide +kernel)) ggL_law_L_foursBehind
set_option maxRecDepth 20000 in
theorem ggL_law_X7_foursBehind : GoodIn wsL_law wsX7_foursBehind := goodIn_r _ [453, 47, 422, 423, 5, 424, 143, 144, 145, 149, 150, 151, 152, 153, 240, 241, 242, 243, 146, 147, 148, 157, 158, 159, 160, 161, 162, 638, 639, 640, 641, 642, 643, 644, 645, 646, 647, 648, 649, 650, 651, 652] (by decide +kernel) (by decide +kernel)
set_option maxRecDepth 20000 in
theorem gL_law_X7_foursBehind : GoodIn wsL_law (wsV RL 137 RX7 yX7_foursBehind wsX7_foursBehind) := goodIn_app (goodIn_of _ (by decide +kernel)) ggL_law_X7_foursBehind
set_option maxRecDepth 20000 in
theorem ggL_law_X6_form : GoodIn wsL_law wsX6_form := goodIn_r _ [457, 67, 68, 458, 459, 460, 461, 462, 463, 464, 465, 466, 467, 468, 469, 470, 631, 632, 633, 634, 635, 636, 637] (by decide +kernel) (by decide +kernel)
set_option maxRecDepth 20000 in
theorem gL_law_X6_form : GoodIn wsL_law (wsV RL 138 RX6 yX6_form wsX6_form) := goodIn_app (goodIn_of _ (by decide +kernel)) ggL_law_X6_form
set_option maxRecDepth 20000 in
theorem ggL_law_X7_form : GoodIn wsL_law wsX7_form := goodIn_r _ [474, 153, 475, 476, 477, 5, 478, 479, 47, 480, 146, 147, 148, 638, 639, 640, 641, 642, 643, 644, 645, 646, 647, 648, 649, 650, 651, 652] (by decide +kernel) (by decide +kernel)
set_option maxRecDepth 20000 in
theorem gL_law_X7_form : GoodIn wsL_law (wsV RL 142 RX7 yX7_form wsX7_form) := goodIn_app (goodIn_of _ (by decide +kernel)) ggL_law_X7_form
set_option maxRecDepth 20000 in
theorem ggL_law_X6_symmetries : GoodIn wsL_law wsX6_symmetries := goodIn_r _ [484, 67, 68, 485, 486, 460, 487, 466, 467, 468, 469, 470, 631, 632, 633, 634, 635, 636, 637] (by decide +kernel) (by decide +kernel)
set_option maxRecDepth 20000 in
theorem gL_law_X6_symmetries : GoodIn wsL_law (wsV RL 143 RX6 yX6_symmetries wsX6_symmetries) := goodIn_app (goodIn_of _ (by decide +kernel)) ggL_law_X6_symmetries
set_option maxRecDepth 20000 in
theorem ggL_law_X7_symmetries : GoodIn wsL_law wsX7_symmetries := goodIn_r _ [491, 153, 475, 476, 477, 5, 478, 479, 47, 480, 146, 147, 148, 638, 639, 640, 641, 642, 643, 644, 645, 646, 647, 648, 649, 650, 651, 652] (by decide +kernel) (by decide +kernel)
set_option maxRecDepth 20000 in
theorem gL_law_X7_symmetries : GoodIn wsL_law (wsV RL 146 RX7 yX7_symmetries wsX7_symmetries) := goodIn_app (goodIn_of _ (by decide +kernel)) ggL_law_X7_symmetries
set_option maxRecDepth 20000 in
theorem ggL_law_L_winningCells : GoodIn wsL_law wsL_winningCells := goodIn_ca (goodIn_r _ [494, 62, 495, 496, 497, 2, 498, 75, 76, 77, 78, 79, 80, 26, 69, 98, 99, 100, 101, 102, 103, 104, 105, 67, 68, 106, 107, 108, 109, 110, 111, 112, 118, 119, 120, 121, 85, 86, 87, 88, 89, 90, 91, 92, 93, 94, 95, 96, 97, 122, 123, 124, 125, 126, 127, 128, 129, 130, 131, 132, 631, 632, 633, 634, 635, 636, 637] (by decide +kernel) (by decide +kernel)) (goodIn_sub (fun _ h => List.mem_append_left _ (List.mem_append_right _ h)) (by decide +kernel))
set_option maxRecDepth 20000 in
theorem gL_law_L_winningCells : GoodIn wsL_law (va_wsS RL 147 yL_winningCells wsL_winningCells) := goodIn_app (goodIn_of _ (by decide +kernel)) ggL_law_L_winningCells
set_option maxRecDepth 20000 in
theorem ggL_law_X7_winningCells : GoodIn wsL_law wsX7_winningCells := goodIn_r _ [502, 137, 138, 47, 149, 150, 151, 5, 152, 153, 146, 147, 148, 503, 504, 505, 506, 48, 154, 155, 156, 157, 158, 159, 160, 161, 162, 638, 639, 640, 641, 642, 643, 644, 645, 646, 647, 648, 649, 650, 651, 652] (by decide +kernel) (by decide +kernel)
set_option maxRecDepth 20000 in
theorem gL_law_X7_winningCells : GoodIn wsL_law (wsV RL 149 RX7 yX7_winningCells wsX7_winningCells) := goodIn_app (goodIn_of _ (by decide +kernel)) ggL_law_X7_winningCells
set_option maxRecDepth 20000 in
theorem ggL_law_L_winningTurns : GoodIn wsL_law wsL_winningTurns := goodIn_ca (goodIn_ca (goodIn_r _ [509, 61, 62, 510, 511, 512, 2, 513, 70, 71, 72, 73, 74, 75, 76, 77, 78, 79, 80, 26, 69, 81, 82, 83, 84, 85, 86, 87, 88, 89, 90, 91, 92, 93, 67, 68, 94, 95, 96, 97, 98, 99, 100, 101, 102, 103, 104, 105, 106, 107, 108, 109, 110, 111, 112, 118, 119, 120, 121, 122, 123, 124, 125, 126, 127, 128, 129, 130, 131, 132, 514, 515, 516, 190, 191, 192, 193, 194, 195, 196, 197, 198, 199, 200, 201, 202, 203, 204, 205, 206, 207, 208, 209, 210, 211, 212, 213, 214, 215, 631, 632, 633, 634, 635, 636, 637] (by decide +kernel) (by decide +kernel)) (goodIn_sub (fun _ h => List.mem_append_left _ (List.mem_append_left _ (List.mem_append_right _ h))) (by decide +kernel))) (goodIn_sub (fun _ h => List.mem_append_left _ (List.mem_append_right _ h)) (by decide +kernel))
set_option maxRecDepth 20000 in
theorem gL_law_L_winningTurns : GoodIn wsL_law (va_wsS RL 150 yL_winningTurns wsL_winningTurns) := goodIn_app (goodIn_of _ (by decide +kernel)) ggL_law_L_winningTurns
set_option maxRecDepth 20000 in
theorem ggL_law_X7_winningTurns : GoodIn wsL_law wsX7_winningTurns := goodIn_r _ [520, 137, 138, 47, 51, 48, 140, 141, 5, 142, 143, 144, 145, 146, 147, 148, 149, 150, 151, 152, 153, 503, 504, 505, 506, 154, 155, 156, 157, 158, 159, 160, 161, 162, 240, 241, 242, 243, 244, 245, 246, 247, 638, 639, 640, 641, 642, 643, 644, 645, 646, 647, 648, 649, 650, 651, 652] (by decide +kernel) (by decide +kernel)
set_option maxRecDepth 20000 in
theorem gL_law_X7_winningTurns : GoodIn wsL_law (wsV RL 152 RX7 yX7_winningTurns wsX7_winningTurns) := goodIn_app (goodIn_of _ (by decide +kernel)) ggL_law_X7_winningTurns
set_option maxRecDepth 20000 in
theorem ggL_law_L_value : GoodIn wsL_law wsL_value := goodIn_ca (goodIn_r _ [523, 62, 524, 525, 526, 2, 527, 24, 528, 529, 530, 531, 79, 80, 26, 89, 90, 91, 92, 93, 67, 68, 94, 106, 107, 108, 109, 110, 111, 112, 532, 533, 534, 535, 69, 98, 99, 100, 101, 102, 103, 104, 105, 118, 119, 120, 121, 514, 515, 516, 536, 20, 537, 538, 539, 540, 464, 541, 542, 543, 544, 545, 96, 97, 546, 123, 124, 125, 126, 127, 128, 129, 130, 131, 132, 547, 548, 549, 191, 192, 193, 194, 195, 196, 197, 198, 199, 200, 201, 202, 203, 204, 205, 206, 207, 208, 209, 210, 211, 212, 213, 214, 215, 550, 551, 552, 553, 42, 554, 555, 556, 557, 558, 459, 460, 461, 462, 463, 465, 466, 467, 468, 469, 470, 559, 560, 561, 23, 562, 36, 563, 564, 565, 566, 567, 568, 569, 570, 37, 571, 572, 573, 574, 631, 632, 633, 634, 635, 636, 637, 656, 657, 658] (by decide +kernel) (by decide +kernel)) (goodIn_sub (fun _ h => List.mem_append_left _ (List.mem_append_right _ h)) (by decide +kernel))
set_option maxRecDepth 20000 in
theorem gL_law_L_value : GoodIn wsL_law (va_wsS RL 153 yL_value wsL_value) := goodIn_app (goodIn_of _ (by decide +kernel)) ggL_law_L_value
set_option maxRecDepth 20000 in
theorem ggL_law_X7_value : GoodIn wsL_law wsX7_value := goodIn_r _ [578, 579, 580, 581, 5, 582, 583, 584, 585, 586, 137, 47, 307, 308, 309, 146, 147, 148, 149, 150, 151, 152, 153, 587, 588, 589, 590, 48, 138, 55, 56, 54, 591, 592, 593, 594, 52, 51, 53, 595, 596, 597, 598, 154, 155, 156, 157, 158, 159, 160, 161, 162, 240, 241, 242, 243, 244, 245, 246, 247, 599, 600, 601, 602, 603, 638, 639, 640, 641, 642, 643, 644, 645, 646, 647, 648, 649, 650, 651, 652] (by decide +kernel) (by decide +kernel)
set_option maxRecDepth 20000 in
theorem gL_law_X7_value : GoodIn wsL_law (wsV RL 155 RX7 yX7_value wsX7_value) := goodIn_app (goodIn_of _ (by decide +kernel)) ggL_law_X7_value
set_option maxRecDepth 20000 in
theorem ggL_law_L_valueOnBoards : GoodIn wsL_law wsL_valueOnBoards := goodIn_ca (goodIn_r _ [606, 62, 607, 608, 609, 2, 610, 25, 528, 529, 530, 531, 79, 80, 26, 89, 90, 91, 92, 93, 67, 68, 94, 106, 107, 108, 109, 110, 111, 112, 532, 533, 534, 535, 69, 98, 99, 100, 101, 102, 103, 104, 105, 118, 119, 120, 121, 514, 515, 516, 536, 20, 537, 538, 539, 540, 464, 541, 542, 543, 544, 545, 96, 97, 546, 123, 124, 125, 126, 127, 128, 129, 130, 131, 132, 547, 548, 549, 191, 192, 193, 194, 195, 196, 197, 198, 199, 200, 201, 202, 203, 204, 205, 206, 207, 208, 209, 210, 211, 212, 213, 214, 215, 550, 551, 552, 553, 42, 554, 555, 556, 557, 558, 459, 460, 461, 462, 463, 465, 466, 467, 468, 469, 470, 559, 560, 561, 23, 562, 36, 563, 564, 565, 566, 567, 568, 569, 570, 37, 571, 572, 573, 574, 631, 632, 633, 634, 635, 636, 637, 656, 657, 658] (by decide +kernel) (by decide +kernel)) (goodIn_sub (fun _ h => List.mem_append_left _ (List.mem_append_right _ h)) (by decide +kernel))
set_option maxRecDepth 20000 in
theorem gL_law_L_valueOnBoards : GoodIn wsL_law (va_wsS RL 156 yL_valueOnBoards wsL_valueOnBoards) := goodIn_app (goodIn_of _ (by decide +kernel)) ggL_law_L_valueOnBoards
set_option maxRecDepth 20000 in
theorem ggL_law_X7_valueOnBoards : GoodIn wsL_law wsX7_valueOnBoards := goodIn_r _ [582, 583, 584, 585, 5, 586, 137, 47, 307, 308, 309, 146, 147, 148, 149, 150, 151, 152, 153, 587, 588, 589, 590, 48, 138, 55, 56, 54, 591, 592, 593, 594, 52, 51, 53, 595, 596, 597, 598, 154, 155, 156, 157, 158, 159, 160, 161, 162, 240, 241, 242, 243, 244, 245, 246, 247, 599, 600, 601, 602, 603, 638, 639, 640, 641, 642, 643, 644, 645, 646, 647, 648, 649, 650, 651, 652] (by decide +kernel) (by decide +kernel)
set_option maxRecDepth 20000 in
theorem gL_law_X7_valueOnBoards : GoodIn wsL_law (wsV RL 158 RX7 yX7_valueOnBoards wsX7_valueOnBoards) := goodIn_app (goodIn_of _ (by decide +kernel)) ggL_law_X7_valueOnBoards
set_option maxRecDepth 20000 in
theorem ggL_law_L_bestMove : GoodIn wsL_law wsL_bestMove := goodIn_ca (goodIn_r _ [614, 62, 615, 616, 617, 2, 618, 69, 24, 528, 529, 530, 531, 79, 80, 26, 89, 90, 91, 92, 93, 67, 68, 94, 106, 107, 108, 109, 110, 111, 112, 98, 99, 100, 101, 102, 103, 104, 105, 118, 119, 120, 121, 514, 515, 516, 619, 620, 621, 20, 622, 542, 543, 544, 548, 549, 191, 192, 193, 194, 195, 196, 197, 198, 199, 200, 201, 202, 203, 204, 205, 206, 207, 208, 209, 210, 211, 212, 213, 214, 215, 546, 123, 124, 125, 126, 127, 128, 129, 130, 131, 132, 550, 551, 552, 545, 539, 540, 464, 541, 96, 97, 547, 536, 537, 553, 42, 554, 555, 556, 557, 558, 459, 460, 461, 462, 463, 465, 466, 467, 468, 469, 470, 559, 560, 561, 23, 562, 36, 563, 564, 565, 566, 567, 568, 569, 570, 37, 571, 572, 573, 574, 538, 623, 624, 625, 626, 631, 632, 633, 634, 635, 636, 637, 656, 657, 658] (by decide +kernel) (by decide +kernel)) (goodIn_sub (fun _ h => List.mem_append_left _ (List.mem_append_right _ h)) (by decide +kernel))
set_option maxRecDepth 20000 in
theorem gL_law_L_bestMove : GoodIn wsL_law (va_wsS RL 159 yL_bestMove wsL_bestMove) := goodIn_app (goodIn_of _ (by decide +kernel)) ggL_law_L_bestMove
set_option maxRecDepth 20000 in
theorem ggL_law_X7_bestMove : GoodIn wsL_law wsX7_bestMove := goodIn_r _ [630, 603, 583, 584, 585, 5, 586, 137, 47, 307, 308, 309, 146, 147, 148, 149, 150, 151, 152, 153, 587, 588, 589, 590, 48, 138, 55, 56, 54, 591, 592, 593, 594, 52, 51, 53, 595, 596, 597, 598, 154, 155, 156, 157, 158, 159, 160, 161, 162, 240, 241, 242, 243, 244, 245, 246, 247, 599, 600, 601, 602, 638, 639, 640, 641, 642, 643, 644, 645, 646, 647, 648, 649, 650, 651, 652] (by decide +kernel) (by decide +kernel)
set_option maxRecDepth 20000 in
theorem gL_law_X7_bestMove : GoodIn wsL_law (wsV RL 161 RX7 yX7_bestMove wsX7_bestMove) := goodIn_app (goodIn_of _ (by decide +kernel)) ggL_law_X7_bestMove
