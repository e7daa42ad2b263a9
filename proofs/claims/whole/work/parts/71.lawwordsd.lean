set_option maxRecDepth 20000 in
theorem ggL_law_X4_init : GoodIn wsL_law wsX4_init := goodIn_r _ [9, 10, 11, 12, 13, 14, 15, 16, 17, 18, 19, 20, 21, 22, 23, 24, 25, 26, 27, 28, 29, 30, 31, 32, 33, 34, 35, 36, 37, 38, 39, 40, 41, 42, 43, 44, 45, 46, 47, 48, 49, 50, 51, 52, 53, 54, 55, 56, 57, 58, 59, 60, 61, 62, 63, 64, 65, 66, 67, 68, 69, 70, 71, 72, 619, 620, 601, 602, 603, 604, 605, 621, 622, 623, 624, 625, 626, 627, 628, 629, 630, 631, 632, 633] (by decide +kernel) (by decide +kernel)
set_option maxRecDepth 20000 in
theorem gL_law_X4_init : GoodIn wsL_law (wsX4_init) := ggL_law_X4_init
set_option maxRecDepth 20000 in
theorem ggL_law_X5_init : GoodIn wsL_law wsX5_init := goodIn_r _ [75, 76, 11, 12, 34, 77, 78, 79, 80, 81, 82, 83, 84, 85, 86, 606, 607, 608, 609, 610, 611, 612, 613, 614, 615, 616, 617, 618] (by decide +kernel) (by decide +kernel)
set_option maxRecDepth 20000 in
theorem gL_law_X5_init : GoodIn wsL_law (wsX5_init) := ggL_law_X5_init
set_option maxRecDepth 20000 in
theorem ggL_law_L_make : GoodIn wsL_law wsL_make := goodIn_ca (goodIn_ca (goodIn_r _ [90, 91, 92, 93, 94, 95, 2, 96, 97, 98, 99, 100, 20, 16, 101, 102, 103, 104, 105, 106, 19, 107, 108, 109, 110, 111, 15, 112, 36, 113, 114, 115, 116, 11, 12, 117, 26, 27, 118, 119, 120, 121, 122, 123, 68, 69, 70, 34, 71, 72, 124, 125, 126, 127, 128, 129, 45, 130, 131, 132, 133, 134, 135, 136, 137, 138, 139, 140, 141, 44, 142, 143, 144, 145, 146, 147, 148, 149, 150, 151, 152, 153, 154, 155, 156, 157, 39, 158, 159, 160, 161, 162, 163, 164, 165, 166, 167, 168, 169, 170, 171, 172, 173, 174, 175, 176, 177, 178, 179, 180, 181, 182, 183, 184, 185, 186, 187, 188, 189, 190, 191, 192, 193, 194, 195, 196, 197, 198, 199, 200, 201, 35, 202, 203, 204, 205, 206, 207, 208, 209, 210, 211, 212, 213, 214, 215, 216, 217, 218, 219, 220, 221, 222, 223, 224, 225, 226, 227, 228, 229, 230, 231, 232, 233, 234, 235, 236, 237, 238, 239, 240, 241, 242, 243, 244, 245, 246, 247, 248, 249, 250, 251, 252, 253, 254, 255, 256, 257, 258, 259, 260, 601, 602, 603, 604, 605, 634, 635, 636, 637, 638, 639, 621, 622, 623, 619, 620, 632, 633] (by decide +kernel) (by decide +kernel)) (goodIn_sub (fun _ h => List.mem_append_left _ (List.mem_append_left _ (List.mem_append_right _ h))) (by decide +kernel))) (goodIn_sub (fun _ h => List.mem_append_left _ (List.mem_append_right _ h)) (by decide +kernel))
set_option maxRecDepth 20000 in
theorem gL_law_L_make : GoodIn wsL_law (va_wsS RL 70 yL_make wsL_make) := goodIn_app (goodIn_of _ (by decide +kernel)) ggL_law_L_make
set_option maxRecDepth 20000 in
theorem ggL_law_X5_make : GoodIn wsL_law wsX5_make := goodIn_r _ [264, 265, 79, 80, 84, 77, 266, 267, 5, 268, 269, 270, 271, 272, 78, 273, 274, 275, 276, 277, 278, 279, 280, 281, 282, 283, 284, 285, 286, 287, 288, 289, 606, 607, 608, 609, 610, 611, 612, 613, 614, 615, 616, 617, 618] (by decide +kernel) (by decide +kernel)
set_option maxRecDepth 20000 in
theorem gL_law_X5_make : GoodIn wsL_law (wsV RL 75 RX5 yX5_make wsX5_make) := goodIn_app (goodIn_of _ (by decide +kernel)) ggL_law_X5_make
set_option maxRecDepth 20000 in
theorem ggL_law_X5_thrown : GoodIn wsL_law wsX5_thrown := goodIn_r _ [293, 277, 606, 607, 608, 609, 610, 611, 612, 613, 614, 615, 616, 617, 618] (by decide +kernel) (by decide +kernel)
set_option maxRecDepth 20000 in
theorem gL_law_X5_thrown : GoodIn wsL_law (wsV RL 76 RX5 yX5_thrown wsX5_thrown) := goodIn_app (goodIn_of _ (by decide +kernel)) ggL_law_X5_thrown
set_option maxRecDepth 20000 in
theorem ggL_law_L_grow : GoodIn wsL_law wsL_grow := goodIn_ca (goodIn_ca (goodIn_r _ [296, 297, 92, 298, 299, 300, 2, 301, 99, 100, 16, 302, 303, 304, 305, 306, 307, 308, 309, 310, 311, 20, 210, 104, 105, 106, 19, 107, 108, 211, 212, 213, 214, 215, 216, 217, 218, 219, 220, 221, 222, 223, 224, 225, 226, 45, 227, 228, 229, 103, 230, 120, 109, 110, 111, 15, 112, 36, 191, 192, 193, 175, 176, 177, 178, 179, 180, 181, 182, 183, 184, 185, 27, 186, 72, 71, 187, 188, 189, 190, 194, 195, 196, 197, 123, 198, 199, 200, 201, 35, 202, 203, 204, 205, 206, 207, 208, 209, 231, 232, 233, 234, 235, 236, 237, 238, 239, 240, 241, 242, 243, 244, 245, 246, 247, 248, 249, 250, 251, 252, 253, 254, 255, 256, 257, 258, 259, 260, 634, 635, 636, 637, 638, 639, 632, 633, 601, 602, 603, 604, 605, 621, 622, 623, 619, 620] (by decide +kernel) (by decide +kernel)) (goodIn_sub (fun _ h => List.mem_append_left _ (List.mem_append_right _ h)) (by decide +kernel))) (goodIn_sub (fun _ h => List.mem_append_right _ h) (by decide +kernel))
set_option maxRecDepth 20000 in
theorem gL_law_L_grow : GoodIn wsL_law (va_wsS RL 80 yL_grow wsL_grow) := goodIn_app (goodIn_of _ (by decide +kernel)) ggL_law_L_grow
set_option maxRecDepth 20000 in
theorem ggL_law_X5_grow : GoodIn wsL_law wsX5_grow := goodIn_r _ [315, 80, 84, 77, 316, 317, 318, 5, 319, 265, 266, 267, 268, 320, 321, 322, 323, 81, 269, 270, 271, 272, 78, 273, 274, 275, 276, 277, 278, 279, 280, 281, 282, 283, 284, 285, 286, 287, 288, 289, 79, 606, 607, 608, 609, 610, 611, 612, 613, 614, 615, 616, 617, 618] (by decide +kernel) (by decide +kernel)
set_option maxRecDepth 20000 in
theorem gL_law_X5_grow : GoodIn wsL_law (wsV RL 83 RX5 yX5_grow wsX5_grow) := goodIn_app (goodIn_of _ (by decide +kernel)) ggL_law_X5_grow
set_option maxRecDepth 20000 in
theorem ggL_law_L_move : GoodIn wsL_law wsL_move := goodIn_ca (goodIn_ca (goodIn_r _ [326, 297, 92, 327, 328, 329, 2, 330, 99, 100, 16, 28, 302, 303, 304, 305, 306, 307, 308, 309, 310, 311, 20, 210, 104, 105, 106, 19, 107, 108, 211, 212, 213, 214, 215, 216, 217, 218, 219, 220, 221, 222, 223, 224, 225, 226, 45, 227, 228, 229, 103, 230, 120, 109, 110, 111, 15, 112, 36, 236, 237, 238, 27, 239, 72, 175, 176, 177, 178, 179, 180, 181, 182, 183, 184, 185, 186, 71, 260, 253, 254, 255, 202, 203, 204, 205, 256, 257, 258, 259, 35, 198, 199, 200, 201, 331, 332, 333, 334, 206, 207, 208, 209, 231, 232, 233, 234, 235, 240, 241, 242, 243, 244, 245, 246, 247, 248, 249, 250, 251, 252, 634, 635, 636, 637, 638, 639, 601, 602, 603, 604, 605, 632, 633, 621, 622, 623, 619, 620] (by decide +kernel) (by decide +kernel)) (goodIn_sub (fun _ h => List.mem_append_left _ (List.mem_append_right _ h)) (by decide +kernel))) (goodIn_sub (fun _ h => List.mem_append_right _ h) (by decide +kernel))
set_option maxRecDepth 20000 in
theorem gL_law_L_move : GoodIn wsL_law (va_wsS RL 84 yL_move wsL_move) := goodIn_app (goodIn_of _ (by decide +kernel)) ggL_law_L_move
set_option maxRecDepth 20000 in
theorem ggL_law_X5_move : GoodIn wsL_law wsX5_move := goodIn_r _ [338, 80, 84, 77, 78, 316, 317, 318, 5, 319, 265, 266, 267, 268, 320, 321, 322, 323, 81, 269, 270, 271, 272, 273, 274, 275, 276, 277, 278, 279, 280, 281, 606, 607, 608, 609, 610, 611, 612, 613, 614, 615, 616, 617, 618] (by decide +kernel) (by decide +kernel)
set_option maxRecDepth 20000 in
theorem gL_law_X5_move : GoodIn wsL_law (wsV RL 86 RX5 yX5_move wsX5_move) := goodIn_app (goodIn_of _ (by decide +kernel)) ggL_law_X5_move
set_option maxRecDepth 20000 in
theorem ggL_law_L_throwAway : GoodIn wsL_law wsL_throwAway := goodIn_ca (goodIn_ca (goodIn_r _ [341, 297, 92, 342, 343, 344, 2, 345, 16, 29, 302, 303, 304, 305, 99, 100, 306, 307, 308, 309, 310, 311, 20, 210, 104, 105, 106, 19, 107, 108, 211, 212, 213, 214, 215, 216, 217, 218, 219, 220, 221, 222, 223, 224, 225, 226, 45, 227, 228, 229, 103, 230, 120, 248, 249, 250, 15, 251, 252, 253, 254, 255, 202, 203, 204, 27, 205, 72, 71, 256, 257, 258, 259, 35, 331, 332, 333, 334, 36, 206, 207, 208, 209, 231, 232, 233, 234, 235, 236, 237, 238, 239, 240, 241, 242, 243, 183, 184, 185, 186, 244, 245, 246, 247, 260, 109, 110, 111, 112, 601, 602, 603, 604, 605, 634, 635, 636, 637, 638, 639, 621, 622, 623, 632, 633, 619, 620] (by decide +kernel) (by decide +kernel)) (goodIn_sub (fun _ h => List.mem_append_left _ (List.mem_append_right _ h)) (by decide +kernel))) (goodIn_sub (fun _ h => List.mem_append_right _ h) (by decide +kernel))
set_option maxRecDepth 20000 in
theorem gL_law_L_throwAway : GoodIn wsL_law (va_wsS RL 87 yL_throwAway wsL_throwAway) := goodIn_app (goodIn_of _ (by decide +kernel)) ggL_law_L_throwAway
set_option maxRecDepth 20000 in
theorem ggL_law_X5_throwAway : GoodIn wsL_law wsX5_throwAway := goodIn_r _ [349, 350, 83, 82, 84, 81, 78, 316, 317, 318, 5, 319, 265, 266, 267, 268, 320, 321, 322, 323, 273, 274, 275, 276, 277, 351, 352, 353, 354, 80, 77, 282, 283, 284, 285, 269, 270, 271, 272, 606, 607, 608, 609, 610, 611, 612, 613, 614, 615, 616, 617, 618] (by decide +kernel) (by decide +kernel)
set_option maxRecDepth 20000 in
theorem gL_law_X5_throwAway : GoodIn wsL_law (wsV RL 89 RX5 yX5_throwAway wsX5_throwAway) := goodIn_app (goodIn_of _ (by decide +kernel)) ggL_law_X5_throwAway
set_option maxRecDepth 20000 in
theorem ggL_law_X4_files : GoodIn wsL_law wsX4_files := goodIn_r _ [358, 20, 104, 105, 106, 19, 107, 108, 601, 602, 603, 604, 605, 621, 622, 623] (by decide +kernel) (by decide +kernel)
set_option maxRecDepth 20000 in
theorem gL_law_X4_files : GoodIn wsL_law (wsV RL 90 RX4 yX4_files wsX4_files) := goodIn_app (goodIn_of _ (by decide +kernel)) ggL_law_X4_files
set_option maxRecDepth 20000 in
theorem ggL_law_X5_files : GoodIn wsL_law wsX5_files := goodIn_r _ [362, 265, 363, 364, 365, 5, 366, 277, 606, 607, 608, 609, 610, 611, 612, 613, 614, 615, 616, 617, 618] (by decide +kernel) (by decide +kernel)
set_option maxRecDepth 20000 in
theorem gL_law_X5_files : GoodIn wsL_law (wsV RL 93 RX5 yX5_files wsX5_files) := goodIn_app (goodIn_of _ (by decide +kernel)) ggL_law_X5_files
