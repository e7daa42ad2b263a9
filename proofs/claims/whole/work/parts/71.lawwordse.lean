set_option maxRecDepth 20000 in
theorem ggL_law_X4_free : GoodIn wsL_law wsX4_free := goodIn_r _ [370, 16, 109, 110, 111, 15, 112, 36, 601, 602, 603, 604, 605, 619, 620] (by decide +kernel) (by decide +kernel)
set_option maxRecDepth 20000 in
theorem gL_law_X4_free : GoodIn wsL_law (wsV RL 94 RX4 yX4_free wsX4_free) := goodIn_app (goodIn_of _ (by decide +kernel)) ggL_law_X4_free
set_option maxRecDepth 20000 in
theorem ggL_law_X5_free : GoodIn wsL_law wsX5_free := goodIn_r _ [374, 269, 270, 271, 5, 272, 78, 363, 364, 365, 366, 277, 606, 607, 608, 609, 610, 611, 612, 613, 614, 615, 616, 617, 618] (by decide +kernel) (by decide +kernel)
set_option maxRecDepth 20000 in
theorem gL_law_X5_free : GoodIn wsL_law (wsV RL 97 RX5 yX5_free wsX5_free) := goodIn_app (goodIn_of _ (by decide +kernel)) ggL_law_X5_free
set_option maxRecDepth 20000 in
theorem ggL_law_L_number : GoodIn wsL_law wsL_number := goodIn_ca (goodIn_ca (goodIn_r _ [377, 297, 91, 378, 379, 380, 2, 381, 97, 98, 16, 382, 383, 384, 310, 311, 385, 257, 258, 15, 259, 35, 601, 602, 603, 604, 605, 619, 620] (by decide +kernel) (by decide +kernel)) (goodIn_sub (fun _ h => List.mem_append_left _ (List.mem_append_left _ (List.mem_append_right _ h))) (by decide +kernel))) (goodIn_sub (fun _ h => List.mem_append_right _ h) (by decide +kernel))
set_option maxRecDepth 20000 in
theorem gL_law_L_number : GoodIn wsL_law (va_wsS RL 98 yL_number wsL_number) := goodIn_app (goodIn_of _ (by decide +kernel)) ggL_law_L_number
set_option maxRecDepth 20000 in
theorem ggL_law_X5_number : GoodIn wsL_law wsX5_number := goodIn_r _ [389, 77, 390, 391, 5, 392, 266, 267, 268, 273, 274, 275, 276, 277, 606, 607, 608, 609, 610, 611, 612, 613, 614, 615, 616, 617, 618] (by decide +kernel) (by decide +kernel)
set_option maxRecDepth 20000 in
theorem gL_law_X5_number : GoodIn wsL_law (wsV RL 100 RX5 yX5_number wsX5_number) := goodIn_app (goodIn_of _ (by decide +kernel)) ggL_law_X5_number
set_option maxRecDepth 20000 in
theorem ggL_law_L_fileOf : GoodIn wsL_law wsL_fileOf := goodIn_ca (goodIn_r _ [395, 297, 396, 397, 398, 2, 399, 16, 382, 383, 384, 310, 311, 400, 401, 402, 15, 403, 36, 601, 602, 603, 604, 605, 619, 620] (by decide +kernel) (by decide +kernel)) (goodIn_sub (fun _ h => List.mem_append_right _ h) (by decide +kernel))
set_option maxRecDepth 20000 in
theorem gL_law_L_fileOf : GoodIn wsL_law (va_wsS RL 101 yL_fileOf wsL_fileOf) := goodIn_app (goodIn_of _ (by decide +kernel)) ggL_law_L_fileOf
set_option maxRecDepth 20000 in
theorem ggL_law_X5_fileOf : GoodIn wsL_law wsX5_fileOf := goodIn_r _ [407, 78, 390, 391, 5, 392, 266, 267, 268, 273, 274, 275, 276, 277, 606, 607, 608, 609, 610, 611, 612, 613, 614, 615, 616, 617, 618] (by decide +kernel) (by decide +kernel)
set_option maxRecDepth 20000 in
theorem gL_law_X5_fileOf : GoodIn wsL_law (wsV RL 103 RX5 yX5_fileOf wsX5_fileOf) := goodIn_app (goodIn_of _ (by decide +kernel)) ggL_law_X5_fileOf
set_option maxRecDepth 20000 in
theorem ggL_law_L_clusters : GoodIn wsL_law wsL_clusters := goodIn_ca (goodIn_r _ [410, 297, 411, 412, 413, 2, 414, 306, 307, 308, 309, 310, 311, 20, 210, 104, 105, 106, 19, 107, 108, 211, 212, 213, 214, 215, 216, 217, 218, 219, 220, 221, 222, 223, 224, 225, 226, 45, 634, 635, 636, 637, 638, 639, 632, 633, 601, 602, 603, 604, 605, 621, 622, 623] (by decide +kernel) (by decide +kernel)) (goodIn_sub (fun _ h => List.mem_append_right _ h) (by decide +kernel))
set_option maxRecDepth 20000 in
theorem gL_law_L_clusters : GoodIn wsL_law (va_wsS RL 104 yL_clusters wsL_clusters) := goodIn_app (goodIn_of _ (by decide +kernel)) ggL_law_L_clusters
set_option maxRecDepth 20000 in
theorem ggL_law_X5_clusters : GoodIn wsL_law wsX5_clusters := goodIn_r _ [418, 80, 316, 317, 318, 5, 319, 265, 266, 267, 268, 273, 274, 275, 276, 277, 606, 607, 608, 609, 610, 611, 612, 613, 614, 615, 616, 617, 618] (by decide +kernel) (by decide +kernel)
set_option maxRecDepth 20000 in
theorem gL_law_X5_clusters : GoodIn wsL_law (wsV RL 106 RX5 yX5_clusters wsX5_clusters) := goodIn_app (goodIn_of _ (by decide +kernel)) ggL_law_X5_clusters
set_option maxRecDepth 20000 in
theorem ggL_law_L_clusterAt : GoodIn wsL_law wsL_clusterAt := goodIn_ca (goodIn_ca (goodIn_ca (goodIn_r _ [421, 297, 91, 92, 422, 423, 424, 2, 425, 306, 307, 308, 309, 310, 311, 20, 210, 104, 105, 106, 19, 107, 108, 211, 212, 213, 214, 215, 216, 217, 218, 219, 220, 221, 222, 223, 224, 225, 226, 45, 426, 427, 428, 97, 98, 302, 303, 304, 305, 99, 100, 227, 228, 229, 103, 230, 120, 235, 203, 204, 27, 205, 72, 71, 634, 635, 636, 637, 638, 639, 601, 602, 603, 604, 605, 621, 622, 623, 632, 633] (by decide +kernel) (by decide +kernel)) (goodIn_sub (fun _ h => List.mem_append_right _ h) (by decide +kernel))) (goodIn_sub (fun _ h => List.mem_append_left _ (List.mem_append_left _ (List.mem_append_right _ h))) (by decide +kernel))) (goodIn_sub (fun _ h => List.mem_append_left _ (List.mem_append_right _ h)) (by decide +kernel))
set_option maxRecDepth 20000 in
theorem gL_law_L_clusterAt : GoodIn wsL_law (va_wsS RL 107 yL_clusterAt wsL_clusterAt) := goodIn_app (goodIn_of _ (by decide +kernel)) ggL_law_L_clusterAt
set_option maxRecDepth 20000 in
theorem ggL_law_X5_clusterAt : GoodIn wsL_law wsX5_clusterAt := goodIn_r _ [432, 80, 84, 316, 317, 318, 5, 319, 265, 266, 267, 268, 320, 321, 322, 323, 81, 273, 274, 275, 276, 277, 606, 607, 608, 609, 610, 611, 612, 613, 614, 615, 616, 617, 618] (by decide +kernel) (by decide +kernel)
set_option maxRecDepth 20000 in
theorem gL_law_X5_clusterAt : GoodIn wsL_law (wsV RL 109 RX5 yX5_clusterAt wsX5_clusterAt) := goodIn_app (goodIn_of _ (by decide +kernel)) ggL_law_X5_clusterAt
set_option maxRecDepth 20000 in
theorem ggL_law_L_checksum : GoodIn wsL_law wsL_checksum := goodIn_ca (goodIn_r _ [435, 297, 436, 437, 438, 2, 439, 16, 306, 307, 308, 309, 310, 311, 20, 210, 104, 105, 106, 19, 107, 108, 211, 212, 213, 214, 215, 216, 217, 218, 219, 220, 221, 222, 223, 224, 225, 226, 45, 227, 228, 229, 103, 230, 120, 248, 249, 250, 15, 251, 252, 253, 254, 255, 202, 203, 204, 27, 205, 72, 71, 256, 257, 258, 259, 35, 634, 635, 636, 637, 638, 639, 601, 602, 603, 604, 605, 621, 622, 623, 632, 633, 619, 620] (by decide +kernel) (by decide +kernel)) (goodIn_sub (fun _ h => List.mem_append_right _ h) (by decide +kernel))
set_option maxRecDepth 20000 in
theorem gL_law_L_checksum : GoodIn wsL_law (va_wsS RL 110 yL_checksum wsL_checksum) := goodIn_app (goodIn_of _ (by decide +kernel)) ggL_law_L_checksum
set_option maxRecDepth 20000 in
theorem ggL_law_X5_checksum : GoodIn wsL_law wsX5_checksum := goodIn_r _ [443, 83, 316, 317, 318, 5, 319, 265, 266, 267, 268, 273, 274, 275, 276, 277, 320, 321, 322, 323, 81, 351, 352, 353, 354, 80, 77, 282, 283, 284, 285, 84, 606, 607, 608, 609, 610, 611, 612, 613, 614, 615, 616, 617, 618] (by decide +kernel) (by decide +kernel)
set_option maxRecDepth 20000 in
theorem gL_law_X5_checksum : GoodIn wsL_law (wsV RL 112 RX5 yX5_checksum wsX5_checksum) := goodIn_app (goodIn_of _ (by decide +kernel)) ggL_law_X5_checksum
set_option maxRecDepth 20000 in
theorem ggL_law_L_claimed : GoodIn wsL_law wsL_claimed := goodIn_ca (goodIn_ca (goodIn_r _ [446, 297, 92, 447, 448, 449, 2, 450, 451, 452, 453, 454, 99, 100, 306, 307, 308, 309, 310, 311, 20, 210, 104, 105, 106, 19, 107, 108, 211, 212, 213, 214, 215, 216, 217, 218, 219, 220, 221, 222, 223, 224, 225, 226, 45, 227, 228, 229, 103, 230, 120, 634, 635, 636, 637, 638, 639, 632, 633, 601, 602, 603, 604, 605, 621, 622, 623] (by decide +kernel) (by decide +kernel)) (goodIn_sub (fun _ h => List.mem_append_left _ (List.mem_append_right _ h)) (by decide +kernel))) (goodIn_sub (fun _ h => List.mem_append_right _ h) (by decide +kernel))
set_option maxRecDepth 20000 in
theorem gL_law_L_claimed : GoodIn wsL_law (va_wsS RL 113 yL_claimed wsL_claimed) := goodIn_app (goodIn_of _ (by decide +kernel)) ggL_law_L_claimed
