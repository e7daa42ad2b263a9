set_option maxRecDepth 20000 in
theorem ggL_law_X5_claimed : GoodIn wsL_law wsX5_claimed := goodIn_r _ [458, 459, 460, 461, 5, 462, 316, 317, 318, 319, 265, 266, 267, 268, 320, 321, 322, 323, 81, 273, 274, 275, 276, 277, 463, 464, 465, 466, 82, 80, 78, 85, 606, 607, 608, 609, 610, 611, 612, 613, 614, 615, 616, 617, 618] (by decide +kernel) (by decide +kernel)
set_option maxRecDepth 20000 in
theorem gL_law_X5_claimed : GoodIn wsL_law (wsV RL 115 RX5 yX5_claimed wsX5_claimed) := goodIn_app (goodIn_of _ (by decide +kernel)) ggL_law_X5_claimed
set_option maxRecDepth 20000 in
theorem ggL_law_L_claimAt : GoodIn wsL_law wsL_claimAt := goodIn_ca (goodIn_ca (goodIn_ca (goodIn_r _ [469, 297, 91, 92, 470, 471, 472, 2, 473, 97, 98, 306, 307, 308, 309, 310, 311, 20, 210, 104, 105, 106, 19, 107, 108, 211, 212, 213, 214, 215, 216, 217, 218, 219, 220, 221, 222, 223, 224, 225, 226, 45, 451, 452, 453, 454, 99, 100, 227, 228, 229, 103, 230, 120, 235, 203, 204, 27, 205, 72, 71, 634, 635, 636, 637, 638, 639, 601, 602, 603, 604, 605, 621, 622, 623, 632, 633] (by decide +kernel) (by decide +kernel)) (goodIn_sub (fun _ h => List.mem_append_left _ (List.mem_append_left _ (List.mem_append_right _ h))) (by decide +kernel))) (goodIn_sub (fun _ h => List.mem_append_right _ h) (by decide +kernel))) (goodIn_sub (fun _ h => List.mem_append_left _ (List.mem_append_right _ h)) (by decide +kernel))
set_option maxRecDepth 20000 in
theorem gL_law_L_claimAt : GoodIn wsL_law (va_wsS RL 116 yL_claimAt wsL_claimAt) := goodIn_app (goodIn_of _ (by decide +kernel)) ggL_law_L_claimAt
set_option maxRecDepth 20000 in
theorem ggL_law_X5_claimAt : GoodIn wsL_law wsX5_claimAt := goodIn_r _ [477, 85, 266, 267, 5, 268, 478, 479, 480, 481, 316, 317, 318, 319, 265, 320, 321, 322, 323, 81, 273, 274, 275, 276, 277, 463, 464, 465, 466, 82, 80, 78, 606, 607, 608, 609, 610, 611, 612, 613, 614, 615, 616, 617, 618] (by decide +kernel) (by decide +kernel)
set_option maxRecDepth 20000 in
theorem gL_law_X5_claimAt : GoodIn wsL_law (wsV RL 118 RX5 yX5_claimAt wsX5_claimAt) := goodIn_app (goodIn_of _ (by decide +kernel)) ggL_law_X5_claimAt
set_option maxRecDepth 20000 in
theorem ggL_law_L_confidence : GoodIn wsL_law wsL_confidence := goodIn_ca (goodIn_ca (goodIn_r _ [484, 297, 92, 485, 486, 487, 2, 488, 451, 452, 453, 454, 99, 100, 306, 307, 308, 309, 310, 311, 20, 210, 104, 105, 106, 19, 107, 108, 211, 212, 213, 214, 215, 216, 217, 218, 219, 220, 221, 222, 223, 224, 225, 226, 45, 227, 228, 229, 103, 230, 120, 634, 635, 636, 637, 638, 639, 601, 602, 603, 604, 605, 621, 622, 623] (by decide +kernel) (by decide +kernel)) (goodIn_sub (fun _ h => List.mem_append_left _ (List.mem_append_right _ h)) (by decide +kernel))) (goodIn_sub (fun _ h => List.mem_append_right _ h) (by decide +kernel))
set_option maxRecDepth 20000 in
theorem gL_law_L_confidence : GoodIn wsL_law (va_wsS RL 119 yL_confidence wsL_confidence) := goodIn_app (goodIn_of _ (by decide +kernel)) ggL_law_L_confidence
set_option maxRecDepth 20000 in
theorem ggL_law_X5_confidence : GoodIn wsL_law wsX5_confidence := goodIn_r _ [492, 459, 460, 461, 5, 462, 316, 317, 318, 319, 265, 266, 267, 268, 320, 321, 322, 323, 81, 273, 274, 275, 276, 277, 493, 494, 495, 496, 77, 85, 80, 83, 463, 464, 465, 466, 82, 78, 606, 607, 608, 609, 610, 611, 612, 613, 614, 615, 616, 617, 618] (by decide +kernel) (by decide +kernel)
set_option maxRecDepth 20000 in
theorem gL_law_X5_confidence : GoodIn wsL_law (wsV RL 121 RX5 yX5_confidence wsX5_confidence) := goodIn_app (goodIn_of _ (by decide +kernel)) ggL_law_X5_confidence
set_option maxRecDepth 20000 in
theorem ggL_law_L_ownerOf : GoodIn wsL_law wsL_ownerOf := goodIn_ca (goodIn_r _ [499, 297, 500, 501, 502, 2, 503, 382, 383, 384, 310, 311, 504, 505, 506, 507, 20, 210, 104, 105, 106, 19, 107, 108, 211, 212, 213, 214, 215, 216, 217, 218, 219, 220, 221, 222, 223, 224, 225, 226, 45, 227, 228, 229, 103, 230, 120, 508, 509, 510, 27, 511, 72, 512, 203, 204, 205, 71, 601, 602, 603, 604, 605, 634, 635, 636, 637, 638, 639, 621, 622, 623, 632, 633] (by decide +kernel) (by decide +kernel)) (goodIn_sub (fun _ h => List.mem_append_right _ h) (by decide +kernel))
set_option maxRecDepth 20000 in
theorem gL_law_L_ownerOf : GoodIn wsL_law (va_wsS RL 122 yL_ownerOf wsL_ownerOf) := goodIn_app (goodIn_of _ (by decide +kernel)) ggL_law_L_ownerOf
set_option maxRecDepth 20000 in
theorem ggL_law_X5_ownerOf : GoodIn wsL_law wsX5_ownerOf := goodIn_r _ [516, 390, 391, 5, 392, 266, 267, 268, 273, 274, 275, 276, 277, 517, 518, 519, 520, 265, 85, 81, 320, 321, 322, 323, 493, 494, 495, 496, 77, 80, 83, 463, 464, 465, 466, 82, 78, 606, 607, 608, 609, 610, 611, 612, 613, 614, 615, 616, 617, 618] (by decide +kernel) (by decide +kernel)
set_option maxRecDepth 20000 in
theorem gL_law_X5_ownerOf : GoodIn wsL_law (wsV RL 124 RX5 yX5_ownerOf wsX5_ownerOf) := goodIn_app (goodIn_of _ (by decide +kernel)) ggL_law_X5_ownerOf
set_option maxRecDepth 20000 in
theorem ggL_law_L_owned : GoodIn wsL_law wsL_owned := goodIn_ca (goodIn_ca (goodIn_r _ [523, 297, 92, 524, 525, 526, 2, 527, 451, 452, 453, 454, 99, 100, 306, 307, 308, 309, 310, 311, 20, 210, 104, 105, 106, 19, 107, 108, 211, 212, 213, 214, 215, 216, 217, 218, 219, 220, 221, 222, 223, 224, 225, 226, 45, 227, 228, 229, 103, 230, 120, 235, 203, 204, 27, 205, 72, 71, 504, 505, 506, 507, 508, 509, 510, 511, 512, 634, 635, 636, 637, 638, 639, 632, 633, 601, 602, 603, 604, 605, 621, 622, 623] (by decide +kernel) (by decide +kernel)) (goodIn_sub (fun _ h => List.mem_append_left _ (List.mem_append_right _ h)) (by decide +kernel))) (goodIn_sub (fun _ h => List.mem_append_right _ h) (by decide +kernel))
set_option maxRecDepth 20000 in
theorem gL_law_L_owned : GoodIn wsL_law (va_wsS RL 125 yL_owned wsL_owned) := goodIn_app (goodIn_of _ (by decide +kernel)) ggL_law_L_owned
set_option maxRecDepth 20000 in
theorem ggL_law_X5_owned : GoodIn wsL_law wsX5_owned := goodIn_r _ [531, 459, 460, 461, 5, 462, 316, 317, 318, 319, 265, 266, 267, 268, 320, 321, 322, 323, 81, 273, 274, 275, 276, 277, 517, 518, 519, 520, 85, 493, 494, 495, 496, 77, 80, 83, 463, 464, 465, 466, 82, 78, 606, 607, 608, 609, 610, 611, 612, 613, 614, 615, 616, 617, 618] (by decide +kernel) (by decide +kernel)
set_option maxRecDepth 20000 in
theorem gL_law_X5_owned : GoodIn wsL_law (wsV RL 127 RX5 yX5_owned wsX5_owned) := goodIn_app (goodIn_of _ (by decide +kernel)) ggL_law_X5_owned
set_option maxRecDepth 20000 in
theorem ggL_law_X4_sure : GoodIn wsL_law wsX4_sure := goodIn_r _ [535, 20, 210, 104, 105, 106, 19, 107, 108, 211, 212, 213, 214, 215, 216, 217, 218, 219, 220, 221, 222, 223, 224, 225, 226, 45, 227, 228, 229, 103, 230, 120, 601, 602, 603, 604, 605, 634, 635, 636, 637, 638, 639, 621, 622, 623] (by decide +kernel) (by decide +kernel)
set_option maxRecDepth 20000 in
theorem gL_law_X4_sure : GoodIn wsL_law (wsV RL 128 RX4 yX4_sure wsX4_sure) := goodIn_app (goodIn_of _ (by decide +kernel)) ggL_law_X4_sure
set_option maxRecDepth 20000 in
theorem ggL_law_X5_sure : GoodIn wsL_law wsX5_sure := goodIn_r _ [539, 265, 320, 321, 322, 5, 323, 81, 493, 494, 495, 496, 77, 85, 80, 83, 463, 464, 465, 466, 82, 78, 363, 364, 365, 366, 277, 606, 607, 608, 609, 610, 611, 612, 613, 614, 615, 616, 617, 618] (by decide +kernel) (by decide +kernel)
set_option maxRecDepth 20000 in
theorem gL_law_X5_sure : GoodIn wsL_law (wsV RL 131 RX5 yX5_sure wsX5_sure) := goodIn_app (goodIn_of _ (by decide +kernel)) ggL_law_X5_sure
set_option maxRecDepth 20000 in
theorem ggL_law_L_hasJoin : GoodIn wsL_law wsL_hasJoin := goodIn_ca (goodIn_ca (goodIn_r _ [542, 297, 92, 543, 544, 545, 2, 546, 24, 16, 451, 452, 453, 454, 99, 100, 306, 307, 308, 309, 310, 311, 20, 210, 104, 105, 106, 19, 107, 108, 211, 212, 213, 214, 215, 216, 217, 218, 219, 220, 221, 222, 223, 224, 225, 226, 45, 227, 228, 229, 103, 230, 120, 547, 548, 549, 23, 550, 65, 66, 67, 551, 203, 204, 27, 205, 72, 71, 552, 241, 242, 15, 243, 36, 553, 554, 555, 556, 59, 60, 62, 63, 557, 257, 258, 259, 35, 558, 559, 560, 561, 64, 562, 563, 564, 565, 601, 602, 603, 604, 605, 621, 622, 623, 634, 635, 636, 637, 638, 639, 632, 633, 624, 625, 626, 627, 628, 629, 630, 631, 619, 620] (by decide +kernel) (by decide +kernel)) (goodIn_sub (fun _ h => List.mem_append_left _ (List.mem_append_right _ h)) (by decide +kernel))) (goodIn_sub (fun _ h => List.mem_append_right _ h) (by decide +kernel))
set_option maxRecDepth 20000 in
theorem gL_law_L_hasJoin : GoodIn wsL_law (va_wsS RL 132 yL_hasJoin wsL_hasJoin) := goodIn_app (goodIn_of _ (by decide +kernel)) ggL_law_L_hasJoin
set_option maxRecDepth 20000 in
theorem ggL_law_X5_hasJoin : GoodIn wsL_law wsX5_hasJoin := goodIn_r _ [569, 459, 460, 461, 5, 462, 316, 317, 318, 319, 265, 266, 267, 268, 320, 321, 322, 323, 81, 273, 274, 275, 276, 277, 570, 571, 572, 573, 80, 78, 82, 86, 574, 575, 576, 577, 83, 77, 578, 579, 580, 581, 582, 583, 584, 585, 606, 607, 608, 609, 610, 611, 612, 613, 614, 615, 616, 617, 618] (by decide +kernel) (by decide +kernel)
set_option maxRecDepth 20000 in
theorem gL_law_X5_hasJoin : GoodIn wsL_law (wsV RL 134 RX5 yX5_hasJoin wsX5_hasJoin) := goodIn_app (goodIn_of _ (by decide +kernel)) ggL_law_X5_hasJoin
set_option maxRecDepth 20000 in
theorem ggL_law_L_joinAt : GoodIn wsL_law wsL_joinAt := goodIn_ca (goodIn_ca (goodIn_ca (goodIn_r _ [588, 297, 91, 92, 589, 590, 591, 2, 592, 99, 100, 24, 16, 306, 307, 308, 309, 310, 311, 20, 210, 104, 105, 106, 19, 107, 108, 211, 212, 213, 214, 215, 216, 217, 218, 219, 220, 221, 222, 223, 224, 225, 226, 45, 426, 427, 428, 97, 98, 451, 452, 453, 454, 227, 228, 229, 103, 230, 120, 547, 548, 549, 23, 550, 65, 66, 67, 551, 203, 204, 27, 205, 72, 71, 552, 241, 242, 15, 243, 36, 553, 554, 555, 556, 59, 60, 62, 63, 557, 257, 258, 259, 35, 558, 559, 560, 561, 64, 562, 563, 564, 565, 593, 594, 595, 596, 601, 602, 603, 604, 605, 621, 622, 623, 634, 635, 636, 637, 638, 639, 632, 633, 624, 625, 626, 627, 628, 629, 630, 631, 619, 620] (by decide +kernel) (by decide +kernel)) (goodIn_sub (fun _ h => List.mem_append_left _ (List.mem_append_right _ h)) (by decide +kernel))) (goodIn_sub (fun _ h => List.mem_append_right _ h) (by decide +kernel))) (goodIn_sub (fun _ h => List.mem_append_left _ (List.mem_append_left _ (List.mem_append_right _ h))) (by decide +kernel))
set_option maxRecDepth 20000 in
theorem gL_law_L_joinAt : GoodIn wsL_law (va_wsS RL 135 yL_joinAt wsL_joinAt) := goodIn_app (goodIn_of _ (by decide +kernel)) ggL_law_L_joinAt
set_option maxRecDepth 20000 in
theorem ggL_law_X5_joinAt : GoodIn wsL_law wsX5_joinAt := goodIn_r _ [600, 80, 86, 316, 317, 318, 5, 319, 265, 266, 267, 268, 320, 321, 322, 323, 81, 570, 571, 572, 573, 78, 82, 574, 575, 576, 577, 83, 77, 578, 579, 580, 581, 582, 583, 584, 585, 273, 274, 275, 276, 277, 606, 607, 608, 609, 610, 611, 612, 613, 614, 615, 616, 617, 618] (by decide +kernel) (by decide +kernel)
set_option maxRecDepth 20000 in
theorem gL_law_X5_joinAt : GoodIn wsL_law (wsV RL 137 RX5 yX5_joinAt wsX5_joinAt) := goodIn_app (goodIn_of _ (by decide +kernel)) ggL_law_X5_joinAt
