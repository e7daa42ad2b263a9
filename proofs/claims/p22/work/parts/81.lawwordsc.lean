/-- a word ahead of a list -/
theorem goodIn_c1 {big a : List Cond} {w : Cond} (h : w ∈ big) (hg : goodWord w = true) (ha : GoodIn big a) : GoodIn big (w :: a) := fun v hv => (List.mem_cons.mp hv).elim (fun e => e ▸ ⟨h, good_of_word hg⟩) (ha v)
set_option maxRecDepth 20000 in
theorem ggL_law_X4_init : GoodIn wsL_law wsX4_init := goodIn_r _ [6, 7, 8, 9, 10, 11, 12, 13, 14, 15, 16, 17, 18, 19, 20, 21, 22, 23, 24, 25, 26, 27, 28, 29, 30, 3, 31, 32, 33, 34, 35, 36, 37, 38, 39, 40, 41, 42, 43, 44, 45, 46, 47, 48, 49, 50, 51, 52, 53, 54, 55, 56, 57, 58, 59, 60, 61, 62, 63, 64, 65, 66, 67, 68, 454, 455, 449, 450, 451, 452, 453, 456, 457, 458, 459, 460, 461, 462, 463, 464, 465, 466, 467, 468] (by decide +kernel) (by decide +kernel)
set_option maxRecDepth 20000 in
theorem gL_law_X4_init : GoodIn wsL_law (wsX4_init) := ggL_law_X4_init
set_option maxRecDepth 20000 in
theorem ggL_law_X4_files : GoodIn wsL_law wsX4_files := goodIn_r _ [72, 17, 73, 74, 75, 16, 76, 77, 449, 450, 451, 452, 453, 456, 457, 458] (by decide +kernel) (by decide +kernel)
set_option maxRecDepth 20000 in
theorem gL_law_X4_files : GoodIn wsL_law (wsV RL 113 RX4 yX4_files wsX4_files) := goodIn_app (goodIn_of _ (by decide +kernel)) ggL_law_X4_files
set_option maxRecDepth 20000 in
theorem ggL_law_X4_free : GoodIn wsL_law wsX4_free := goodIn_r _ [81, 13, 82, 83, 84, 12, 85, 32, 449, 450, 451, 452, 453, 454, 455] (by decide +kernel) (by decide +kernel)
set_option maxRecDepth 20000 in
theorem gL_law_X4_free : GoodIn wsL_law (wsV RL 106 RX4 yX4_free wsX4_free) := goodIn_app (goodIn_of _ (by decide +kernel)) ggL_law_X4_free
set_option maxRecDepth 20000 in
theorem ggL_law_X4_sure : GoodIn wsL_law wsX4_sure := goodIn_r _ [89, 17, 90, 73, 74, 75, 16, 76, 77, 91, 92, 93, 94, 95, 96, 97, 98, 99, 100, 101, 102, 103, 104, 105, 106, 41, 107, 108, 109, 110, 111, 112, 449, 450, 451, 452, 453, 469, 470, 471, 472, 473, 474, 456, 457, 458] (by decide +kernel) (by decide +kernel)
set_option maxRecDepth 20000 in
theorem gL_law_X4_sure : GoodIn wsL_law (wsV RL 110 RX4 yX4_sure wsX4_sure) := goodIn_app (goodIn_of _ (by decide +kernel)) ggL_law_X4_sure
set_option maxRecDepth 20000 in
theorem ggL_law_L_number : GoodIn wsL_law wsL_number := goodIn_ca (goodIn_ca (goodIn_r _ [116, 117, 118, 119, 120, 121, 122, 123, 2, 124, 125, 126, 13, 127, 128, 129, 130, 131, 132, 133, 134, 12, 135, 31, 449, 450, 451, 452, 453, 454, 455] (by decide +kernel) (by decide +kernel)) (goodIn_sub (fun _ h => List.mem_append_left _ (List.mem_append_left _ (List.mem_append_right _ h))) (by decide +kernel))) (goodIn_sub (fun _ h => List.mem_append_left _ (List.mem_append_right _ h)) (by decide +kernel))
set_option maxRecDepth 20000 in
theorem gL_law_L_number : GoodIn wsL_law (va_wsS RL 80 yL_number wsL_number) := goodIn_app (goodIn_of _ (by decide +kernel)) ggL_law_L_number
set_option maxRecDepth 20000 in
theorem ggL_law_L_fileOf : GoodIn wsL_law wsL_fileOf := goodIn_ca (goodIn_r _ [138, 117, 119, 139, 140, 141, 2, 142, 13, 127, 128, 129, 130, 131, 143, 144, 145, 12, 146, 32, 449, 450, 451, 452, 453, 454, 455] (by decide +kernel) (by decide +kernel)) (goodIn_sub (fun _ h => List.mem_append_left _ (List.mem_append_right _ h)) (by decide +kernel))
set_option maxRecDepth 20000 in
theorem gL_law_L_fileOf : GoodIn wsL_law (va_wsS RL 82 yL_fileOf wsL_fileOf) := goodIn_app (goodIn_of _ (by decide +kernel)) ggL_law_L_fileOf
set_option maxRecDepth 20000 in
theorem ggL_law_L_ownerOf : GoodIn wsL_law wsL_ownerOf := goodIn_ca (goodIn_r _ [149, 117, 119, 150, 151, 152, 2, 153, 127, 128, 129, 130, 131, 154, 155, 156, 157, 17, 90, 73, 74, 75, 16, 76, 77, 91, 92, 93, 94, 95, 96, 97, 98, 99, 100, 101, 102, 103, 104, 105, 106, 41, 107, 108, 109, 110, 111, 112, 158, 159, 160, 24, 161, 68, 162, 163, 164, 165, 67, 449, 450, 451, 452, 453, 469, 470, 471, 472, 473, 474, 456, 457, 458, 467, 468] (by decide +kernel) (by decide +kernel)) (goodIn_sub (fun _ h => List.mem_append_left _ (List.mem_append_right _ h)) (by decide +kernel))
set_option maxRecDepth 20000 in
theorem gL_law_L_ownerOf : GoodIn wsL_law (va_wsS RL 84 yL_ownerOf wsL_ownerOf) := goodIn_app (goodIn_of _ (by decide +kernel)) ggL_law_L_ownerOf
set_option maxRecDepth 20000 in
theorem ggL_law_L_at : GoodIn wsL_law wsL_at := goodIn_r _ [168, 169, 170] (by decide +kernel) (by decide +kernel)
set_option maxRecDepth 20000 in
theorem gL_law_L_at : GoodIn wsL_law (va_wsS RL 122 yL_at wsL_at) := goodIn_app (goodIn_of _ (by decide +kernel)) ggL_law_L_at
