theorem dJ15_checkIndex_7cf53_1 : decode cJ15_checkIndex_7cf53 1 = .ok (.iload_n 1, 1) := by decide +kernel
theorem dJ15_checkIndex_7cf53_2 : decode cJ15_checkIndex_7cf53 2 = .ok (.aconst_null, 1) := by decide +kernel
theorem dJ15_checkIndex_7cf53_3 : decode cJ15_checkIndex_7cf53 3 = .ok (.invokestatic 105, 3) := by decide +kernel
theorem dJ15_checkIndex_7cf53_6 : decode cJ15_checkIndex_7cf53 6 = .ok (.ireturn, 1) := by decide +kernel
set_option maxRecDepth 20000 in
theorem ggJ8_newLength_cabcc_J8_hugeLength_7cf53 : GoodIn wsJ8_newLength_cabcc wsJ8_hugeLength_7cf53 := goodIn_r _ [9, 5] (by decide +kernel) (by decide +kernel)
set_option maxRecDepth 20000 in
theorem gJ8_newLength_cabcc_J8_hugeLength_7cf53 : GoodIn wsJ8_newLength_cabcc (va_wsS RJ8 201 yJ8_hugeLength_7cf53 wsJ8_hugeLength_7cf53) := goodIn_app (goodIn_of _ (by decide +kernel)) ggJ8_newLength_cabcc_J8_hugeLength_7cf53
theorem dJ8_newLength_cabcc_0 : decode cJ8_newLength_cabcc 0 = .ok (.iload_n 0, 1) := by decide +kernel
theorem dJ8_newLength_cabcc_1 : decode cJ8_newLength_cabcc 1 = .ok (.iload_n 1, 1) := by decide +kernel
theorem dJ8_newLength_cabcc_2 : decode cJ8_newLength_cabcc 2 = .ok (.iload_n 2, 1) := by decide +kernel
theorem dJ8_newLength_cabcc_3 : decode cJ8_newLength_cabcc 3 = .ok (.invokestatic 194, 3) := by decide +kernel
theorem dJ8_newLength_cabcc_6 : decode cJ8_newLength_cabcc 6 = .ok (.iadd, 1) := by decide +kernel
theorem dJ8_newLength_cabcc_7 : decode cJ8_newLength_cabcc 7 = .ok (.istore_n 3, 1) := by decide +kernel
theorem dJ8_newLength_cabcc_8 : decode cJ8_newLength_cabcc 8 = .ok (.iconst 0, 1) := by decide +kernel
theorem dJ8_newLength_cabcc_9 : decode cJ8_newLength_cabcc 9 = .ok (.iload_n 3, 1) := by decide +kernel
theorem dJ8_newLength_cabcc_10 : decode cJ8_newLength_cabcc 10 = .ok (.if_icmp .ge 11, 3) := by decide +kernel
theorem dJ8_newLength_cabcc_13 : decode cJ8_newLength_cabcc 13 = .ok (.iload_n 3, 1) := by decide +kernel
theorem dJ8_newLength_cabcc_14 : decode cJ8_newLength_cabcc 14 = .ok (.ldc 200, 2) := by decide +kernel
theorem dJ8_newLength_cabcc_16 : decode cJ8_newLength_cabcc 16 = .ok (.if_icmp .gt 5, 3) := by decide +kernel
theorem dJ8_newLength_cabcc_19 : decode cJ8_newLength_cabcc 19 = .ok (.iload_n 3, 1) := by decide +kernel
theorem dJ8_newLength_cabcc_20 : decode cJ8_newLength_cabcc 20 = .ok (.ireturn, 1) := by decide +kernel
theorem dJ8_newLength_cabcc_21 : decode cJ8_newLength_cabcc 21 = .ok (.iload_n 0, 1) := by decide +kernel
theorem dJ8_newLength_cabcc_22 : decode cJ8_newLength_cabcc 22 = .ok (.iload_n 1, 1) := by decide +kernel
theorem dJ8_newLength_cabcc_23 : decode cJ8_newLength_cabcc 23 = .ok (.invokestatic 201, 3) := by decide +kernel
theorem dJ8_newLength_cabcc_26 : decode cJ8_newLength_cabcc 26 = .ok (.ireturn, 1) := by decide +kernel
theorem dJ8_hugeLength_7cf53_0 : decode cJ8_hugeLength_7cf53 0 = .ok (.iload_n 0, 1) := by decide +kernel
theorem dJ8_hugeLength_7cf53_1 : decode cJ8_hugeLength_7cf53 1 = .ok (.iload_n 1, 1) := by decide +kernel
theorem dJ8_hugeLength_7cf53_2 : decode cJ8_hugeLength_7cf53 2 = .ok (.iadd, 1) := by decide +kernel
theorem dJ8_hugeLength_7cf53_3 : decode cJ8_hugeLength_7cf53 3 = .ok (.istore_n 2, 1) := by decide +kernel
theorem dJ8_hugeLength_7cf53_4 : decode cJ8_hugeLength_7cf53 4 = .ok (.iload_n 2, 1) := by decide +kernel
theorem dJ8_hugeLength_7cf53_5 : decode cJ8_hugeLength_7cf53 5 = .ok (.ifCond .ge 44, 3) := by decide +kernel
theorem dJ8_hugeLength_7cf53_8 : decode cJ8_hugeLength_7cf53 8 = .ok (.new 204, 3) := by decide +kernel
theorem dJ8_hugeLength_7cf53_11 : decode cJ8_hugeLength_7cf53 11 = .ok (.dup, 1) := by decide +kernel
theorem dJ8_hugeLength_7cf53_12 : decode cJ8_hugeLength_7cf53 12 = .ok (.new 89, 3) := by decide +kernel
theorem dJ8_hugeLength_7cf53_15 : decode cJ8_hugeLength_7cf53 15 = .ok (.dup, 1) := by decide +kernel
theorem dJ8_hugeLength_7cf53_16 : decode cJ8_hugeLength_7cf53 16 = .ok (.invokespecial 91, 3) := by decide +kernel
theorem dJ8_hugeLength_7cf53_19 : decode cJ8_hugeLength_7cf53 19 = .ok (.ldc 206, 2) := by decide +kernel
theorem dJ8_hugeLength_7cf53_21 : decode cJ8_hugeLength_7cf53 21 = .ok (.invokevirtual 94, 3) := by decide +kernel
theorem dJ8_hugeLength_7cf53_24 : decode cJ8_hugeLength_7cf53 24 = .ok (.iload_n 0, 1) := by decide +kernel
theorem dJ8_hugeLength_7cf53_25 : decode cJ8_hugeLength_7cf53 25 = .ok (.invokevirtual 98, 3) := by decide +kernel
theorem dJ8_hugeLength_7cf53_28 : decode cJ8_hugeLength_7cf53 28 = .ok (.ldc 208, 2) := by decide +kernel
theorem dJ8_hugeLength_7cf53_30 : decode cJ8_hugeLength_7cf53 30 = .ok (.invokevirtual 94, 3) := by decide +kernel
theorem dJ8_hugeLength_7cf53_33 : decode cJ8_hugeLength_7cf53 33 = .ok (.iload_n 1, 1) := by decide +kernel
theorem dJ8_hugeLength_7cf53_34 : decode cJ8_hugeLength_7cf53 34 = .ok (.invokevirtual 98, 3) := by decide +kernel
theorem dJ8_hugeLength_7cf53_37 : decode cJ8_hugeLength_7cf53 37 = .ok (.ldc 210, 2) := by decide +kernel
theorem dJ8_hugeLength_7cf53_39 : decode cJ8_hugeLength_7cf53 39 = .ok (.invokevirtual 94, 3) := by decide +kernel
theorem dJ8_hugeLength_7cf53_42 : decode cJ8_hugeLength_7cf53 42 = .ok (.invokevirtual 101, 3) := by decide +kernel
theorem dJ8_hugeLength_7cf53_45 : decode cJ8_hugeLength_7cf53 45 = .ok (.invokespecial 212, 3) := by decide +kernel
theorem dJ8_hugeLength_7cf53_48 : decode cJ8_hugeLength_7cf53 48 = .ok (.athrow, 1) := by decide +kernel
theorem dJ8_hugeLength_7cf53_49 : decode cJ8_hugeLength_7cf53 49 = .ok (.iload_n 2, 1) := by decide +kernel
theorem dJ8_hugeLength_7cf53_50 : decode cJ8_hugeLength_7cf53 50 = .ok (.ldc 200, 2) := by decide +kernel
theorem dJ8_hugeLength_7cf53_52 : decode cJ8_hugeLength_7cf53 52 = .ok (.if_icmp .gt 6, 3) := by decide +kernel
theorem dJ8_hugeLength_7cf53_55 : decode cJ8_hugeLength_7cf53 55 = .ok (.ldc 200, 2) := by decide +kernel
theorem dJ8_hugeLength_7cf53_57 : decode cJ8_hugeLength_7cf53 57 = .ok (.ireturn, 1) := by decide +kernel
theorem dJ8_hugeLength_7cf53_58 : decode cJ8_hugeLength_7cf53 58 = .ok (.iload_n 2, 1) := by decide +kernel
theorem dJ8_hugeLength_7cf53_59 : decode cJ8_hugeLength_7cf53 59 = .ok (.ireturn, 1) := by decide +kernel
theorem dJ3_checkIndex_8e157_0 : decode cJ3_checkIndex_8e157 0 = .ok (.iload_n 0, 1) := by decide +kernel
theorem dJ3_checkIndex_8e157_1 : decode cJ3_checkIndex_8e157 1 = .ok (.ifCond .lt 8, 3) := by decide +kernel
theorem dJ3_checkIndex_8e157_4 : decode cJ3_checkIndex_8e157 4 = .ok (.iload_n 0, 1) := by decide +kernel
theorem dJ3_checkIndex_8e157_5 : decode cJ3_checkIndex_8e157 5 = .ok (.iload_n 1, 1) := by decide +kernel
theorem dJ3_checkIndex_8e157_6 : decode cJ3_checkIndex_8e157 6 = .ok (.if_icmp .lt 10, 3) := by decide +kernel
theorem dJ3_checkIndex_8e157_9 : decode cJ3_checkIndex_8e157 9 = .ok (.aload_n 2, 1) := by decide +kernel
theorem dJ3_checkIndex_8e157_10 : decode cJ3_checkIndex_8e157 10 = .ok (.iload_n 0, 1) := by decide +kernel
theorem dJ3_checkIndex_8e157_11 : decode cJ3_checkIndex_8e157 11 = .ok (.iload_n 1, 1) := by decide +kernel
theorem dJ3_checkIndex_8e157_12 : decode cJ3_checkIndex_8e157 12 = .ok (.invokestatic 95, 3) := by decide +kernel
theorem dJ3_checkIndex_8e157_15 : decode cJ3_checkIndex_8e157 15 = .ok (.athrow, 1) := by decide +kernel
theorem dJ3_checkIndex_8e157_16 : decode cJ3_checkIndex_8e157 16 = .ok (.iload_n 0, 1) := by decide +kernel
theorem dJ3_checkIndex_8e157_17 : decode cJ3_checkIndex_8e157 17 = .ok (.ireturn, 1) := by decide +kernel
set_option maxRecDepth 20000 in
theorem ggL_make_X4_make : GoodIn wsL_make wsX4_make := goodIn_ca (goodIn_ca (goodIn_r _ [7, 8, 9, 10, 11, 12, 13, 14, 15, 16, 17, 18, 19, 20, 21, 22, 23, 24, 25, 26, 27, 28, 29, 30, 31, 32, 33, 34, 35, 36, 37, 38, 39, 40, 41, 42, 43, 44, 45, 46, 47, 48, 49, 50, 51, 52, 53, 54, 55, 56, 57, 58, 59, 60, 61, 62, 63, 64, 65, 66, 67, 68, 69, 70, 71, 72, 73, 74, 75, 76, 77, 78, 79, 80, 81, 82, 83, 84, 85, 86, 87, 88, 89, 90, 91, 92, 93, 94, 95, 96, 97, 98, 99, 100, 101, 102, 103, 104, 105, 106, 6, 107, 108, 109, 110, 111, 112, 113, 114, 115, 116, 117, 118, 119, 120, 121, 122, 123, 124, 125, 126, 127, 128, 129, 130, 131, 132, 133, 134, 135, 136, 137, 138, 139, 140, 141, 142, 143, 144, 145, 146, 147, 148, 149, 150, 151, 152, 153, 154, 155, 156, 157, 158, 159, 160, 161, 162, 163, 164, 165, 166, 167, 168, 169, 170, 171, 172, 173, 174, 175, 176, 177, 178, 179, 180, 181, 182, 183, 184, 185, 186, 187, 188, 189, 190, 191, 192, 193, 194, 195, 196, 197, 198, 199, 200, 201, 202, 203, 204, 205, 206, 207, 208] (by decide +kernel) (by decide +kernel)) (goodIn_sub (fun _ h => List.mem_cons_of_mem _ (List.mem_append_left _ (List.mem_append_right _ h))) (by decide +kernel))) (goodIn_sub (fun _ h => List.mem_cons_of_mem _ (List.mem_append_right _ h)) (by decide +kernel))
set_option maxRecDepth 20000 in
theorem gL_make_X4_make : GoodIn wsL_make (wsV RL 7 RX4 yX4_make wsX4_make) := goodIn_app (goodIn_of _ (by decide +kernel)) ggL_make_X4_make
theorem dL_make_0 : decode cL_make 0 = .ok (.aload_n 3, 1) := by decide +kernel
theorem dL_make_1 : decode cL_make 1 = .ok (.iconst 0, 1) := by decide +kernel
theorem dL_make_2 : decode cL_make 2 = .ok (.aload_n 0, 1) := by decide +kernel
theorem dL_make_3 : decode cL_make 3 = .ok (.iload_n 1, 1) := by decide +kernel
theorem dL_make_4 : decode cL_make 4 = .ok (.iload_n 2, 1) := by decide +kernel
theorem dL_make_5 : decode cL_make 5 = .ok (.invokevirtual 7, 3) := by decide +kernel
theorem dL_make_8 : decode cL_make 8 = .ok (.i2l, 1) := by decide +kernel
theorem dL_make_9 : decode cL_make 9 = .ok (.lastore, 1) := by decide +kernel
theorem dL_make_10 : decode cL_make 10 = .ok (.goto 11, 3) := by decide +kernel
theorem dL_make_13 : decode cL_make 13 = .ok (.astore 4, 2) := by decide +kernel
theorem dL_make_15 : decode cL_make 15 = .ok (.iconst 1, 1) := by decide +kernel
theorem dL_make_16 : decode cL_make 16 = .ok (.ireturn, 1) := by decide +kernel
theorem dL_make_17 : decode cL_make 17 = .ok (.astore 4, 2) := by decide +kernel
theorem dL_make_19 : decode cL_make 19 = .ok (.iconst 2, 1) := by decide +kernel
theorem dL_make_20 : decode cL_make 20 = .ok (.ireturn, 1) := by decide +kernel
theorem dL_make_21 : decode cL_make 21 = .ok (.iconst 0, 1) := by decide +kernel
theorem dL_make_22 : decode cL_make 22 = .ok (.ireturn, 1) := by decide +kernel
set_option maxRecDepth 20000 in
theorem ggL_grow_X4_grow : GoodIn wsL_grow wsX4_grow := goodIn_ca (goodIn_ca (goodIn_r _ [7, 8, 9, 10, 11, 12, 13, 6, 14, 15, 16, 17, 18, 19, 20, 21, 22, 23, 24, 25, 26, 27, 28, 29, 30, 31, 32, 33, 34, 35, 36, 37, 38, 39, 40, 41, 42, 43, 44, 45, 46, 47, 48, 49, 50, 51, 52, 53, 54, 55, 56, 57, 58, 59, 60, 61, 62, 63, 64, 65, 66, 67, 68, 69, 70, 71, 72, 73, 74, 75, 76, 77, 78, 79, 80, 81, 82, 83, 84, 85, 86, 87, 88, 89, 90, 91, 92, 93, 94, 95, 96, 97, 98, 99, 100, 101, 102, 103, 104, 105, 106, 107, 108, 109, 110, 111, 112, 113, 114, 115, 116, 117, 118, 119, 120, 121, 122, 123, 124, 125, 126, 127, 128, 129, 130, 131, 132, 133, 134, 135, 136, 137, 138, 139, 140, 141, 142, 143, 144, 145] (by decide +kernel) (by decide +kernel)) (goodIn_sub (fun _ h => List.mem_cons_of_mem _ (List.mem_append_left _ (List.mem_append_right _ h))) (by decide +kernel))) (goodIn_sub (fun _ h => List.mem_cons_of_mem _ (List.mem_append_right _ h)) (by decide +kernel))
set_option maxRecDepth 20000 in
theorem gL_grow_X4_grow : GoodIn wsL_grow (wsV RL 17 RX4 yX4_grow wsX4_grow) := goodIn_app (goodIn_of _ (by decide +kernel)) ggL_grow_X4_grow
theorem dL_grow_0 : decode cL_grow 0 = .ok (.aload_n 2, 1) := by decide +kernel
theorem dL_grow_1 : decode cL_grow 1 = .ok (.iconst 0, 1) := by decide +kernel
theorem dL_grow_2 : decode cL_grow 2 = .ok (.aload_n 0, 1) := by decide +kernel
theorem dL_grow_3 : decode cL_grow 3 = .ok (.iload_n 1, 1) := by decide +kernel
theorem dL_grow_4 : decode cL_grow 4 = .ok (.invokevirtual 17, 3) := by decide +kernel
theorem dL_grow_7 : decode cL_grow 7 = .ok (.i2l, 1) := by decide +kernel
theorem dL_grow_8 : decode cL_grow 8 = .ok (.lastore, 1) := by decide +kernel
theorem dL_grow_9 : decode cL_grow 9 = .ok (.goto 9, 3) := by decide +kernel
theorem dL_grow_12 : decode cL_grow 12 = .ok (.astore_n 3, 1) := by decide +kernel
theorem dL_grow_13 : decode cL_grow 13 = .ok (.iconst 1, 1) := by decide +kernel
theorem dL_grow_14 : decode cL_grow 14 = .ok (.ireturn, 1) := by decide +kernel
theorem dL_grow_15 : decode cL_grow 15 = .ok (.astore_n 3, 1) := by decide +kernel
theorem dL_grow_16 : decode cL_grow 16 = .ok (.iconst 2, 1) := by decide +kernel
theorem dL_grow_17 : decode cL_grow 17 = .ok (.ireturn, 1) := by decide +kernel
theorem dL_grow_18 : decode cL_grow 18 = .ok (.iconst 0, 1) := by decide +kernel
theorem dL_grow_19 : decode cL_grow 19 = .ok (.ireturn, 1) := by decide +kernel
set_option maxRecDepth 20000 in
theorem ggL_move_X4_move : GoodIn wsL_move wsX4_move := goodIn_ca (goodIn_ca (goodIn_r _ [7, 8, 9, 10, 11, 12, 13, 14, 6, 15, 16, 17, 18, 19, 20, 21, 22, 23, 24, 25, 26, 27, 28, 29, 30, 31, 32, 33, 34, 35, 36, 37, 38, 39, 40, 41, 42, 43, 44, 45, 46, 47, 48, 49, 50, 51, 52, 53, 54, 55, 56, 57, 58, 59, 60, 61, 62, 63, 64, 65, 66, 67, 68, 69, 70, 71, 72, 73, 74, 75, 76, 77, 78, 79, 80, 81, 82, 83, 84, 85, 86, 87, 88, 89, 90, 91, 92, 93, 94, 95, 96, 97, 98, 99, 100, 101, 102, 103, 104, 105, 106, 107, 108, 109, 110, 111, 112, 113, 114, 115, 116, 117, 118, 119, 120, 121, 122, 123, 124, 125, 126, 127, 128, 129, 130, 131, 132, 133, 134, 135, 136, 137, 138] (by decide +kernel) (by decide +kernel)) (goodIn_sub (fun _ h => List.mem_cons_of_mem _ (List.mem_append_left _ (List.mem_append_right _ h))) (by decide +kernel))) (goodIn_sub (fun _ h => List.mem_cons_of_mem _ (List.mem_append_right _ h)) (by decide +kernel))
set_option maxRecDepth 20000 in
theorem gL_move_X4_move : GoodIn wsL_move (wsV RL 23 RX4 yX4_move wsX4_move) := goodIn_app (goodIn_of _ (by decide +kernel)) ggL_move_X4_move
theorem dL_move_0 : decode cL_move 0 = .ok (.aload_n 2, 1) := by decide +kernel
theorem dL_move_1 : decode cL_move 1 = .ok (.iconst 0, 1) := by decide +kernel
theorem dL_move_2 : decode cL_move 2 = .ok (.aload_n 0, 1) := by decide +kernel
theorem dL_move_3 : decode cL_move 3 = .ok (.iload_n 1, 1) := by decide +kernel
theorem dL_move_4 : decode cL_move 4 = .ok (.invokevirtual 23, 3) := by decide +kernel
theorem dL_move_7 : decode cL_move 7 = .ok (.i2l, 1) := by decide +kernel
theorem dL_move_8 : decode cL_move 8 = .ok (.lastore, 1) := by decide +kernel
theorem dL_move_9 : decode cL_move 9 = .ok (.goto 9, 3) := by decide +kernel
theorem dL_move_12 : decode cL_move 12 = .ok (.astore_n 3, 1) := by decide +kernel
theorem dL_move_13 : decode cL_move 13 = .ok (.iconst 1, 1) := by decide +kernel
theorem dL_move_14 : decode cL_move 14 = .ok (.ireturn, 1) := by decide +kernel
theorem dL_move_15 : decode cL_move 15 = .ok (.astore_n 3, 1) := by decide +kernel
theorem dL_move_16 : decode cL_move 16 = .ok (.iconst 2, 1) := by decide +kernel
theorem dL_move_17 : decode cL_move 17 = .ok (.ireturn, 1) := by decide +kernel
theorem dL_move_18 : decode cL_move 18 = .ok (.iconst 0, 1) := by decide +kernel
theorem dL_move_19 : decode cL_move 19 = .ok (.ireturn, 1) := by decide +kernel
set_option maxRecDepth 20000 in
theorem ggL_throwAway_X4_throwAway : GoodIn wsL_throwAway wsX4_throwAway := goodIn_ca (goodIn_ca (goodIn_r _ [7, 8, 9, 10, 11, 12, 6, 13, 14, 15, 16, 17, 18, 19, 20, 21, 22, 23, 24, 25, 26, 27, 28, 29, 30, 31, 32, 33, 34, 35, 36, 37, 38, 39, 40, 41, 42, 43, 44, 45, 46, 47, 48, 49, 50, 51, 52, 53, 54, 55, 56, 57, 58, 59, 60, 61, 62, 63, 64, 65, 66, 67, 68, 69, 70, 71, 72, 73, 74, 75, 76, 77, 78, 79, 80, 81, 82, 83, 84, 85, 86, 87, 88, 89, 90, 91, 92, 93, 94, 95, 96, 97, 98, 99, 100, 101, 102, 103, 104, 105, 106, 107, 108, 109, 110, 111, 112, 113, 114, 115, 116, 117, 118, 119, 120, 121, 122, 123, 124, 125, 126] (by decide +kernel) (by decide +kernel)) (goodIn_sub (fun _ h => List.mem_cons_of_mem _ (List.mem_append_left _ (List.mem_append_right _ h))) (by decide +kernel))) (goodIn_sub (fun _ h => List.mem_cons_of_mem _ (List.mem_append_right _ h)) (by decide +kernel))
set_option maxRecDepth 20000 in
theorem gL_throwAway_X4_throwAway : GoodIn wsL_throwAway (wsV RL 26 RX4 yX4_throwAway wsX4_throwAway) := goodIn_app (goodIn_of _ (by decide +kernel)) ggL_throwAway_X4_throwAway
theorem dL_throwAway_0 : decode cL_throwAway 0 = .ok (.aload_n 2, 1) := by decide +kernel
theorem dL_throwAway_1 : decode cL_throwAway 1 = .ok (.iconst 0, 1) := by decide +kernel
theorem dL_throwAway_2 : decode cL_throwAway 2 = .ok (.aload_n 0, 1) := by decide +kernel
theorem dL_throwAway_3 : decode cL_throwAway 3 = .ok (.iload_n 1, 1) := by decide +kernel
theorem dL_throwAway_4 : decode cL_throwAway 4 = .ok (.invokevirtual 26, 3) := by decide +kernel
theorem dL_throwAway_7 : decode cL_throwAway 7 = .ok (.i2l, 1) := by decide +kernel
theorem dL_throwAway_8 : decode cL_throwAway 8 = .ok (.lastore, 1) := by decide +kernel
theorem dL_throwAway_9 : decode cL_throwAway 9 = .ok (.goto 9, 3) := by decide +kernel
theorem dL_throwAway_12 : decode cL_throwAway 12 = .ok (.astore_n 3, 1) := by decide +kernel
theorem dL_throwAway_13 : decode cL_throwAway 13 = .ok (.iconst 1, 1) := by decide +kernel
theorem dL_throwAway_14 : decode cL_throwAway 14 = .ok (.ireturn, 1) := by decide +kernel
theorem dL_throwAway_15 : decode cL_throwAway 15 = .ok (.astore_n 3, 1) := by decide +kernel
theorem dL_throwAway_16 : decode cL_throwAway 16 = .ok (.iconst 2, 1) := by decide +kernel
theorem dL_throwAway_17 : decode cL_throwAway 17 = .ok (.ireturn, 1) := by decide +kernel
theorem dL_throwAway_18 : decode cL_throwAway 18 = .ok (.iconst 0, 1) := by decide +kernel
theorem dL_throwAway_19 : decode cL_throwAway 19 = .ok (.ireturn, 1) := by decide +kernel
set_option maxRecDepth 20000 in
theorem ggL_number_X4_number : GoodIn wsL_number wsX4_number := goodIn_ca (goodIn_ca (goodIn_r _ [7, 8, 9, 10, 11, 12, 6, 13, 14, 15, 16, 17, 18, 19, 20, 21, 22, 23, 24, 25, 26, 27, 28] (by decide +kernel) (by decide +kernel)) (goodIn_sub (fun _ h => List.mem_cons_of_mem _ (List.mem_append_left _ (List.mem_append_right _ h))) (by decide +kernel))) (goodIn_sub (fun _ h => List.mem_cons_of_mem _ (List.mem_append_right _ h)) (by decide +kernel))
set_option maxRecDepth 20000 in
theorem gL_number_X4_number : GoodIn wsL_number (wsV RL 29 RX4 yX4_number wsX4_number) := goodIn_app (goodIn_of _ (by decide +kernel)) ggL_number_X4_number
theorem dL_number_0 : decode cL_number 0 = .ok (.aload_n 3, 1) := by decide +kernel
theorem dL_number_1 : decode cL_number 1 = .ok (.iconst 0, 1) := by decide +kernel
theorem dL_number_2 : decode cL_number 2 = .ok (.aload_n 0, 1) := by decide +kernel
theorem dL_number_3 : decode cL_number 3 = .ok (.iload_n 1, 1) := by decide +kernel
theorem dL_number_4 : decode cL_number 4 = .ok (.iload_n 2, 1) := by decide +kernel
theorem dL_number_5 : decode cL_number 5 = .ok (.invokevirtual 29, 3) := by decide +kernel
theorem dL_number_8 : decode cL_number 8 = .ok (.i2l, 1) := by decide +kernel
theorem dL_number_9 : decode cL_number 9 = .ok (.lastore, 1) := by decide +kernel
theorem dL_number_10 : decode cL_number 10 = .ok (.goto 11, 3) := by decide +kernel
theorem dL_number_13 : decode cL_number 13 = .ok (.astore 4, 2) := by decide +kernel
theorem dL_number_15 : decode cL_number 15 = .ok (.iconst 1, 1) := by decide +kernel
theorem dL_number_16 : decode cL_number 16 = .ok (.ireturn, 1) := by decide +kernel
theorem dL_number_17 : decode cL_number 17 = .ok (.astore 4, 2) := by decide +kernel
theorem dL_number_19 : decode cL_number 19 = .ok (.iconst 2, 1) := by decide +kernel
theorem dL_number_20 : decode cL_number 20 = .ok (.ireturn, 1) := by decide +kernel
theorem dL_number_21 : decode cL_number 21 = .ok (.iconst 0, 1) := by decide +kernel
theorem dL_number_22 : decode cL_number 22 = .ok (.ireturn, 1) := by decide +kernel
set_option maxRecDepth 20000 in
theorem ggL_fileOf_X4_fileOf : GoodIn wsL_fileOf wsX4_fileOf := goodIn_ca (goodIn_r _ [6, 7, 8, 9, 5, 10, 11, 12, 13, 14, 15, 16, 17, 18, 19, 20, 21, 22, 23, 24, 25] (by decide +kernel) (by decide +kernel)) (goodIn_sub (fun _ h => List.mem_cons_of_mem _ (List.mem_append_right _ h)) (by decide +kernel))
set_option maxRecDepth 20000 in
theorem gL_fileOf_X4_fileOf : GoodIn wsL_fileOf (wsV RL 32 RX4 yX4_fileOf wsX4_fileOf) := goodIn_app (goodIn_of _ (by decide +kernel)) ggL_fileOf_X4_fileOf
theorem dL_fileOf_0 : decode cL_fileOf 0 = .ok (.aload_n 2, 1) := by decide +kernel
theorem dL_fileOf_1 : decode cL_fileOf 1 = .ok (.iconst 0, 1) := by decide +kernel
theorem dL_fileOf_2 : decode cL_fileOf 2 = .ok (.aload_n 0, 1) := by decide +kernel
theorem dL_fileOf_3 : decode cL_fileOf 3 = .ok (.iload_n 1, 1) := by decide +kernel
theorem dL_fileOf_4 : decode cL_fileOf 4 = .ok (.invokevirtual 32, 3) := by decide +kernel
theorem dL_fileOf_7 : decode cL_fileOf 7 = .ok (.i2l, 1) := by decide +kernel
theorem dL_fileOf_8 : decode cL_fileOf 8 = .ok (.lastore, 1) := by decide +kernel
theorem dL_fileOf_9 : decode cL_fileOf 9 = .ok (.goto 6, 3) := by decide +kernel
theorem dL_fileOf_12 : decode cL_fileOf 12 = .ok (.astore_n 3, 1) := by decide +kernel
theorem dL_fileOf_13 : decode cL_fileOf 13 = .ok (.iconst 1, 1) := by decide +kernel
theorem dL_fileOf_14 : decode cL_fileOf 14 = .ok (.ireturn, 1) := by decide +kernel
theorem dL_fileOf_15 : decode cL_fileOf 15 = .ok (.iconst 0, 1) := by decide +kernel
theorem dL_fileOf_16 : decode cL_fileOf 16 = .ok (.ireturn, 1) := by decide +kernel
set_option maxRecDepth 20000 in
theorem ggL_clusters_X4_clusters : GoodIn wsL_clusters wsX4_clusters := goodIn_ca (goodIn_r _ [6, 7, 8, 9, 5, 10, 11, 12, 13, 14, 15, 16, 17, 18, 19, 20, 21, 22, 23, 24, 25, 26, 27, 28, 29, 30, 31, 32, 33, 34, 35, 36, 37, 38, 39, 40, 41, 42, 43, 44, 45, 46, 47, 48, 49, 50, 51, 52, 53] (by decide +kernel) (by decide +kernel)) (goodIn_sub (fun _ h => List.mem_cons_of_mem _ (List.mem_append_right _ h)) (by decide +kernel))
set_option maxRecDepth 20000 in
theorem gL_clusters_X4_clusters : GoodIn wsL_clusters (wsV RL 35 RX4 yX4_clusters wsX4_clusters) := goodIn_app (goodIn_of _ (by decide +kernel)) ggL_clusters_X4_clusters
theorem dL_clusters_0 : decode cL_clusters 0 = .ok (.aload_n 2, 1) := by decide +kernel
theorem dL_clusters_1 : decode cL_clusters 1 = .ok (.iconst 0, 1) := by decide +kernel
theorem dL_clusters_2 : decode cL_clusters 2 = .ok (.aload_n 0, 1) := by decide +kernel
theorem dL_clusters_3 : decode cL_clusters 3 = .ok (.iload_n 1, 1) := by decide +kernel
theorem dL_clusters_4 : decode cL_clusters 4 = .ok (.invokevirtual 35, 3) := by decide +kernel
theorem dL_clusters_7 : decode cL_clusters 7 = .ok (.i2l, 1) := by decide +kernel
theorem dL_clusters_8 : decode cL_clusters 8 = .ok (.lastore, 1) := by decide +kernel
theorem dL_clusters_9 : decode cL_clusters 9 = .ok (.goto 6, 3) := by decide +kernel
theorem dL_clusters_12 : decode cL_clusters 12 = .ok (.astore_n 3, 1) := by decide +kernel
theorem dL_clusters_13 : decode cL_clusters 13 = .ok (.iconst 1, 1) := by decide +kernel
theorem dL_clusters_14 : decode cL_clusters 14 = .ok (.ireturn, 1) := by decide +kernel
theorem dL_clusters_15 : decode cL_clusters 15 = .ok (.iconst 0, 1) := by decide +kernel
theorem dL_clusters_16 : decode cL_clusters 16 = .ok (.ireturn, 1) := by decide +kernel
set_option maxRecDepth 20000 in
theorem ggL_clusterAt_X4_clusterAt : GoodIn wsL_clusterAt wsX4_clusterAt := goodIn_ca (goodIn_ca (goodIn_ca (goodIn_r _ [8, 9, 10, 11, 7, 12, 13, 14, 15, 16, 17, 18, 19, 20, 21, 22, 23, 24, 25, 26, 27, 28, 29, 30, 31, 32, 33, 34, 35, 36, 37, 38, 39, 40, 41, 42, 43, 44, 45, 46, 47, 48, 49, 50, 51, 52, 53, 54, 55, 56, 57, 58, 59, 60, 61, 62, 63, 64, 65, 66, 67, 68, 69, 70, 71, 72, 73, 74, 75, 76, 77, 78, 79] (by decide +kernel) (by decide +kernel)) (goodIn_sub (fun _ h => List.mem_cons_of_mem _ (List.mem_append_left _ (List.mem_append_left _ (List.mem_append_right _ h)))) (by decide +kernel))) (goodIn_sub (fun _ h => List.mem_cons_of_mem _ (List.mem_append_left _ (List.mem_append_right _ h))) (by decide +kernel))) (goodIn_sub (fun _ h => List.mem_cons_of_mem _ (List.mem_append_right _ h)) (by decide +kernel))
set_option maxRecDepth 20000 in
theorem gL_clusterAt_X4_clusterAt : GoodIn wsL_clusterAt (wsV RL 38 RX4 yX4_clusterAt wsX4_clusterAt) := goodIn_app (goodIn_of _ (by decide +kernel)) ggL_clusterAt_X4_clusterAt
theorem dL_clusterAt_0 : decode cL_clusterAt 0 = .ok (.aload_n 3, 1) := by decide +kernel
theorem dL_clusterAt_1 : decode cL_clusterAt 1 = .ok (.iconst 0, 1) := by decide +kernel
theorem dL_clusterAt_2 : decode cL_clusterAt 2 = .ok (.aload_n 0, 1) := by decide +kernel
theorem dL_clusterAt_3 : decode cL_clusterAt 3 = .ok (.iload_n 1, 1) := by decide +kernel
theorem dL_clusterAt_4 : decode cL_clusterAt 4 = .ok (.iload_n 2, 1) := by decide +kernel
theorem dL_clusterAt_5 : decode cL_clusterAt 5 = .ok (.invokevirtual 38, 3) := by decide +kernel
theorem dL_clusterAt_8 : decode cL_clusterAt 8 = .ok (.i2l, 1) := by decide +kernel
theorem dL_clusterAt_9 : decode cL_clusterAt 9 = .ok (.lastore, 1) := by decide +kernel
theorem dL_clusterAt_10 : decode cL_clusterAt 10 = .ok (.goto 15, 3) := by decide +kernel
theorem dL_clusterAt_13 : decode cL_clusterAt 13 = .ok (.astore 4, 2) := by decide +kernel
theorem dL_clusterAt_15 : decode cL_clusterAt 15 = .ok (.iconst 1, 1) := by decide +kernel
theorem dL_clusterAt_16 : decode cL_clusterAt 16 = .ok (.ireturn, 1) := by decide +kernel
theorem dL_clusterAt_17 : decode cL_clusterAt 17 = .ok (.astore 4, 2) := by decide +kernel
theorem dL_clusterAt_19 : decode cL_clusterAt 19 = .ok (.iconst 2, 1) := by decide +kernel
theorem dL_clusterAt_20 : decode cL_clusterAt 20 = .ok (.ireturn, 1) := by decide +kernel
theorem dL_clusterAt_21 : decode cL_clusterAt 21 = .ok (.astore 4, 2) := by decide +kernel
theorem dL_clusterAt_23 : decode cL_clusterAt 23 = .ok (.iconst 3, 1) := by decide +kernel
theorem dL_clusterAt_24 : decode cL_clusterAt 24 = .ok (.ireturn, 1) := by decide +kernel
theorem dL_clusterAt_25 : decode cL_clusterAt 25 = .ok (.iconst 0, 1) := by decide +kernel
theorem dL_clusterAt_26 : decode cL_clusterAt 26 = .ok (.ireturn, 1) := by decide +kernel
set_option maxRecDepth 20000 in
theorem ggL_checksum_X4_checksum : GoodIn wsL_checksum wsX4_checksum := goodIn_ca (goodIn_r _ [6, 7, 8, 9, 10, 5, 11, 12, 13, 14, 15, 16, 17, 18, 19, 20, 21, 22, 23, 24, 25, 26, 27, 28, 29, 30, 31, 32, 33, 34, 35, 36, 37, 38, 39, 40, 41, 42, 43, 44, 45, 46, 47, 48, 49, 50, 51, 52, 53, 54, 55, 56, 57, 58, 59, 60, 61, 62, 63, 64, 65, 66, 67, 68, 69, 70, 71, 72, 73, 74, 75, 76, 77, 78, 79, 80, 81, 82, 83] (by decide +kernel) (by decide +kernel)) (goodIn_sub (fun _ h => List.mem_cons_of_mem _ (List.mem_append_right _ h)) (by decide +kernel))
set_option maxRecDepth 20000 in
theorem gL_checksum_X4_checksum : GoodIn wsL_checksum (wsV RL 41 RX4 yX4_checksum wsX4_checksum) := goodIn_app (goodIn_of _ (by decide +kernel)) ggL_checksum_X4_checksum
theorem dL_checksum_0 : decode cL_checksum 0 = .ok (.aload_n 2, 1) := by decide +kernel
theorem dL_checksum_1 : decode cL_checksum 1 = .ok (.iconst 0, 1) := by decide +kernel
theorem dL_checksum_2 : decode cL_checksum 2 = .ok (.aload_n 0, 1) := by decide +kernel
theorem dL_checksum_3 : decode cL_checksum 3 = .ok (.iload_n 1, 1) := by decide +kernel
theorem dL_checksum_4 : decode cL_checksum 4 = .ok (.invokevirtual 41, 3) := by decide +kernel
theorem dL_checksum_7 : decode cL_checksum 7 = .ok (.i2l, 1) := by decide +kernel
theorem dL_checksum_8 : decode cL_checksum 8 = .ok (.lastore, 1) := by decide +kernel
theorem dL_checksum_9 : decode cL_checksum 9 = .ok (.goto 6, 3) := by decide +kernel
theorem dL_checksum_12 : decode cL_checksum 12 = .ok (.astore_n 3, 1) := by decide +kernel
theorem dL_checksum_13 : decode cL_checksum 13 = .ok (.iconst 1, 1) := by decide +kernel
theorem dL_checksum_14 : decode cL_checksum 14 = .ok (.ireturn, 1) := by decide +kernel
theorem dL_checksum_15 : decode cL_checksum 15 = .ok (.iconst 0, 1) := by decide +kernel
theorem dL_checksum_16 : decode cL_checksum 16 = .ok (.ireturn, 1) := by decide +kernel
set_option maxRecDepth 20000 in
theorem ggL_claimed_X4_claimed : GoodIn wsL_claimed wsX4_claimed := goodIn_ca (goodIn_ca (goodIn_r _ [7, 8, 9, 10, 6, 11, 12, 13, 14, 15, 16, 17, 18, 19, 20, 21, 22, 23, 24, 25, 26, 27, 28, 29, 30, 31, 32, 33, 34, 35, 36, 37, 38, 39, 40, 41, 42, 43, 44, 45, 46, 47, 48, 49, 50, 51, 52, 53, 54, 55, 56, 57, 58, 59, 60, 61, 62, 63, 64, 65, 66] (by decide +kernel) (by decide +kernel)) (goodIn_sub (fun _ h => List.mem_cons_of_mem _ (List.mem_append_left _ (List.mem_append_right _ h))) (by decide +kernel))) (goodIn_sub (fun _ h => List.mem_cons_of_mem _ (List.mem_append_right _ h)) (by decide +kernel))
set_option maxRecDepth 20000 in
theorem gL_claimed_X4_claimed : GoodIn wsL_claimed (wsV RL 44 RX4 yX4_claimed wsX4_claimed) := goodIn_app (goodIn_of _ (by decide +kernel)) ggL_claimed_X4_claimed
theorem dL_claimed_0 : decode cL_claimed 0 = .ok (.aload_n 2, 1) := by decide +kernel
theorem dL_claimed_1 : decode cL_claimed 1 = .ok (.iconst 0, 1) := by decide +kernel
theorem dL_claimed_2 : decode cL_claimed 2 = .ok (.aload_n 0, 1) := by decide +kernel
theorem dL_claimed_3 : decode cL_claimed 3 = .ok (.iload_n 1, 1) := by decide +kernel
theorem dL_claimed_4 : decode cL_claimed 4 = .ok (.invokevirtual 44, 3) := by decide +kernel
theorem dL_claimed_7 : decode cL_claimed 7 = .ok (.i2l, 1) := by decide +kernel
theorem dL_claimed_8 : decode cL_claimed 8 = .ok (.lastore, 1) := by decide +kernel
theorem dL_claimed_9 : decode cL_claimed 9 = .ok (.goto 9, 3) := by decide +kernel
theorem dL_claimed_12 : decode cL_claimed 12 = .ok (.astore_n 3, 1) := by decide +kernel
theorem dL_claimed_13 : decode cL_claimed 13 = .ok (.iconst 1, 1) := by decide +kernel
theorem dL_claimed_14 : decode cL_claimed 14 = .ok (.ireturn, 1) := by decide +kernel
theorem dL_claimed_15 : decode cL_claimed 15 = .ok (.astore_n 3, 1) := by decide +kernel
theorem dL_claimed_16 : decode cL_claimed 16 = .ok (.iconst 2, 1) := by decide +kernel
theorem dL_claimed_17 : decode cL_claimed 17 = .ok (.ireturn, 1) := by decide +kernel
theorem dL_claimed_18 : decode cL_claimed 18 = .ok (.iconst 0, 1) := by decide +kernel
theorem dL_claimed_19 : decode cL_claimed 19 = .ok (.ireturn, 1) := by decide +kernel
set_option maxRecDepth 20000 in
theorem ggL_claimAt_X4_claimAt : GoodIn wsL_claimAt wsX4_claimAt := goodIn_ca (goodIn_ca (goodIn_ca (goodIn_r _ [8, 9, 10, 11, 12, 13, 7, 14, 15, 16, 17, 18, 19, 20, 21, 22, 23, 24, 25, 26, 27, 28, 29, 30, 31, 32, 33, 34, 35, 36, 37, 38, 39, 40, 41, 42, 43, 44, 45, 46, 47, 48, 49, 50, 51, 52, 53, 54, 55, 56, 57, 58, 59, 60, 61, 62, 63, 64, 65, 66, 67, 68, 69, 70, 71, 72, 73, 74, 75, 76] (by decide +kernel) (by decide +kernel)) (goodIn_sub (fun _ h => List.mem_cons_of_mem _ (List.mem_append_left _ (List.mem_append_left _ (List.mem_append_right _ h)))) (by decide +kernel))) (goodIn_sub (fun _ h => List.mem_cons_of_mem _ (List.mem_append_left _ (List.mem_append_right _ h))) (by decide +kernel))) (goodIn_sub (fun _ h => List.mem_cons_of_mem _ (List.mem_append_right _ h)) (by decide +kernel))
set_option maxRecDepth 20000 in
theorem gL_claimAt_X4_claimAt : GoodIn wsL_claimAt (wsV RL 47 RX4 yX4_claimAt wsX4_claimAt) := goodIn_app (goodIn_of _ (by decide +kernel)) ggL_claimAt_X4_claimAt
theorem dL_claimAt_0 : decode cL_claimAt 0 = .ok (.aload_n 3, 1) := by decide +kernel
theorem dL_claimAt_1 : decode cL_claimAt 1 = .ok (.iconst 0, 1) := by decide +kernel
theorem dL_claimAt_2 : decode cL_claimAt 2 = .ok (.aload_n 0, 1) := by decide +kernel
theorem dL_claimAt_3 : decode cL_claimAt 3 = .ok (.iload_n 1, 1) := by decide +kernel
theorem dL_claimAt_4 : decode cL_claimAt 4 = .ok (.iload_n 2, 1) := by decide +kernel
theorem dL_claimAt_5 : decode cL_claimAt 5 = .ok (.invokevirtual 47, 3) := by decide +kernel
theorem dL_claimAt_8 : decode cL_claimAt 8 = .ok (.i2l, 1) := by decide +kernel
theorem dL_claimAt_9 : decode cL_claimAt 9 = .ok (.lastore, 1) := by decide +kernel
theorem dL_claimAt_10 : decode cL_claimAt 10 = .ok (.goto 15, 3) := by decide +kernel
theorem dL_claimAt_13 : decode cL_claimAt 13 = .ok (.astore 4, 2) := by decide +kernel
theorem dL_claimAt_15 : decode cL_claimAt 15 = .ok (.iconst 1, 1) := by decide +kernel
theorem dL_claimAt_16 : decode cL_claimAt 16 = .ok (.ireturn, 1) := by decide +kernel
theorem dL_claimAt_17 : decode cL_claimAt 17 = .ok (.astore 4, 2) := by decide +kernel
theorem dL_claimAt_19 : decode cL_claimAt 19 = .ok (.iconst 2, 1) := by decide +kernel
theorem dL_claimAt_20 : decode cL_claimAt 20 = .ok (.ireturn, 1) := by decide +kernel
theorem dL_claimAt_21 : decode cL_claimAt 21 = .ok (.astore 4, 2) := by decide +kernel
theorem dL_claimAt_23 : decode cL_claimAt 23 = .ok (.iconst 3, 1) := by decide +kernel
theorem dL_claimAt_24 : decode cL_claimAt 24 = .ok (.ireturn, 1) := by decide +kernel
theorem dL_claimAt_25 : decode cL_claimAt 25 = .ok (.iconst 0, 1) := by decide +kernel
theorem dL_claimAt_26 : decode cL_claimAt 26 = .ok (.ireturn, 1) := by decide +kernel
set_option maxRecDepth 20000 in
theorem ggL_confidence_X4_confidence : GoodIn wsL_confidence wsX4_confidence := goodIn_ca (goodIn_ca (goodIn_r _ [7, 8, 9, 10, 6, 11, 12, 13, 14, 15, 16, 17, 18, 19, 20, 21, 22, 23, 24, 25, 26, 27, 28, 29, 30, 31, 32, 33, 34, 35, 36, 37, 38, 39, 40, 41, 42, 43, 44, 45, 46, 47, 48, 49, 50, 51, 52, 53, 54, 55, 56, 57, 58, 59, 60, 61, 62, 63, 64] (by decide +kernel) (by decide +kernel)) (goodIn_sub (fun _ h => List.mem_cons_of_mem _ (List.mem_append_left _ (List.mem_append_right _ h))) (by decide +kernel))) (goodIn_sub (fun _ h => List.mem_cons_of_mem _ (List.mem_append_right _ h)) (by decide +kernel))
set_option maxRecDepth 20000 in
theorem gL_confidence_X4_confidence : GoodIn wsL_confidence (wsV RL 50 RX4 yX4_confidence wsX4_confidence) := goodIn_app (goodIn_of _ (by decide +kernel)) ggL_confidence_X4_confidence
theorem dL_confidence_0 : decode cL_confidence 0 = .ok (.aload_n 2, 1) := by decide +kernel
theorem dL_confidence_1 : decode cL_confidence 1 = .ok (.iconst 0, 1) := by decide +kernel
theorem dL_confidence_2 : decode cL_confidence 2 = .ok (.aload_n 0, 1) := by decide +kernel
theorem dL_confidence_3 : decode cL_confidence 3 = .ok (.iload_n 1, 1) := by decide +kernel
theorem dL_confidence_4 : decode cL_confidence 4 = .ok (.invokevirtual 50, 3) := by decide +kernel
theorem dL_confidence_7 : decode cL_confidence 7 = .ok (.i2l, 1) := by decide +kernel
theorem dL_confidence_8 : decode cL_confidence 8 = .ok (.lastore, 1) := by decide +kernel
theorem dL_confidence_9 : decode cL_confidence 9 = .ok (.goto 9, 3) := by decide +kernel
theorem dL_confidence_12 : decode cL_confidence 12 = .ok (.astore_n 3, 1) := by decide +kernel
theorem dL_confidence_13 : decode cL_confidence 13 = .ok (.iconst 1, 1) := by decide +kernel
theorem dL_confidence_14 : decode cL_confidence 14 = .ok (.ireturn, 1) := by decide +kernel
theorem dL_confidence_15 : decode cL_confidence 15 = .ok (.astore_n 3, 1) := by decide +kernel
theorem dL_confidence_16 : decode cL_confidence 16 = .ok (.iconst 2, 1) := by decide +kernel
theorem dL_confidence_17 : decode cL_confidence 17 = .ok (.ireturn, 1) := by decide +kernel
theorem dL_confidence_18 : decode cL_confidence 18 = .ok (.iconst 0, 1) := by decide +kernel
theorem dL_confidence_19 : decode cL_confidence 19 = .ok (.ireturn, 1) := by decide +kernel
set_option maxRecDepth 20000 in
theorem ggL_ownerOf_X4_ownerOf : GoodIn wsL_ownerOf wsX4_ownerOf := goodIn_ca (goodIn_r _ [6, 7, 8, 5, 9, 10, 11, 12, 13, 14, 15, 16, 17, 18, 19, 20, 21, 22, 23, 24, 25, 26, 27, 28, 29, 30, 31, 32, 33, 34, 35, 36, 37, 38, 39, 40, 41, 42, 43, 44, 45, 46, 47, 48, 49, 50, 51, 52, 53, 54, 55, 56, 57, 58, 59, 60, 61, 62, 63, 64, 65, 66, 67, 68, 69, 70, 71, 72, 73] (by decide +kernel) (by decide +kernel)) (goodIn_sub (fun _ h => List.mem_cons_of_mem _ (List.mem_append_right _ h)) (by decide +kernel))
set_option maxRecDepth 20000 in
theorem gL_ownerOf_X4_ownerOf : GoodIn wsL_ownerOf (wsV RL 53 RX4 yX4_ownerOf wsX4_ownerOf) := goodIn_app (goodIn_of _ (by decide +kernel)) ggL_ownerOf_X4_ownerOf
theorem dL_ownerOf_0 : decode cL_ownerOf 0 = .ok (.aload_n 2, 1) := by decide +kernel
theorem dL_ownerOf_1 : decode cL_ownerOf 1 = .ok (.iconst 0, 1) := by decide +kernel
theorem dL_ownerOf_2 : decode cL_ownerOf 2 = .ok (.aload_n 0, 1) := by decide +kernel
theorem dL_ownerOf_3 : decode cL_ownerOf 3 = .ok (.iload_n 1, 1) := by decide +kernel
theorem dL_ownerOf_4 : decode cL_ownerOf 4 = .ok (.invokevirtual 53, 3) := by decide +kernel
theorem dL_ownerOf_7 : decode cL_ownerOf 7 = .ok (.i2l, 1) := by decide +kernel
theorem dL_ownerOf_8 : decode cL_ownerOf 8 = .ok (.lastore, 1) := by decide +kernel
theorem dL_ownerOf_9 : decode cL_ownerOf 9 = .ok (.goto 6, 3) := by decide +kernel
theorem dL_ownerOf_12 : decode cL_ownerOf 12 = .ok (.astore_n 3, 1) := by decide +kernel
theorem dL_ownerOf_13 : decode cL_ownerOf 13 = .ok (.iconst 1, 1) := by decide +kernel
theorem dL_ownerOf_14 : decode cL_ownerOf 14 = .ok (.ireturn, 1) := by decide +kernel
theorem dL_ownerOf_15 : decode cL_ownerOf 15 = .ok (.iconst 0, 1) := by decide +kernel
theorem dL_ownerOf_16 : decode cL_ownerOf 16 = .ok (.ireturn, 1) := by decide +kernel
set_option maxRecDepth 20000 in
theorem ggL_owned_X4_owned : GoodIn wsL_owned wsX4_owned := goodIn_ca (goodIn_ca (goodIn_r _ [7, 8, 9, 10, 6, 11, 12, 13, 14, 15, 16, 17, 18, 19, 20, 21, 22, 23, 24, 25, 26, 27, 28, 29, 30, 31, 32, 33, 34, 35, 36, 37, 38, 39, 40, 41, 42, 43, 44, 45, 46, 47, 48, 49, 50, 51, 52, 53, 54, 55, 56, 57, 58, 59, 60, 61, 62, 63, 64, 65, 66, 67, 68, 69, 70, 71, 72, 73, 74, 75, 76, 77, 78, 79, 80, 81, 82] (by decide +kernel) (by decide +kernel)) (goodIn_sub (fun _ h => List.mem_cons_of_mem _ (List.mem_append_left _ (List.mem_append_right _ h))) (by decide +kernel))) (goodIn_sub (fun _ h => List.mem_cons_of_mem _ (List.mem_append_right _ h)) (by decide +kernel))
set_option maxRecDepth 20000 in
theorem gL_owned_X4_owned : GoodIn wsL_owned (wsV RL 56 RX4 yX4_owned wsX4_owned) := goodIn_app (goodIn_of _ (by decide +kernel)) ggL_owned_X4_owned
theorem dL_owned_0 : decode cL_owned 0 = .ok (.aload_n 2, 1) := by decide +kernel
theorem dL_owned_1 : decode cL_owned 1 = .ok (.iconst 0, 1) := by decide +kernel
theorem dL_owned_2 : decode cL_owned 2 = .ok (.aload_n 0, 1) := by decide +kernel
theorem dL_owned_3 : decode cL_owned 3 = .ok (.iload_n 1, 1) := by decide +kernel
theorem dL_owned_4 : decode cL_owned 4 = .ok (.invokevirtual 56, 3) := by decide +kernel
theorem dL_owned_7 : decode cL_owned 7 = .ok (.i2l, 1) := by decide +kernel
theorem dL_owned_8 : decode cL_owned 8 = .ok (.lastore, 1) := by decide +kernel
theorem dL_owned_9 : decode cL_owned 9 = .ok (.goto 9, 3) := by decide +kernel
theorem dL_owned_12 : decode cL_owned 12 = .ok (.astore_n 3, 1) := by decide +kernel
theorem dL_owned_13 : decode cL_owned 13 = .ok (.iconst 1, 1) := by decide +kernel
theorem dL_owned_14 : decode cL_owned 14 = .ok (.ireturn, 1) := by decide +kernel
theorem dL_owned_15 : decode cL_owned 15 = .ok (.astore_n 3, 1) := by decide +kernel
theorem dL_owned_16 : decode cL_owned 16 = .ok (.iconst 2, 1) := by decide +kernel
theorem dL_owned_17 : decode cL_owned 17 = .ok (.ireturn, 1) := by decide +kernel
theorem dL_owned_18 : decode cL_owned 18 = .ok (.iconst 0, 1) := by decide +kernel
theorem dL_owned_19 : decode cL_owned 19 = .ok (.ireturn, 1) := by decide +kernel
set_option maxRecDepth 20000 in
theorem ggL_hasJoin_X4_hasJoin : GoodIn wsL_hasJoin wsX4_hasJoin := goodIn_ca (goodIn_ca (goodIn_r _ [7, 8, 9, 10, 11, 12, 6, 13, 14, 15, 16, 17, 18, 19, 20, 21, 22, 23, 24, 25, 26, 27, 28, 29, 30, 31, 32, 33, 34, 35, 36, 37, 38, 39, 40, 41, 42, 43, 44, 45, 46, 47, 48, 49, 50, 51, 52, 53, 54, 55, 56, 57, 58, 59, 60, 61, 62, 63, 64, 65, 66, 67, 68, 69, 70, 71, 72, 73, 74, 75, 76, 77, 78, 79, 80, 81, 82, 83, 84, 85, 86, 87, 88, 89, 90, 91, 92, 93, 94, 95, 96, 97, 98, 99, 100, 101, 102, 103, 104, 105, 106, 107, 108, 109, 110, 111, 112, 113, 114, 115, 116, 117, 118, 119, 120, 121] (by decide +kernel) (by decide +kernel)) (goodIn_sub (fun _ h => List.mem_cons_of_mem _ (List.mem_append_left _ (List.mem_append_right _ h))) (by decide +kernel))) (goodIn_sub (fun _ h => List.mem_cons_of_mem _ (List.mem_append_right _ h)) (by decide +kernel))
set_option maxRecDepth 20000 in
theorem gL_hasJoin_X4_hasJoin : GoodIn wsL_hasJoin (wsV RL 59 RX4 yX4_hasJoin wsX4_hasJoin) := goodIn_app (goodIn_of _ (by decide +kernel)) ggL_hasJoin_X4_hasJoin
theorem dL_hasJoin_0 : decode cL_hasJoin 0 = .ok (.aload_n 2, 1) := by decide +kernel
theorem dL_hasJoin_1 : decode cL_hasJoin 1 = .ok (.iconst 0, 1) := by decide +kernel
theorem dL_hasJoin_2 : decode cL_hasJoin 2 = .ok (.aload_n 0, 1) := by decide +kernel
theorem dL_hasJoin_3 : decode cL_hasJoin 3 = .ok (.iload_n 1, 1) := by decide +kernel
theorem dL_hasJoin_4 : decode cL_hasJoin 4 = .ok (.invokevirtual 59, 3) := by decide +kernel
theorem dL_hasJoin_7 : decode cL_hasJoin 7 = .ok (.ifCond .eq 7, 3) := by decide +kernel
theorem dL_hasJoin_10 : decode cL_hasJoin 10 = .ok (.lconst 1, 1) := by decide +kernel
theorem dL_hasJoin_11 : decode cL_hasJoin 11 = .ok (.goto 4, 3) := by decide +kernel
theorem dL_hasJoin_14 : decode cL_hasJoin 14 = .ok (.lconst 0, 1) := by decide +kernel
theorem dL_hasJoin_15 : decode cL_hasJoin 15 = .ok (.lastore, 1) := by decide +kernel
theorem dL_hasJoin_16 : decode cL_hasJoin 16 = .ok (.goto 9, 3) := by decide +kernel
theorem dL_hasJoin_19 : decode cL_hasJoin 19 = .ok (.astore_n 3, 1) := by decide +kernel
theorem dL_hasJoin_20 : decode cL_hasJoin 20 = .ok (.iconst 1, 1) := by decide +kernel
theorem dL_hasJoin_21 : decode cL_hasJoin 21 = .ok (.ireturn, 1) := by decide +kernel
theorem dL_hasJoin_22 : decode cL_hasJoin 22 = .ok (.astore_n 3, 1) := by decide +kernel
theorem dL_hasJoin_23 : decode cL_hasJoin 23 = .ok (.iconst 2, 1) := by decide +kernel
theorem dL_hasJoin_24 : decode cL_hasJoin 24 = .ok (.ireturn, 1) := by decide +kernel
theorem dL_hasJoin_25 : decode cL_hasJoin 25 = .ok (.iconst 0, 1) := by decide +kernel
theorem dL_hasJoin_26 : decode cL_hasJoin 26 = .ok (.ireturn, 1) := by decide +kernel
set_option maxRecDepth 20000 in
theorem ggL_joinAt_X4_joinAt : GoodIn wsL_joinAt wsX4_joinAt := goodIn_ca (goodIn_ca (goodIn_ca (goodIn_r _ [8, 9, 10, 11, 12, 13, 14, 15, 7, 16, 17, 18, 19, 20, 21, 22, 23, 24, 25, 26, 27, 28, 29, 30, 31, 32, 33, 34, 35, 36, 37, 38, 39, 40, 41, 42, 43, 44, 45, 46, 47, 48, 49, 50, 51, 52, 53, 54, 55, 56, 57, 58, 59, 60, 61, 62, 63, 64, 65, 66, 67, 68, 69, 70, 71, 72, 73, 74, 75, 76, 77, 78, 79, 80, 81, 82, 83, 84, 85, 86, 87, 88, 89, 90, 91, 92, 93, 94, 95, 96, 97, 98, 99, 100, 101, 102, 103, 104, 105, 106, 107, 108, 109, 110, 111, 112, 113, 114, 115, 116, 117, 118, 119, 120, 121, 122, 123, 124, 125, 126, 127, 128, 129, 130, 131] (by decide +kernel) (by decide +kernel)) (goodIn_sub (fun _ h => List.mem_cons_of_mem _ (List.mem_append_left _ (List.mem_append_left _ (List.mem_append_right _ h)))) (by decide +kernel))) (goodIn_sub (fun _ h => List.mem_cons_of_mem _ (List.mem_append_left _ (List.mem_append_right _ h))) (by decide +kernel))) (goodIn_sub (fun _ h => List.mem_cons_of_mem _ (List.mem_append_right _ h)) (by decide +kernel))
set_option maxRecDepth 20000 in
theorem gL_joinAt_X4_joinAt : GoodIn wsL_joinAt (wsV RL 63 RX4 yX4_joinAt wsX4_joinAt) := goodIn_app (goodIn_of _ (by decide +kernel)) ggL_joinAt_X4_joinAt
theorem dL_joinAt_0 : decode cL_joinAt 0 = .ok (.aload_n 3, 1) := by decide +kernel
theorem dL_joinAt_1 : decode cL_joinAt 1 = .ok (.iconst 0, 1) := by decide +kernel
theorem dL_joinAt_2 : decode cL_joinAt 2 = .ok (.aload_n 0, 1) := by decide +kernel
theorem dL_joinAt_3 : decode cL_joinAt 3 = .ok (.iload_n 1, 1) := by decide +kernel
theorem dL_joinAt_4 : decode cL_joinAt 4 = .ok (.iload_n 2, 1) := by decide +kernel
theorem dL_joinAt_5 : decode cL_joinAt 5 = .ok (.invokevirtual 63, 3) := by decide +kernel
theorem dL_joinAt_8 : decode cL_joinAt 8 = .ok (.i2l, 1) := by decide +kernel
theorem dL_joinAt_9 : decode cL_joinAt 9 = .ok (.lastore, 1) := by decide +kernel
theorem dL_joinAt_10 : decode cL_joinAt 10 = .ok (.goto 15, 3) := by decide +kernel
theorem dL_joinAt_13 : decode cL_joinAt 13 = .ok (.astore 4, 2) := by decide +kernel
theorem dL_joinAt_15 : decode cL_joinAt 15 = .ok (.iconst 1, 1) := by decide +kernel
theorem dL_joinAt_16 : decode cL_joinAt 16 = .ok (.ireturn, 1) := by decide +kernel
theorem dL_joinAt_17 : decode cL_joinAt 17 = .ok (.astore 4, 2) := by decide +kernel
theorem dL_joinAt_19 : decode cL_joinAt 19 = .ok (.iconst 2, 1) := by decide +kernel
theorem dL_joinAt_20 : decode cL_joinAt 20 = .ok (.ireturn, 1) := by decide +kernel
theorem dL_joinAt_21 : decode cL_joinAt 21 = .ok (.astore 4, 2) := by decide +kernel
theorem dL_joinAt_23 : decode cL_joinAt 23 = .ok (.iconst 3, 1) := by decide +kernel
theorem dL_joinAt_24 : decode cL_joinAt 24 = .ok (.ireturn, 1) := by decide +kernel
theorem dL_joinAt_25 : decode cL_joinAt 25 = .ok (.iconst 0, 1) := by decide +kernel
theorem dL_joinAt_26 : decode cL_joinAt 26 = .ok (.ireturn, 1) := by decide +kernel
abbrev vwCl : List vw_C := [(RJx4a65c, TJx4a65c, 3), (RX0, TX0, 2), (RX1, TX1, 2), (RX2, TX2, 6), (RX3, TX3, 8), (RX4, TX4, 5), (RX5, TX5, 13)]
