theorem dX4_clusterAt_16 : decode cX4_clusterAt 16 = .ok (.pop, 1) := by decide +kernel
theorem dX4_clusterAt_17 : decode cX4_clusterAt 17 = .ok (.aload_n 3, 1) := by decide +kernel
theorem dX4_clusterAt_18 : decode cX4_clusterAt 18 = .ok (.getfield 73, 3) := by decide +kernel
theorem dX4_clusterAt_21 : decode cX4_clusterAt 21 = .ok (.iload_n 2, 1) := by decide +kernel
theorem dX4_clusterAt_22 : decode cX4_clusterAt 22 = .ok (.invokevirtual 104, 3) := by decide +kernel
theorem dX4_clusterAt_25 : decode cX4_clusterAt 25 = .ok (.ireturn, 1) := by decide +kernel
set_option maxRecDepth 20000 in
theorem ggX4_checksum_X4_knownFile : GoodIn wsX4_checksum wsX4_knownFile := goodIn_ca (goodIn_r _ [6, 7, 8, 9, 10, 11, 12, 13, 14, 15, 16, 17, 18, 19, 20, 21, 22, 23, 24, 25, 26, 27, 28, 29, 30, 31, 32, 33, 67, 68, 69, 70, 71, 72, 73, 74] (by decide +kernel) (by decide +kernel)) (goodIn_sub (fun _ h => List.mem_cons_of_mem _ (List.mem_append_right _ h)) (by decide +kernel))
set_option maxRecDepth 20000 in
theorem gX4_checksum_X4_knownFile : GoodIn wsX4_checksum (wsV RX4 143 RX4 yX4_knownFile wsX4_knownFile) := goodIn_app (goodIn_of _ (by decide +kernel)) ggX4_checksum_X4_knownFile
set_option maxRecDepth 20000 in
theorem ggX4_checksum_X2_isThrown : GoodIn wsX4_checksum wsX2_isThrown := goodIn_r _ [38, 39, 61, 62, 63, 64, 65, 66] (by decide +kernel) (by decide +kernel)
set_option maxRecDepth 20000 in
theorem gX4_checksum_X2_isThrown : GoodIn wsX4_checksum (wsV RX4 149 RX2 yX2_isThrown wsX2_isThrown) := goodIn_app (goodIn_of _ (by decide +kernel)) ggX4_checksum_X2_isThrown
set_option maxRecDepth 20000 in
theorem ggX4_checksum_X1_sumOf : GoodIn wsX4_checksum wsX1_sumOf := goodIn_r _ [44, 45, 46, 47, 43, 48, 49, 50, 51, 52, 53, 54, 55, 56, 57, 58, 59, 60, 75, 76, 77, 78] (by decide +kernel) (by decide +kernel)
set_option maxRecDepth 20000 in
theorem gX4_checksum_X1_sumOf : GoodIn wsX4_checksum (wsV RX4 121 RX1 yX1_sumOf wsX1_sumOf) := goodIn_app (goodIn_of _ (by decide +kernel)) ggX4_checksum_X1_sumOf
theorem dX4_checksum_0 : decode cX4_checksum 0 = .ok (.aload_n 0, 1) := by decide +kernel
theorem dX4_checksum_1 : decode cX4_checksum 1 = .ok (.iload_n 1, 1) := by decide +kernel
theorem dX4_checksum_2 : decode cX4_checksum 2 = .ok (.invokevirtual 143, 3) := by decide +kernel
theorem dX4_checksum_5 : decode cX4_checksum 5 = .ok (.astore_n 2, 1) := by decide +kernel
theorem dX4_checksum_6 : decode cX4_checksum 6 = .ok (.aload_n 2, 1) := by decide +kernel
theorem dX4_checksum_7 : decode cX4_checksum 7 = .ok (.invokevirtual 149, 3) := by decide +kernel
theorem dX4_checksum_10 : decode cX4_checksum 10 = .ok (.ifCond .eq 10, 3) := by decide +kernel
theorem dX4_checksum_13 : decode cX4_checksum 13 = .ok (.aload_n 2, 1) := by decide +kernel
theorem dX4_checksum_14 : decode cX4_checksum 14 = .ok (.getfield 125, 3) := by decide +kernel
theorem dX4_checksum_17 : decode cX4_checksum 17 = .ok (.goto 14, 3) := by decide +kernel
theorem dX4_checksum_20 : decode cX4_checksum 20 = .ok (.aload_n 0, 1) := by decide +kernel
theorem dX4_checksum_21 : decode cX4_checksum 21 = .ok (.getfield 10, 3) := by decide +kernel
theorem dX4_checksum_24 : decode cX4_checksum 24 = .ok (.aload_n 2, 1) := by decide +kernel
theorem dX4_checksum_25 : decode cX4_checksum 25 = .ok (.getfield 73, 3) := by decide +kernel
theorem dX4_checksum_28 : decode cX4_checksum 28 = .ok (.invokevirtual 121, 3) := by decide +kernel
theorem dX4_checksum_31 : decode cX4_checksum 31 = .ok (.ireturn, 1) := by decide +kernel
set_option maxRecDepth 20000 in
theorem ggX4_claimed_X4_thrownFile : GoodIn wsX4_claimed wsX4_thrownFile := goodIn_ca (goodIn_ca (goodIn_r _ [5, 6, 7, 8, 9, 10, 4, 11, 12, 13, 14, 15, 16, 17, 18, 19, 20, 21, 22, 23, 24, 25, 26, 27, 28, 29, 30, 31, 32, 33, 34, 35, 36, 37, 38, 39, 40, 41, 42, 43, 44, 53, 54, 55, 56, 57, 58, 59, 60, 45, 46, 47, 48, 49, 50] (by decide +kernel) (by decide +kernel)) (goodIn_sub (fun _ h => List.mem_cons_of_mem _ (List.mem_append_left _ (List.mem_append_right _ h))) (by decide +kernel))) (goodIn_sub (fun _ h => List.mem_cons_of_mem _ (List.mem_append_right _ h)) (by decide +kernel))
set_option maxRecDepth 20000 in
theorem gX4_claimed_X4_thrownFile : GoodIn wsX4_claimed (wsV RX4 153 RX4 yX4_thrownFile wsX4_thrownFile) := goodIn_app (goodIn_of _ (by decide +kernel)) ggX4_claimed_X4_thrownFile
theorem dX4_claimed_0 : decode cX4_claimed 0 = .ok (.aload_n 0, 1) := by decide +kernel
theorem dX4_claimed_1 : decode cX4_claimed 1 = .ok (.iload_n 1, 1) := by decide +kernel
theorem dX4_claimed_2 : decode cX4_claimed 2 = .ok (.invokevirtual 153, 3) := by decide +kernel
theorem dX4_claimed_5 : decode cX4_claimed 5 = .ok (.getfield 156, 3) := by decide +kernel
theorem dX4_claimed_8 : decode cX4_claimed 8 = .ok (.getfield 98, 3) := by decide +kernel
theorem dX4_claimed_11 : decode cX4_claimed 11 = .ok (.ireturn, 1) := by decide +kernel
set_option maxRecDepth 20000 in
theorem ggX4_claimAt_X4_knownFile : GoodIn wsX4_claimAt wsX4_knownFile := goodIn_ca (goodIn_r _ [7, 8, 9, 10, 11, 12, 13, 14, 15, 16, 17, 18, 19, 20, 21, 22, 23, 24, 25, 26, 27, 28, 29, 30, 31, 32, 33, 34, 60, 61, 62, 63, 64, 65, 66, 67] (by decide +kernel) (by decide +kernel)) (goodIn_sub (fun _ h => List.mem_cons_of_mem _ (List.mem_append_left _ (List.mem_append_right _ h))) (by decide +kernel))
set_option maxRecDepth 20000 in
theorem gX4_claimAt_X4_knownFile : GoodIn wsX4_claimAt (wsV RX4 143 RX4 yX4_knownFile wsX4_knownFile) := goodIn_app (goodIn_of _ (by decide +kernel)) ggX4_claimAt_X4_knownFile
set_option maxRecDepth 20000 in
theorem ggX4_claimAt_X4_thrownFile : GoodIn wsX4_claimAt wsX4_thrownFile := goodIn_ca (goodIn_ca (goodIn_r _ [38, 39, 40, 3, 4, 5, 6, 7, 8, 9, 10, 11, 12, 13, 14, 15, 16, 17, 18, 19, 20, 21, 22, 23, 24, 25, 26, 27, 28, 29, 30, 31, 32, 33, 34, 41, 42, 43, 44, 45, 46, 60, 61, 62, 63, 64, 65, 66, 67, 54, 55, 56, 57, 58, 59] (by decide +kernel) (by decide +kernel)) (goodIn_sub (fun _ h => List.mem_cons_of_mem _ (List.mem_append_right _ h)) (by decide +kernel))) (goodIn_sub (fun _ h => List.mem_cons_of_mem _ (List.mem_append_left _ (List.mem_append_right _ h))) (by decide +kernel))
set_option maxRecDepth 20000 in
theorem gX4_claimAt_X4_thrownFile : GoodIn wsX4_claimAt (wsV RX4 153 RX4 yX4_thrownFile wsX4_thrownFile) := goodIn_app (goodIn_of _ (by decide +kernel)) ggX4_claimAt_X4_thrownFile
set_option maxRecDepth 20000 in
theorem ggX4_claimAt_X0_at : GoodIn wsX4_claimAt wsX0_at := goodIn_r _ [51, 52, 53, 68, 69] (by decide +kernel) (by decide +kernel)
set_option maxRecDepth 20000 in
theorem gX4_claimAt_X0_at : GoodIn wsX4_claimAt (wsV RX4 104 RX0 yX0_at wsX0_at) := goodIn_app (goodIn_of _ (by decide +kernel)) ggX4_claimAt_X0_at
theorem dX4_claimAt_0 : decode cX4_claimAt 0 = .ok (.aload_n 0, 1) := by decide +kernel
theorem dX4_claimAt_1 : decode cX4_claimAt 1 = .ok (.iload_n 1, 1) := by decide +kernel
theorem dX4_claimAt_2 : decode cX4_claimAt 2 = .ok (.invokevirtual 143, 3) := by decide +kernel
theorem dX4_claimAt_5 : decode cX4_claimAt 5 = .ok (.pop, 1) := by decide +kernel
theorem dX4_claimAt_6 : decode cX4_claimAt 6 = .ok (.iload_n 2, 1) := by decide +kernel
theorem dX4_claimAt_7 : decode cX4_claimAt 7 = .ok (.ifCond .lt 9, 3) := by decide +kernel
theorem dX4_claimAt_10 : decode cX4_claimAt 10 = .ok (.iload_n 2, 1) := by decide +kernel
theorem dX4_claimAt_11 : decode cX4_claimAt 11 = .ok (.bipush 8, 2) := by decide +kernel
theorem dX4_claimAt_13 : decode cX4_claimAt 13 = .ok (.if_icmp .lt 13, 3) := by decide +kernel
theorem dX4_claimAt_16 : decode cX4_claimAt 16 = .ok (.new 41, 3) := by decide +kernel
theorem dX4_claimAt_19 : decode cX4_claimAt 19 = .ok (.dup, 1) := by decide +kernel
theorem dX4_claimAt_20 : decode cX4_claimAt 20 = .ok (.ldc 159, 2) := by decide +kernel
theorem dX4_claimAt_22 : decode cX4_claimAt 22 = .ok (.invokespecial 45, 3) := by decide +kernel
theorem dX4_claimAt_25 : decode cX4_claimAt 25 = .ok (.athrow, 1) := by decide +kernel
theorem dX4_claimAt_26 : decode cX4_claimAt 26 = .ok (.aload_n 0, 1) := by decide +kernel
theorem dX4_claimAt_27 : decode cX4_claimAt 27 = .ok (.iload_n 1, 1) := by decide +kernel
theorem dX4_claimAt_28 : decode cX4_claimAt 28 = .ok (.invokevirtual 153, 3) := by decide +kernel
theorem dX4_claimAt_31 : decode cX4_claimAt 31 = .ok (.getfield 156, 3) := by decide +kernel
theorem dX4_claimAt_34 : decode cX4_claimAt 34 = .ok (.iload_n 2, 1) := by decide +kernel
theorem dX4_claimAt_35 : decode cX4_claimAt 35 = .ok (.invokevirtual 104, 3) := by decide +kernel
theorem dX4_claimAt_38 : decode cX4_claimAt 38 = .ok (.ireturn, 1) := by decide +kernel
set_option maxRecDepth 20000 in
theorem ggX4_confidence_X4_thrownFile : GoodIn wsX4_confidence wsX4_thrownFile := goodIn_ca (goodIn_ca (goodIn_r _ [5, 6, 7, 8, 9, 10, 4, 11, 12, 13, 14, 15, 16, 17, 18, 19, 20, 21, 22, 23, 24, 25, 26, 27, 28, 29, 30, 31, 32, 33, 34, 35, 36, 37, 38, 39, 40, 41, 42, 43, 44, 51, 52, 53, 54, 55, 56, 57, 58, 45, 46, 47, 48, 49, 50] (by decide +kernel) (by decide +kernel)) (goodIn_sub (fun _ h => List.mem_cons_of_mem _ (List.mem_append_left _ (List.mem_append_right _ h))) (by decide +kernel))) (goodIn_sub (fun _ h => List.mem_cons_of_mem _ (List.mem_append_right _ h)) (by decide +kernel))
set_option maxRecDepth 20000 in
theorem gX4_confidence_X4_thrownFile : GoodIn wsX4_confidence (wsV RX4 153 RX4 yX4_thrownFile wsX4_thrownFile) := goodIn_app (goodIn_of _ (by decide +kernel)) ggX4_confidence_X4_thrownFile
theorem dX4_confidence_0 : decode cX4_confidence 0 = .ok (.aload_n 0, 1) := by decide +kernel
theorem dX4_confidence_1 : decode cX4_confidence 1 = .ok (.iload_n 1, 1) := by decide +kernel
theorem dX4_confidence_2 : decode cX4_confidence 2 = .ok (.invokevirtual 153, 3) := by decide +kernel
theorem dX4_confidence_5 : decode cX4_confidence 5 = .ok (.getfield 161, 3) := by decide +kernel
theorem dX4_confidence_8 : decode cX4_confidence 8 = .ok (.ireturn, 1) := by decide +kernel
set_option maxRecDepth 20000 in
theorem ggX4_ownerOf_X4_requireCluster : GoodIn wsX4_ownerOf wsX4_requireCluster := goodIn_ca (goodIn_r _ [4, 5, 6] (by decide +kernel) (by decide +kernel)) (goodIn_sub (fun _ h => List.mem_cons_of_mem _ (List.mem_append_right _ h)) (by decide +kernel))
set_option maxRecDepth 20000 in
theorem gX4_ownerOf_X4_requireCluster : GoodIn wsX4_ownerOf (va_wsS RX4 131 yX4_requireCluster wsX4_requireCluster) := goodIn_app (goodIn_of _ (by decide +kernel)) ggX4_ownerOf_X4_requireCluster
set_option maxRecDepth 20000 in
theorem ggX4_ownerOf_X4_strongestClaimant : GoodIn wsX4_ownerOf wsX4_strongestClaimant := goodIn_r _ [10, 11, 12, 13, 14, 15, 16, 17, 18, 19, 20, 21, 22, 23, 24, 25, 26, 27, 28, 29, 30, 31, 32, 33, 34, 35, 36, 37, 38, 39, 40, 41, 42, 43, 44, 45, 46, 47, 48, 49, 50, 51, 52, 53, 54, 55, 56, 57, 58, 59, 60, 61, 62, 63, 64, 65, 66, 67, 68] (by decide +kernel) (by decide +kernel)
set_option maxRecDepth 20000 in
theorem gX4_ownerOf_X4_strongestClaimant : GoodIn wsX4_ownerOf (wsV RX4 164 RX4 yX4_strongestClaimant wsX4_strongestClaimant) := goodIn_app (goodIn_of _ (by decide +kernel)) ggX4_ownerOf_X4_strongestClaimant
theorem dX4_ownerOf_0 : decode cX4_ownerOf 0 = .ok (.iload_n 1, 1) := by decide +kernel
theorem dX4_ownerOf_1 : decode cX4_ownerOf 1 = .ok (.invokestatic 131, 3) := by decide +kernel
theorem dX4_ownerOf_4 : decode cX4_ownerOf 4 = .ok (.aload_n 0, 1) := by decide +kernel
theorem dX4_ownerOf_5 : decode cX4_ownerOf 5 = .ok (.iload_n 1, 1) := by decide +kernel
theorem dX4_ownerOf_6 : decode cX4_ownerOf 6 = .ok (.invokevirtual 164, 3) := by decide +kernel
theorem dX4_ownerOf_9 : decode cX4_ownerOf 9 = .ok (.ireturn, 1) := by decide +kernel
set_option maxRecDepth 20000 in
theorem ggX4_owned_X4_thrownFile : GoodIn wsX4_owned wsX4_thrownFile := goodIn_ca (goodIn_ca (goodIn_r _ [5, 6, 7, 8, 9, 10, 4, 11, 12, 13, 14, 15, 16, 17, 18, 19, 20, 21, 22, 23, 24, 25, 26, 27, 28, 29, 30, 31, 32, 33, 34, 35, 36, 37, 38, 39, 40, 41, 42, 43, 44, 69, 70, 71, 72, 73, 74, 75, 76, 61, 62, 63, 64, 65, 66] (by decide +kernel) (by decide +kernel)) (goodIn_sub (fun _ h => List.mem_cons_of_mem _ (List.mem_append_left _ (List.mem_append_right _ h))) (by decide +kernel))) (goodIn_sub (fun _ h => List.mem_cons_of_mem _ (List.mem_append_right _ h)) (by decide +kernel))
set_option maxRecDepth 20000 in
theorem gX4_owned_X4_thrownFile : GoodIn wsX4_owned (wsV RX4 153 RX4 yX4_thrownFile wsX4_thrownFile) := goodIn_app (goodIn_of _ (by decide +kernel)) ggX4_owned_X4_thrownFile
set_option maxRecDepth 20000 in
theorem ggX4_owned_X0_at : GoodIn wsX4_owned wsX0_at := goodIn_r _ [49, 50, 51, 67, 68] (by decide +kernel) (by decide +kernel)
set_option maxRecDepth 20000 in
theorem gX4_owned_X0_at : GoodIn wsX4_owned (wsV RX4 104 RX0 yX0_at wsX0_at) := goodIn_app (goodIn_of _ (by decide +kernel)) ggX4_owned_X0_at
set_option maxRecDepth 20000 in
theorem ggX4_owned_X4_strongestClaimant : GoodIn wsX4_owned wsX4_strongestClaimant := goodIn_r _ [55, 14, 15, 16, 17, 18, 19, 20, 21, 22, 23, 24, 25, 26, 27, 28, 29, 30, 31, 32, 33, 34, 35, 36, 37, 38, 39, 40, 41, 42, 43, 44, 56, 57, 58, 48, 59, 50, 60, 46, 47, 49, 51, 69, 70, 71, 72, 73, 61, 62, 63, 64, 65, 66, 74, 75, 76, 67, 68] (by decide +kernel) (by decide +kernel)
set_option maxRecDepth 20000 in
theorem gX4_owned_X4_strongestClaimant : GoodIn wsX4_owned (wsV RX4 164 RX4 yX4_strongestClaimant wsX4_strongestClaimant) := goodIn_app (goodIn_of _ (by decide +kernel)) ggX4_owned_X4_strongestClaimant
theorem dX4_owned_0 : decode cX4_owned 0 = .ok (.aload_n 0, 1) := by decide +kernel
theorem dX4_owned_1 : decode cX4_owned 1 = .ok (.iload_n 1, 1) := by decide +kernel
theorem dX4_owned_2 : decode cX4_owned 2 = .ok (.invokevirtual 153, 3) := by decide +kernel
theorem dX4_owned_5 : decode cX4_owned 5 = .ok (.getfield 156, 3) := by decide +kernel
theorem dX4_owned_8 : decode cX4_owned 8 = .ok (.astore_n 2, 1) := by decide +kernel
theorem dX4_owned_9 : decode cX4_owned 9 = .ok (.iconst 0, 1) := by decide +kernel
theorem dX4_owned_10 : decode cX4_owned 10 = .ok (.istore_n 3, 1) := by decide +kernel
theorem dX4_owned_11 : decode cX4_owned 11 = .ok (.iconst 0, 1) := by decide +kernel
theorem dX4_owned_12 : decode cX4_owned 12 = .ok (.istore 4, 2) := by decide +kernel
theorem dX4_owned_14 : decode cX4_owned 14 = .ok (.iload 4, 2) := by decide +kernel
theorem dX4_owned_16 : decode cX4_owned 16 = .ok (.aload_n 2, 1) := by decide +kernel
theorem dX4_owned_17 : decode cX4_owned 17 = .ok (.getfield 98, 3) := by decide +kernel
theorem dX4_owned_20 : decode cX4_owned 20 = .ok (.if_icmp .ge 26, 3) := by decide +kernel
theorem dX4_owned_23 : decode cX4_owned 23 = .ok (.aload_n 0, 1) := by decide +kernel
theorem dX4_owned_24 : decode cX4_owned 24 = .ok (.aload_n 2, 1) := by decide +kernel
theorem dX4_owned_25 : decode cX4_owned 25 = .ok (.iload 4, 2) := by decide +kernel
theorem dX4_owned_27 : decode cX4_owned 27 = .ok (.invokevirtual 104, 3) := by decide +kernel
theorem dX4_owned_30 : decode cX4_owned 30 = .ok (.invokevirtual 164, 3) := by decide +kernel
theorem dX4_owned_33 : decode cX4_owned 33 = .ok (.iload_n 1, 1) := by decide +kernel
theorem dX4_owned_34 : decode cX4_owned 34 = .ok (.if_icmp .ne 6, 3) := by decide +kernel
theorem dX4_owned_37 : decode cX4_owned 37 = .ok (.iinc 3 1, 3) := by decide +kernel
theorem dX4_owned_40 : decode cX4_owned 40 = .ok (.iinc 4 1, 3) := by decide +kernel
theorem dX4_owned_43 : decode cX4_owned 43 = .ok (.goto (-29), 3) := by decide +kernel
theorem dX4_owned_46 : decode cX4_owned 46 = .ok (.iload_n 3, 1) := by decide +kernel
theorem dX4_owned_47 : decode cX4_owned 47 = .ok (.ireturn, 1) := by decide +kernel
set_option maxRecDepth 20000 in
theorem ggX4_sure_Jx4a65c_size_8abf5 : GoodIn wsX4_sure wsJx4a65c_size_8abf5 := goodIn_r _ [7, 8, 43, 44, 45] (by decide +kernel) (by decide +kernel)
set_option maxRecDepth 20000 in
theorem gX4_sure_Jx4a65c_size_8abf5 : GoodIn wsX4_sure (wsV RX4 50 RJx4a65c yJx4a65c_size_8abf5 wsJx4a65c_size_8abf5) := goodIn_app (goodIn_of _ (by decide +kernel)) ggX4_sure_Jx4a65c_size_8abf5
set_option maxRecDepth 20000 in
theorem ggX4_sure_Jx4a65c_get_915e3 : GoodIn wsX4_sure wsJx4a65c_get_915e3 := goodIn_r _ [12, 8, 13, 14, 15, 16, 17, 18, 19, 20, 21, 22, 23, 6, 24, 25, 43, 44, 45] (by decide +kernel) (by decide +kernel)
set_option maxRecDepth 20000 in
theorem gX4_sure_Jx4a65c_get_915e3 : GoodIn wsX4_sure (wsV RX4 167 RJx4a65c yJx4a65c_get_915e3 wsJx4a65c_get_915e3) := goodIn_app (goodIn_of _ (by decide +kernel)) ggX4_sure_Jx4a65c_get_915e3
set_option maxRecDepth 20000 in
theorem ggX4_sure_X2_isThrown : GoodIn wsX4_sure wsX2_isThrown := goodIn_r _ [30, 31, 37, 38, 39, 40, 41, 42] (by decide +kernel) (by decide +kernel)
set_option maxRecDepth 20000 in
theorem gX4_sure_X2_isThrown : GoodIn wsX4_sure (wsV RX4 149 RX2 yX2_isThrown wsX2_isThrown) := goodIn_app (goodIn_of _ (by decide +kernel)) ggX4_sure_X2_isThrown
theorem dX4_sure_0 : decode cX4_sure 0 = .ok (.iconst 0, 1) := by decide +kernel
theorem dX4_sure_1 : decode cX4_sure 1 = .ok (.istore_n 1, 1) := by decide +kernel
theorem dX4_sure_2 : decode cX4_sure 2 = .ok (.iconst 0, 1) := by decide +kernel
theorem dX4_sure_3 : decode cX4_sure 3 = .ok (.istore_n 2, 1) := by decide +kernel
theorem dX4_sure_4 : decode cX4_sure 4 = .ok (.iload_n 2, 1) := by decide +kernel
theorem dX4_sure_5 : decode cX4_sure 5 = .ok (.aload_n 0, 1) := by decide +kernel
theorem dX4_sure_6 : decode cX4_sure 6 = .ok (.getfield 19, 3) := by decide +kernel
theorem dX4_sure_9 : decode cX4_sure 9 = .ok (.invokevirtual 50, 3) := by decide +kernel
theorem dX4_sure_12 : decode cX4_sure 12 = .ok (.if_icmp .ge 39, 3) := by decide +kernel
theorem dX4_sure_15 : decode cX4_sure 15 = .ok (.aload_n 0, 1) := by decide +kernel
theorem dX4_sure_16 : decode cX4_sure 16 = .ok (.getfield 19, 3) := by decide +kernel
theorem dX4_sure_19 : decode cX4_sure 19 = .ok (.iload_n 2, 1) := by decide +kernel
theorem dX4_sure_20 : decode cX4_sure 20 = .ok (.invokevirtual 167, 3) := by decide +kernel
theorem dX4_sure_23 : decode cX4_sure 23 = .ok (.checkcast 64, 3) := by decide +kernel
theorem dX4_sure_26 : decode cX4_sure 26 = .ok (.astore_n 3, 1) := by decide +kernel
theorem dX4_sure_27 : decode cX4_sure 27 = .ok (.aload_n 3, 1) := by decide +kernel
theorem dX4_sure_28 : decode cX4_sure 28 = .ok (.invokevirtual 149, 3) := by decide +kernel
theorem dX4_sure_31 : decode cX4_sure 31 = .ok (.ifCond .eq 14, 3) := by decide +kernel
theorem dX4_sure_34 : decode cX4_sure 34 = .ok (.aload_n 3, 1) := by decide +kernel
theorem dX4_sure_35 : decode cX4_sure 35 = .ok (.getfield 161, 3) := by decide +kernel
theorem dX4_sure_38 : decode cX4_sure 38 = .ok (.iconst 3, 1) := by decide +kernel
theorem dX4_sure_39 : decode cX4_sure 39 = .ok (.if_icmp .ne 6, 3) := by decide +kernel
theorem dX4_sure_42 : decode cX4_sure 42 = .ok (.iinc 1 1, 3) := by decide +kernel
theorem dX4_sure_45 : decode cX4_sure 45 = .ok (.iinc 2 1, 3) := by decide +kernel
theorem dX4_sure_48 : decode cX4_sure 48 = .ok (.goto (-44), 3) := by decide +kernel
theorem dX4_sure_51 : decode cX4_sure 51 = .ok (.iload_n 1, 1) := by decide +kernel
theorem dX4_sure_52 : decode cX4_sure 52 = .ok (.ireturn, 1) := by decide +kernel
set_option maxRecDepth 20000 in
theorem ggX4_hasJoin_X4_thrownFile : GoodIn wsX4_hasJoin wsX4_thrownFile := goodIn_ca (goodIn_ca (goodIn_r _ [7, 8, 9, 10, 11, 12, 6, 13, 14, 15, 16, 17, 18, 19, 20, 21, 22, 23, 24, 25, 26, 27, 28, 29, 30, 31, 32, 33, 34, 35, 36, 37, 38, 39, 40, 41, 42, 43, 44, 45, 46, 90, 91, 92, 93, 94, 95, 96, 97, 98, 99, 100, 101, 102, 103] (by decide +kernel) (by decide +kernel)) (goodIn_sub (fun _ h => List.mem_cons_of_mem _ (List.mem_append_left _ (List.mem_append_right _ h))) (by decide +kernel))) (goodIn_sub (fun _ h => List.mem_cons_of_mem _ (List.mem_append_right _ h)) (by decide +kernel))
set_option maxRecDepth 20000 in
theorem gX4_hasJoin_X4_thrownFile : GoodIn wsX4_hasJoin (wsV RX4 153 RX4 yX4_thrownFile wsX4_thrownFile) := goodIn_app (goodIn_of _ (by decide +kernel)) ggX4_hasJoin_X4_thrownFile
set_option maxRecDepth 20000 in
theorem ggX4_hasJoin_X3_find : GoodIn wsX4_hasJoin wsX3_find := goodIn_r _ [51, 52, 53, 54, 55, 56, 57, 58, 59, 60, 61, 62, 63, 64, 65, 66, 67, 68, 69, 70, 50, 71, 72, 73, 74, 75, 76, 77, 78, 79, 80, 81, 82, 83, 84, 85, 86, 87, 88, 89, 98, 99, 100, 101, 102, 103, 104, 105, 106, 107, 108, 109, 110, 111, 112, 113, 114, 115] (by decide +kernel) (by decide +kernel)
set_option maxRecDepth 20000 in
theorem gX4_hasJoin_X3_find : GoodIn wsX4_hasJoin (wsV RX4 171 RX3 yX3_find wsX3_find) := goodIn_app (goodIn_of _ (by decide +kernel)) ggX4_hasJoin_X3_find
theorem dX4_hasJoin_0 : decode cX4_hasJoin 0 = .ok (.aload_n 0, 1) := by decide +kernel
theorem dX4_hasJoin_1 : decode cX4_hasJoin 1 = .ok (.getfield 26, 3) := by decide +kernel
theorem dX4_hasJoin_4 : decode cX4_hasJoin 4 = .ok (.aload_n 0, 1) := by decide +kernel
theorem dX4_hasJoin_5 : decode cX4_hasJoin 5 = .ok (.getfield 10, 3) := by decide +kernel
theorem dX4_hasJoin_8 : decode cX4_hasJoin 8 = .ok (.aload_n 0, 1) := by decide +kernel
theorem dX4_hasJoin_9 : decode cX4_hasJoin 9 = .ok (.iload_n 1, 1) := by decide +kernel
theorem dX4_hasJoin_10 : decode cX4_hasJoin 10 = .ok (.invokevirtual 153, 3) := by decide +kernel
theorem dX4_hasJoin_13 : decode cX4_hasJoin 13 = .ok (.invokevirtual 171, 3) := by decide +kernel
theorem dX4_hasJoin_16 : decode cX4_hasJoin 16 = .ok (.ireturn, 1) := by decide +kernel
set_option maxRecDepth 20000 in
theorem ggX4_joinAt_X4_knownFile : GoodIn wsX4_joinAt wsX4_knownFile := goodIn_ca (goodIn_r _ [9, 10, 11, 12, 13, 14, 15, 16, 17, 18, 19, 20, 21, 22, 23, 24, 25, 26, 27, 28, 29, 30, 31, 32, 33, 34, 35, 36, 99, 100, 101, 102, 103, 104, 105, 106] (by decide +kernel) (by decide +kernel)) (goodIn_sub (fun _ h => List.mem_cons_of_mem _ (List.mem_append_left _ (List.mem_append_right _ h))) (by decide +kernel))
set_option maxRecDepth 20000 in
theorem gX4_joinAt_X4_knownFile : GoodIn wsX4_joinAt (wsV RX4 143 RX4 yX4_knownFile wsX4_knownFile) := goodIn_app (goodIn_of _ (by decide +kernel)) ggX4_joinAt_X4_knownFile
set_option maxRecDepth 20000 in
theorem ggX4_joinAt_X4_requirePlaceInChain : GoodIn wsX4_joinAt wsX4_requirePlaceInChain := goodIn_ca (goodIn_r _ [39, 40, 41, 107, 108, 109, 110, 111, 112, 113, 114] (by decide +kernel) (by decide +kernel)) (goodIn_sub (fun _ h => List.mem_cons_of_mem _ (List.mem_append_right _ h)) (by decide +kernel))
set_option maxRecDepth 20000 in
theorem gX4_joinAt_X4_requirePlaceInChain : GoodIn wsX4_joinAt (va_wsS RX4 146 yX4_requirePlaceInChain wsX4_requirePlaceInChain) := goodIn_app (goodIn_of _ (by decide +kernel)) ggX4_joinAt_X4_requirePlaceInChain
set_option maxRecDepth 20000 in
theorem ggX4_joinAt_X4_thrownFile : GoodIn wsX4_joinAt wsX4_thrownFile := goodIn_ca (goodIn_ca (goodIn_r _ [45, 1, 2, 5, 6, 7, 8, 9, 10, 11, 12, 13, 14, 15, 16, 17, 18, 19, 20, 21, 22, 23, 24, 25, 26, 27, 28, 29, 30, 31, 32, 33, 34, 35, 36, 46, 47, 48, 49, 50, 51, 99, 100, 101, 102, 103, 104, 105, 106, 107, 108, 109, 110, 111, 112] (by decide +kernel) (by decide +kernel)) (goodIn_sub (fun _ h => List.mem_cons_of_mem _ (List.mem_append_left _ (List.mem_append_left _ (List.mem_append_right _ h)))) (by decide +kernel))) (goodIn_sub (fun _ h => List.mem_cons_of_mem _ (List.mem_append_left _ (List.mem_append_right _ h))) (by decide +kernel))
set_option maxRecDepth 20000 in
theorem gX4_joinAt_X4_thrownFile : GoodIn wsX4_joinAt (wsV RX4 153 RX4 yX4_thrownFile wsX4_thrownFile) := goodIn_app (goodIn_of _ (by decide +kernel)) ggX4_joinAt_X4_thrownFile
set_option maxRecDepth 20000 in
theorem ggX4_joinAt_X3_find : GoodIn wsX4_joinAt wsX3_find := goodIn_r _ [56, 57, 58, 59, 60, 61, 62, 63, 64, 65, 66, 67, 68, 69, 70, 71, 72, 73, 74, 75, 55, 76, 77, 78, 79, 80, 81, 82, 83, 84, 85, 86, 87, 88, 89, 90, 91, 92, 93, 94, 107, 108, 109, 110, 111, 112, 113, 114, 115, 116, 117, 118, 119, 120, 121, 122, 123, 124] (by decide +kernel) (by decide +kernel)
set_option maxRecDepth 20000 in
theorem gX4_joinAt_X3_find : GoodIn wsX4_joinAt (wsV RX4 171 RX3 yX3_find wsX3_find) := goodIn_app (goodIn_of _ (by decide +kernel)) ggX4_joinAt_X3_find
set_option maxRecDepth 20000 in
theorem ggX4_joinAt_X3_clusterFoundAt : GoodIn wsX4_joinAt wsX3_clusterFoundAt := goodIn_r _ [98, 90, 115, 116, 117, 118, 119, 120, 121, 122] (by decide +kernel) (by decide +kernel)
set_option maxRecDepth 20000 in
theorem gX4_joinAt_X3_clusterFoundAt : GoodIn wsX4_joinAt (wsV RX4 177 RX3 yX3_clusterFoundAt wsX3_clusterFoundAt) := goodIn_app (goodIn_of _ (by decide +kernel)) ggX4_joinAt_X3_clusterFoundAt
theorem dX4_joinAt_0 : decode cX4_joinAt 0 = .ok (.aload_n 0, 1) := by decide +kernel
theorem dX4_joinAt_1 : decode cX4_joinAt 1 = .ok (.iload_n 1, 1) := by decide +kernel
theorem dX4_joinAt_2 : decode cX4_joinAt 2 = .ok (.invokevirtual 143, 3) := by decide +kernel
theorem dX4_joinAt_5 : decode cX4_joinAt 5 = .ok (.iload_n 2, 1) := by decide +kernel
theorem dX4_joinAt_6 : decode cX4_joinAt 6 = .ok (.invokestatic 146, 3) := by decide +kernel
theorem dX4_joinAt_9 : decode cX4_joinAt 9 = .ok (.aload_n 0, 1) := by decide +kernel
theorem dX4_joinAt_10 : decode cX4_joinAt 10 = .ok (.getfield 26, 3) := by decide +kernel
theorem dX4_joinAt_13 : decode cX4_joinAt 13 = .ok (.aload_n 0, 1) := by decide +kernel
theorem dX4_joinAt_14 : decode cX4_joinAt 14 = .ok (.getfield 10, 3) := by decide +kernel
theorem dX4_joinAt_17 : decode cX4_joinAt 17 = .ok (.aload_n 0, 1) := by decide +kernel
theorem dX4_joinAt_18 : decode cX4_joinAt 18 = .ok (.iload_n 1, 1) := by decide +kernel
theorem dX4_joinAt_19 : decode cX4_joinAt 19 = .ok (.invokevirtual 153, 3) := by decide +kernel
theorem dX4_joinAt_22 : decode cX4_joinAt 22 = .ok (.invokevirtual 171, 3) := by decide +kernel
theorem dX4_joinAt_25 : decode cX4_joinAt 25 = .ok (.ifCond .ne 13, 3) := by decide +kernel
theorem dX4_joinAt_28 : decode cX4_joinAt 28 = .ok (.new 54, 3) := by decide +kernel
theorem dX4_joinAt_31 : decode cX4_joinAt 31 = .ok (.dup, 1) := by decide +kernel
theorem dX4_joinAt_32 : decode cX4_joinAt 32 = .ok (.ldc 175, 2) := by decide +kernel
theorem dX4_joinAt_34 : decode cX4_joinAt 34 = .ok (.invokespecial 58, 3) := by decide +kernel
theorem dX4_joinAt_37 : decode cX4_joinAt 37 = .ok (.athrow, 1) := by decide +kernel
theorem dX4_joinAt_38 : decode cX4_joinAt 38 = .ok (.aload_n 0, 1) := by decide +kernel
theorem dX4_joinAt_39 : decode cX4_joinAt 39 = .ok (.getfield 26, 3) := by decide +kernel
theorem dX4_joinAt_42 : decode cX4_joinAt 42 = .ok (.iload_n 2, 1) := by decide +kernel
theorem dX4_joinAt_43 : decode cX4_joinAt 43 = .ok (.invokevirtual 177, 3) := by decide +kernel
theorem dX4_joinAt_46 : decode cX4_joinAt 46 = .ok (.ireturn, 1) := by decide +kernel
set_option maxRecDepth 20000 in
theorem ggX4_knownFile_Jx4a65c_size_8abf5 : GoodIn wsX4_knownFile wsJx4a65c_size_8abf5 := goodIn_r _ [9, 10, 33, 34, 35] (by decide +kernel) (by decide +kernel)
set_option maxRecDepth 20000 in
theorem gX4_knownFile_Jx4a65c_size_8abf5 : GoodIn wsX4_knownFile (wsV RX4 50 RJx4a65c yJx4a65c_size_8abf5 wsJx4a65c_size_8abf5) := goodIn_app (goodIn_of _ (by decide +kernel)) ggX4_knownFile_Jx4a65c_size_8abf5
set_option maxRecDepth 20000 in
theorem ggX4_knownFile_Jx4a65c_get_915e3 : GoodIn wsX4_knownFile wsJx4a65c_get_915e3 := goodIn_r _ [14, 10, 15, 16, 17, 18, 19, 20, 21, 22, 23, 24, 25, 8, 26, 27, 33, 34, 35] (by decide +kernel) (by decide +kernel)
set_option maxRecDepth 20000 in
theorem gX4_knownFile_Jx4a65c_get_915e3 : GoodIn wsX4_knownFile (wsV RX4 167 RJx4a65c yJx4a65c_get_915e3 wsJx4a65c_get_915e3) := goodIn_app (goodIn_of _ (by decide +kernel)) ggX4_knownFile_Jx4a65c_get_915e3
theorem dX4_knownFile_0 : decode cX4_knownFile 0 = .ok (.iload_n 1, 1) := by decide +kernel
theorem dX4_knownFile_1 : decode cX4_knownFile 1 = .ok (.ifCond .lt 14, 3) := by decide +kernel
theorem dX4_knownFile_4 : decode cX4_knownFile 4 = .ok (.iload_n 1, 1) := by decide +kernel
theorem dX4_knownFile_5 : decode cX4_knownFile 5 = .ok (.aload_n 0, 1) := by decide +kernel
theorem dX4_knownFile_6 : decode cX4_knownFile 6 = .ok (.getfield 19, 3) := by decide +kernel
theorem dX4_knownFile_9 : decode cX4_knownFile 9 = .ok (.invokevirtual 50, 3) := by decide +kernel
theorem dX4_knownFile_12 : decode cX4_knownFile 12 = .ok (.if_icmp .lt 13, 3) := by decide +kernel
theorem dX4_knownFile_15 : decode cX4_knownFile 15 = .ok (.new 180, 3) := by decide +kernel
theorem dX4_knownFile_18 : decode cX4_knownFile 18 = .ok (.dup, 1) := by decide +kernel
theorem dX4_knownFile_19 : decode cX4_knownFile 19 = .ok (.ldc 182, 2) := by decide +kernel
theorem dX4_knownFile_21 : decode cX4_knownFile 21 = .ok (.invokespecial 184, 3) := by decide +kernel
theorem dX4_knownFile_24 : decode cX4_knownFile 24 = .ok (.athrow, 1) := by decide +kernel
theorem dX4_knownFile_25 : decode cX4_knownFile 25 = .ok (.aload_n 0, 1) := by decide +kernel
theorem dX4_knownFile_26 : decode cX4_knownFile 26 = .ok (.getfield 19, 3) := by decide +kernel
theorem dX4_knownFile_29 : decode cX4_knownFile 29 = .ok (.iload_n 1, 1) := by decide +kernel
theorem dX4_knownFile_30 : decode cX4_knownFile 30 = .ok (.invokevirtual 167, 3) := by decide +kernel
theorem dX4_knownFile_33 : decode cX4_knownFile 33 = .ok (.checkcast 64, 3) := by decide +kernel
theorem dX4_knownFile_36 : decode cX4_knownFile 36 = .ok (.areturn, 1) := by decide +kernel
set_option maxRecDepth 20000 in
theorem ggX4_livingFile_X4_knownFile : GoodIn wsX4_livingFile wsX4_knownFile := goodIn_ca (goodIn_r _ [7, 8, 9, 10, 11, 12, 13, 14, 15, 16, 17, 18, 19, 20, 21, 22, 23, 24, 25, 26, 27, 28, 29, 30, 31, 32, 33, 34, 41, 42, 43, 44, 45, 46, 47, 48] (by decide +kernel) (by decide +kernel)) (goodIn_sub (fun _ h => List.mem_cons_of_mem _ (List.mem_append_right _ h)) (by decide +kernel))
set_option maxRecDepth 20000 in
theorem gX4_livingFile_X4_knownFile : GoodIn wsX4_livingFile (wsV RX4 143 RX4 yX4_knownFile wsX4_knownFile) := goodIn_app (goodIn_of _ (by decide +kernel)) ggX4_livingFile_X4_knownFile
set_option maxRecDepth 20000 in
theorem ggX4_livingFile_X2_isThrown : GoodIn wsX4_livingFile wsX2_isThrown := goodIn_r _ [39, 40, 49, 50, 51, 52, 53, 54] (by decide +kernel) (by decide +kernel)
set_option maxRecDepth 20000 in
theorem gX4_livingFile_X2_isThrown : GoodIn wsX4_livingFile (wsV RX4 149 RX2 yX2_isThrown wsX2_isThrown) := goodIn_app (goodIn_of _ (by decide +kernel)) ggX4_livingFile_X2_isThrown
theorem dX4_livingFile_0 : decode cX4_livingFile 0 = .ok (.aload_n 0, 1) := by decide +kernel
theorem dX4_livingFile_1 : decode cX4_livingFile 1 = .ok (.iload_n 1, 1) := by decide +kernel
theorem dX4_livingFile_2 : decode cX4_livingFile 2 = .ok (.invokevirtual 143, 3) := by decide +kernel
theorem dX4_livingFile_5 : decode cX4_livingFile 5 = .ok (.astore_n 2, 1) := by decide +kernel
theorem dX4_livingFile_6 : decode cX4_livingFile 6 = .ok (.aload_n 2, 1) := by decide +kernel
theorem dX4_livingFile_7 : decode cX4_livingFile 7 = .ok (.invokevirtual 149, 3) := by decide +kernel
theorem dX4_livingFile_10 : decode cX4_livingFile 10 = .ok (.ifCond .eq 13, 3) := by decide +kernel
theorem dX4_livingFile_13 : decode cX4_livingFile 13 = .ok (.new 54, 3) := by decide +kernel
theorem dX4_livingFile_16 : decode cX4_livingFile 16 = .ok (.dup, 1) := by decide +kernel
theorem dX4_livingFile_17 : decode cX4_livingFile 17 = .ok (.ldc 185, 2) := by decide +kernel
theorem dX4_livingFile_19 : decode cX4_livingFile 19 = .ok (.invokespecial 58, 3) := by decide +kernel
theorem dX4_livingFile_22 : decode cX4_livingFile 22 = .ok (.athrow, 1) := by decide +kernel
theorem dX4_livingFile_23 : decode cX4_livingFile 23 = .ok (.aload_n 2, 1) := by decide +kernel
theorem dX4_livingFile_24 : decode cX4_livingFile 24 = .ok (.areturn, 1) := by decide +kernel
set_option maxRecDepth 20000 in
theorem ggX4_thrownFile_X4_knownFile : GoodIn wsX4_thrownFile wsX4_knownFile := goodIn_ca (goodIn_r _ [7, 8, 9, 10, 11, 12, 13, 14, 15, 16, 17, 18, 19, 20, 21, 22, 23, 24, 25, 26, 27, 28, 29, 30, 31, 32, 33, 34, 41, 42, 43, 44, 45, 46, 47, 48] (by decide +kernel) (by decide +kernel)) (goodIn_sub (fun _ h => List.mem_cons_of_mem _ (List.mem_append_right _ h)) (by decide +kernel))
set_option maxRecDepth 20000 in
theorem gX4_thrownFile_X4_knownFile : GoodIn wsX4_thrownFile (wsV RX4 143 RX4 yX4_knownFile wsX4_knownFile) := goodIn_app (goodIn_of _ (by decide +kernel)) ggX4_thrownFile_X4_knownFile
set_option maxRecDepth 20000 in
theorem ggX4_thrownFile_X2_isThrown : GoodIn wsX4_thrownFile wsX2_isThrown := goodIn_r _ [39, 40, 49, 50, 51, 52, 53, 54] (by decide +kernel) (by decide +kernel)
set_option maxRecDepth 20000 in
theorem gX4_thrownFile_X2_isThrown : GoodIn wsX4_thrownFile (wsV RX4 149 RX2 yX2_isThrown wsX2_isThrown) := goodIn_app (goodIn_of _ (by decide +kernel)) ggX4_thrownFile_X2_isThrown
theorem dX4_thrownFile_0 : decode cX4_thrownFile 0 = .ok (.aload_n 0, 1) := by decide +kernel
theorem dX4_thrownFile_1 : decode cX4_thrownFile 1 = .ok (.iload_n 1, 1) := by decide +kernel
theorem dX4_thrownFile_2 : decode cX4_thrownFile 2 = .ok (.invokevirtual 143, 3) := by decide +kernel
theorem dX4_thrownFile_5 : decode cX4_thrownFile 5 = .ok (.astore_n 2, 1) := by decide +kernel
theorem dX4_thrownFile_6 : decode cX4_thrownFile 6 = .ok (.aload_n 2, 1) := by decide +kernel
theorem dX4_thrownFile_7 : decode cX4_thrownFile 7 = .ok (.invokevirtual 149, 3) := by decide +kernel
theorem dX4_thrownFile_10 : decode cX4_thrownFile 10 = .ok (.ifCond .ne 13, 3) := by decide +kernel
theorem dX4_thrownFile_13 : decode cX4_thrownFile 13 = .ok (.new 54, 3) := by decide +kernel
theorem dX4_thrownFile_16 : decode cX4_thrownFile 16 = .ok (.dup, 1) := by decide +kernel
theorem dX4_thrownFile_17 : decode cX4_thrownFile 17 = .ok (.ldc 187, 2) := by decide +kernel
theorem dX4_thrownFile_19 : decode cX4_thrownFile 19 = .ok (.invokespecial 58, 3) := by decide +kernel
theorem dX4_thrownFile_22 : decode cX4_thrownFile 22 = .ok (.athrow, 1) := by decide +kernel
theorem dX4_thrownFile_23 : decode cX4_thrownFile 23 = .ok (.aload_n 2, 1) := by decide +kernel
theorem dX4_thrownFile_24 : decode cX4_thrownFile 24 = .ok (.areturn, 1) := by decide +kernel
theorem dX4_requireCluster_0 : decode cX4_requireCluster 0 = .ok (.iload_n 0, 1) := by decide +kernel
theorem dX4_requireCluster_1 : decode cX4_requireCluster 1 = .ok (.ifCond .lt 9, 3) := by decide +kernel
theorem dX4_requireCluster_4 : decode cX4_requireCluster 4 = .ok (.iload_n 0, 1) := by decide +kernel
theorem dX4_requireCluster_5 : decode cX4_requireCluster 5 = .ok (.bipush 40, 2) := by decide +kernel
theorem dX4_requireCluster_7 : decode cX4_requireCluster 7 = .ok (.if_icmp .lt 13, 3) := by decide +kernel
theorem dX4_requireCluster_10 : decode cX4_requireCluster 10 = .ok (.new 180, 3) := by decide +kernel
theorem dX4_requireCluster_13 : decode cX4_requireCluster 13 = .ok (.dup, 1) := by decide +kernel
theorem dX4_requireCluster_14 : decode cX4_requireCluster 14 = .ok (.ldc 189, 2) := by decide +kernel
theorem dX4_requireCluster_16 : decode cX4_requireCluster 16 = .ok (.invokespecial 184, 3) := by decide +kernel
theorem dX4_requireCluster_19 : decode cX4_requireCluster 19 = .ok (.athrow, 1) := by decide +kernel
theorem dX4_requireCluster_20 : decode cX4_requireCluster 20 = .ok (.return_, 1) := by decide +kernel
theorem dX4_requirePlaceInChain_0 : decode cX4_requirePlaceInChain 0 = .ok (.iload_n 1, 1) := by decide +kernel
theorem dX4_requirePlaceInChain_1 : decode cX4_requirePlaceInChain 1 = .ok (.ifCond .lt 14, 3) := by decide +kernel
theorem dX4_requirePlaceInChain_4 : decode cX4_requirePlaceInChain 4 = .ok (.iload_n 1, 1) := by decide +kernel
theorem dX4_requirePlaceInChain_5 : decode cX4_requirePlaceInChain 5 = .ok (.aload_n 0, 1) := by decide +kernel
theorem dX4_requirePlaceInChain_6 : decode cX4_requirePlaceInChain 6 = .ok (.getfield 73, 3) := by decide +kernel
theorem dX4_requirePlaceInChain_9 : decode cX4_requirePlaceInChain 9 = .ok (.getfield 98, 3) := by decide +kernel
theorem dX4_requirePlaceInChain_12 : decode cX4_requirePlaceInChain 12 = .ok (.if_icmp .lt 13, 3) := by decide +kernel
theorem dX4_requirePlaceInChain_15 : decode cX4_requirePlaceInChain 15 = .ok (.new 41, 3) := by decide +kernel
theorem dX4_requirePlaceInChain_18 : decode cX4_requirePlaceInChain 18 = .ok (.dup, 1) := by decide +kernel
theorem dX4_requirePlaceInChain_19 : decode cX4_requirePlaceInChain 19 = .ok (.ldc 191, 2) := by decide +kernel
theorem dX4_requirePlaceInChain_21 : decode cX4_requirePlaceInChain 21 = .ok (.invokespecial 45, 3) := by decide +kernel
theorem dX4_requirePlaceInChain_24 : decode cX4_requirePlaceInChain 24 = .ok (.athrow, 1) := by decide +kernel
theorem dX4_requirePlaceInChain_25 : decode cX4_requirePlaceInChain 25 = .ok (.return_, 1) := by decide +kernel
theorem dX4_lastPlace_0 : decode cX4_lastPlace 0 = .ok (.aload_n 0, 1) := by decide +kernel
theorem dX4_lastPlace_1 : decode cX4_lastPlace 1 = .ok (.getfield 73, 3) := by decide +kernel
theorem dX4_lastPlace_4 : decode cX4_lastPlace 4 = .ok (.getfield 98, 3) := by decide +kernel
theorem dX4_lastPlace_7 : decode cX4_lastPlace 7 = .ok (.iconst 4, 1) := by decide +kernel
theorem dX4_lastPlace_8 : decode cX4_lastPlace 8 = .ok (.imul, 1) := by decide +kernel
theorem dX4_lastPlace_9 : decode cX4_lastPlace 9 = .ok (.iconst 1, 1) := by decide +kernel
theorem dX4_lastPlace_10 : decode cX4_lastPlace 10 = .ok (.isub, 1) := by decide +kernel
theorem dX4_lastPlace_11 : decode cX4_lastPlace 11 = .ok (.ireturn, 1) := by decide +kernel
set_option maxRecDepth 20000 in
theorem ggX4_takeClusters_X1_takeLowest : GoodIn wsX4_takeClusters wsX1_takeLowest := goodIn_r _ [6, 7, 20, 21] (by decide +kernel) (by decide +kernel)
set_option maxRecDepth 20000 in
theorem gX4_takeClusters_X1_takeLowest : GoodIn wsX4_takeClusters (wsV RX4 193 RX1 yX1_takeLowest wsX1_takeLowest) := goodIn_app (goodIn_of _ (by decide +kernel)) ggX4_takeClusters_X1_takeLowest
set_option maxRecDepth 20000 in
theorem ggX4_takeClusters_X0_add : GoodIn wsX4_takeClusters wsX0_add := goodIn_r _ [12, 13, 14, 22, 23] (by decide +kernel) (by decide +kernel)
set_option maxRecDepth 20000 in
theorem gX4_takeClusters_X0_add : GoodIn wsX4_takeClusters (wsV RX4 196 RX0 yX0_add wsX0_add) := goodIn_app (goodIn_of _ (by decide +kernel)) ggX4_takeClusters_X0_add
theorem dX4_takeClusters_0 : decode cX4_takeClusters 0 = .ok (.iconst 0, 1) := by decide +kernel
theorem dX4_takeClusters_1 : decode cX4_takeClusters 1 = .ok (.istore 4, 2) := by decide +kernel
theorem dX4_takeClusters_3 : decode cX4_takeClusters 3 = .ok (.iload 4, 2) := by decide +kernel
theorem dX4_takeClusters_5 : decode cX4_takeClusters 5 = .ok (.iload_n 2, 1) := by decide +kernel
theorem dX4_takeClusters_6 : decode cX4_takeClusters 6 = .ok (.if_icmp .ge 21, 3) := by decide +kernel
theorem dX4_takeClusters_9 : decode cX4_takeClusters 9 = .ok (.aload_n 1, 1) := by decide +kernel
theorem dX4_takeClusters_10 : decode cX4_takeClusters 10 = .ok (.aload_n 0, 1) := by decide +kernel
theorem dX4_takeClusters_11 : decode cX4_takeClusters 11 = .ok (.getfield 10, 3) := by decide +kernel
theorem dX4_takeClusters_14 : decode cX4_takeClusters 14 = .ok (.iload_n 3, 1) := by decide +kernel
theorem dX4_takeClusters_15 : decode cX4_takeClusters 15 = .ok (.invokevirtual 193, 3) := by decide +kernel
theorem dX4_takeClusters_18 : decode cX4_takeClusters 18 = .ok (.invokevirtual 196, 3) := by decide +kernel
theorem dX4_takeClusters_21 : decode cX4_takeClusters 21 = .ok (.iinc 4 1, 3) := by decide +kernel
theorem dX4_takeClusters_24 : decode cX4_takeClusters 24 = .ok (.goto (-21), 3) := by decide +kernel
theorem dX4_takeClusters_27 : decode cX4_takeClusters 27 = .ok (.return_, 1) := by decide +kernel
set_option maxRecDepth 20000 in
theorem ggX4_writeByRule_X4_lastPlace : GoodIn wsX4_writeByRule wsX4_lastPlace := goodIn_r _ [5, 30, 31, 32, 33, 34, 35, 36, 37] (by decide +kernel) (by decide +kernel)
set_option maxRecDepth 20000 in
theorem gX4_writeByRule_X4_lastPlace : GoodIn wsX4_writeByRule (va_wsS RX4 87 yX4_lastPlace wsX4_lastPlace) := goodIn_app (goodIn_of _ (by decide +kernel)) ggX4_writeByRule_X4_lastPlace
set_option maxRecDepth 20000 in
theorem ggX4_writeByRule_X2_numberByRule : GoodIn wsX4_writeByRule wsX2_numberByRule := goodIn_r _ [10, 11, 30, 31, 32, 33, 34, 35] (by decide +kernel) (by decide +kernel)
set_option maxRecDepth 20000 in
theorem gX4_writeByRule_X2_numberByRule : GoodIn wsX4_writeByRule (wsV RX4 198 RX2 yX2_numberByRule wsX2_numberByRule) := goodIn_app (goodIn_of _ (by decide +kernel)) ggX4_writeByRule_X2_numberByRule
set_option maxRecDepth 20000 in
theorem ggX4_writeByRule_X1_writeAlong : GoodIn wsX4_writeByRule wsX1_writeAlong := goodIn_r _ [16, 17, 18, 19, 20, 21, 22, 23, 24, 38, 39, 36, 37] (by decide +kernel) (by decide +kernel)
set_option maxRecDepth 20000 in
theorem gX4_writeByRule_X1_writeAlong : GoodIn wsX4_writeByRule (wsV RX4 84 RX1 yX1_writeAlong wsX1_writeAlong) := goodIn_app (goodIn_of _ (by decide +kernel)) ggX4_writeByRule_X1_writeAlong
theorem dX4_writeByRule_0 : decode cX4_writeByRule 0 = .ok (.iload_n 2, 1) := by decide +kernel
theorem dX4_writeByRule_1 : decode cX4_writeByRule 1 = .ok (.istore_n 3, 1) := by decide +kernel
theorem dX4_writeByRule_2 : decode cX4_writeByRule 2 = .ok (.iload_n 3, 1) := by decide +kernel
theorem dX4_writeByRule_3 : decode cX4_writeByRule 3 = .ok (.aload_n 1, 1) := by decide +kernel
theorem dX4_writeByRule_4 : decode cX4_writeByRule 4 = .ok (.invokestatic 87, 3) := by decide +kernel
theorem dX4_writeByRule_7 : decode cX4_writeByRule 7 = .ok (.if_icmp .gt 26, 3) := by decide +kernel
theorem dX4_writeByRule_10 : decode cX4_writeByRule 10 = .ok (.aload_n 0, 1) := by decide +kernel
theorem dX4_writeByRule_11 : decode cX4_writeByRule 11 = .ok (.getfield 10, 3) := by decide +kernel
theorem dX4_writeByRule_14 : decode cX4_writeByRule 14 = .ok (.aload_n 1, 1) := by decide +kernel
theorem dX4_writeByRule_15 : decode cX4_writeByRule 15 = .ok (.getfield 73, 3) := by decide +kernel
theorem dX4_writeByRule_18 : decode cX4_writeByRule 18 = .ok (.iload_n 3, 1) := by decide +kernel
theorem dX4_writeByRule_19 : decode cX4_writeByRule 19 = .ok (.aload_n 1, 1) := by decide +kernel
theorem dX4_writeByRule_20 : decode cX4_writeByRule 20 = .ok (.iload_n 3, 1) := by decide +kernel
theorem dX4_writeByRule_21 : decode cX4_writeByRule 21 = .ok (.invokevirtual 198, 3) := by decide +kernel
theorem dX4_writeByRule_24 : decode cX4_writeByRule 24 = .ok (.invokevirtual 84, 3) := by decide +kernel
theorem dX4_writeByRule_27 : decode cX4_writeByRule 27 = .ok (.iinc 3 1, 3) := by decide +kernel
theorem dX4_writeByRule_30 : decode cX4_writeByRule 30 = .ok (.goto (-28), 3) := by decide +kernel
theorem dX4_writeByRule_33 : decode cX4_writeByRule 33 = .ok (.return_, 1) := by decide +kernel
set_option maxRecDepth 20000 in
theorem ggX4_readClaims_Jx4a65c_size_8abf5 : GoodIn wsX4_readClaims wsJx4a65c_size_8abf5 := goodIn_r _ [7, 8, 83, 84, 85] (by decide +kernel) (by decide +kernel)
set_option maxRecDepth 20000 in
theorem gX4_readClaims_Jx4a65c_size_8abf5 : GoodIn wsX4_readClaims (wsV RX4 50 RJx4a65c yJx4a65c_size_8abf5 wsJx4a65c_size_8abf5) := goodIn_app (goodIn_of _ (by decide +kernel)) ggX4_readClaims_Jx4a65c_size_8abf5
set_option maxRecDepth 20000 in
theorem ggX4_readClaims_Jx4a65c_get_915e3 : GoodIn wsX4_readClaims wsJx4a65c_get_915e3 := goodIn_r _ [12, 8, 13, 14, 15, 16, 17, 18, 19, 20, 21, 22, 23, 6, 24, 25, 83, 84, 85] (by decide +kernel) (by decide +kernel)
set_option maxRecDepth 20000 in
theorem gX4_readClaims_Jx4a65c_get_915e3 : GoodIn wsX4_readClaims (wsV RX4 167 RJx4a65c yJx4a65c_get_915e3 wsJx4a65c_get_915e3) := goodIn_app (goodIn_of _ (by decide +kernel)) ggX4_readClaims_Jx4a65c_get_915e3
set_option maxRecDepth 20000 in
theorem ggX4_readClaims_X2_isThrown : GoodIn wsX4_readClaims wsX2_isThrown := goodIn_r _ [30, 31, 86, 87, 88, 89, 90, 91] (by decide +kernel) (by decide +kernel)
set_option maxRecDepth 20000 in
theorem gX4_readClaims_X2_isThrown : GoodIn wsX4_readClaims (wsV RX4 149 RX2 yX2_isThrown wsX2_isThrown) := goodIn_app (goodIn_of _ (by decide +kernel)) ggX4_readClaims_X2_isThrown
set_option maxRecDepth 20000 in
theorem ggX4_readClaims_X4_readClaim : GoodIn wsX4_readClaims wsX4_readClaim := goodIn_r _ [36, 37, 38, 39, 40, 41, 42, 43, 44, 45, 46, 47, 48, 49, 50, 51, 52, 53, 54, 55, 56, 57, 58, 59, 60, 61, 35, 62, 63, 64, 65, 66, 67, 68, 69, 70, 71, 72, 73, 74, 75, 76, 77, 86, 87, 88, 89, 90, 91, 92, 93, 78, 79, 80, 81, 82, 94, 95] (by decide +kernel) (by decide +kernel)
set_option maxRecDepth 20000 in
theorem gX4_readClaims_X4_readClaim : GoodIn wsX4_readClaims (wsV RX4 201 RX4 yX4_readClaim wsX4_readClaim) := goodIn_app (goodIn_of _ (by decide +kernel)) ggX4_readClaims_X4_readClaim
theorem dX4_readClaims_0 : decode cX4_readClaims 0 = .ok (.iconst 0, 1) := by decide +kernel
theorem dX4_readClaims_1 : decode cX4_readClaims 1 = .ok (.istore_n 1, 1) := by decide +kernel
theorem dX4_readClaims_2 : decode cX4_readClaims 2 = .ok (.iload_n 1, 1) := by decide +kernel
theorem dX4_readClaims_3 : decode cX4_readClaims 3 = .ok (.aload_n 0, 1) := by decide +kernel
theorem dX4_readClaims_4 : decode cX4_readClaims 4 = .ok (.getfield 19, 3) := by decide +kernel
theorem dX4_readClaims_7 : decode cX4_readClaims 7 = .ok (.invokevirtual 50, 3) := by decide +kernel
theorem dX4_readClaims_10 : decode cX4_readClaims 10 = .ok (.if_icmp .ge 33, 3) := by decide +kernel
theorem dX4_readClaims_13 : decode cX4_readClaims 13 = .ok (.aload_n 0, 1) := by decide +kernel
theorem dX4_readClaims_14 : decode cX4_readClaims 14 = .ok (.getfield 19, 3) := by decide +kernel
theorem dX4_readClaims_17 : decode cX4_readClaims 17 = .ok (.iload_n 1, 1) := by decide +kernel
theorem dX4_readClaims_18 : decode cX4_readClaims 18 = .ok (.invokevirtual 167, 3) := by decide +kernel
theorem dX4_readClaims_21 : decode cX4_readClaims 21 = .ok (.checkcast 64, 3) := by decide +kernel
theorem dX4_readClaims_24 : decode cX4_readClaims 24 = .ok (.astore_n 2, 1) := by decide +kernel
theorem dX4_readClaims_25 : decode cX4_readClaims 25 = .ok (.aload_n 2, 1) := by decide +kernel
theorem dX4_readClaims_26 : decode cX4_readClaims 26 = .ok (.invokevirtual 149, 3) := by decide +kernel
theorem dX4_readClaims_29 : decode cX4_readClaims 29 = .ok (.ifCond .eq 8, 3) := by decide +kernel
theorem dX4_readClaims_32 : decode cX4_readClaims 32 = .ok (.aload_n 0, 1) := by decide +kernel
theorem dX4_readClaims_33 : decode cX4_readClaims 33 = .ok (.aload_n 2, 1) := by decide +kernel
theorem dX4_readClaims_34 : decode cX4_readClaims 34 = .ok (.invokevirtual 201, 3) := by decide +kernel
theorem dX4_readClaims_37 : decode cX4_readClaims 37 = .ok (.iinc 1 1, 3) := by decide +kernel
theorem dX4_readClaims_40 : decode cX4_readClaims 40 = .ok (.goto (-38), 3) := by decide +kernel
theorem dX4_readClaims_43 : decode cX4_readClaims 43 = .ok (.return_, 1) := by decide +kernel
set_option maxRecDepth 20000 in
theorem ggX4_readClaim_X0_at : GoodIn wsX4_readClaim wsX0_at := goodIn_r _ [6, 7, 8, 49, 50] (by decide +kernel) (by decide +kernel)
set_option maxRecDepth 20000 in
theorem gX4_readClaim_X0_at : GoodIn wsX4_readClaim (wsV RX4 104 RX0 yX0_at wsX0_at) := goodIn_app (goodIn_of _ (by decide +kernel)) ggX4_readClaim_X0_at
set_option maxRecDepth 20000 in
theorem ggX4_readClaim_X0_clear : GoodIn wsX4_readClaim wsX0_clear := goodIn_r _ [12, 7, 49, 50] (by decide +kernel) (by decide +kernel)
set_option maxRecDepth 20000 in
theorem gX4_readClaim_X0_clear : GoodIn wsX4_readClaim (wsV RX4 110 RX0 yX0_clear wsX0_clear) := goodIn_app (goodIn_of _ (by decide +kernel)) ggX4_readClaim_X0_clear
set_option maxRecDepth 20000 in
theorem ggX4_readClaim_X1_isFree : GoodIn wsX4_readClaim wsX1_isFree := goodIn_r _ [17, 18, 56, 57] (by decide +kernel) (by decide +kernel)
set_option maxRecDepth 20000 in
theorem gX4_readClaim_X1_isFree : GoodIn wsX4_readClaim (wsV RX4 205 RX1 yX1_isFree wsX1_isFree) := goodIn_app (goodIn_of _ (by decide +kernel)) ggX4_readClaim_X1_isFree
set_option maxRecDepth 20000 in
theorem ggX4_readClaim_X0_add : GoodIn wsX4_readClaim wsX0_add := goodIn_r _ [22, 7, 8, 49, 50] (by decide +kernel) (by decide +kernel)
set_option maxRecDepth 20000 in
theorem gX4_readClaim_X0_add : GoodIn wsX4_readClaim (wsV RX4 196 RX0 yX0_add wsX0_add) := goodIn_app (goodIn_of _ (by decide +kernel)) ggX4_readClaim_X0_add
set_option maxRecDepth 20000 in
theorem ggX4_readClaim_X4_trustIn : GoodIn wsX4_readClaim wsX4_trustIn := goodIn_r _ [27, 1, 28, 29, 30, 16, 31, 32, 33, 34, 35, 36, 3, 4, 5, 6, 7, 8, 37, 38, 39, 40, 41, 42, 43, 44, 45, 46, 47, 48, 49, 50, 51, 52, 53, 54, 55, 56, 57] (by decide +kernel) (by decide +kernel)
set_option maxRecDepth 20000 in
theorem gX4_readClaim_X4_trustIn : GoodIn wsX4_readClaim (wsV RX4 209 RX4 yX4_trustIn wsX4_trustIn) := goodIn_app (goodIn_of _ (by decide +kernel)) ggX4_readClaim_X4_trustIn
theorem dX4_readClaim_0 : decode cX4_readClaim 0 = .ok (.aload_n 1, 1) := by decide +kernel
theorem dX4_readClaim_1 : decode cX4_readClaim 1 = .ok (.getfield 73, 3) := by decide +kernel
theorem dX4_readClaim_4 : decode cX4_readClaim 4 = .ok (.iconst 0, 1) := by decide +kernel
theorem dX4_readClaim_5 : decode cX4_readClaim 5 = .ok (.invokevirtual 104, 3) := by decide +kernel
theorem dX4_readClaim_8 : decode cX4_readClaim 8 = .ok (.istore_n 2, 1) := by decide +kernel
theorem dX4_readClaim_9 : decode cX4_readClaim 9 = .ok (.aload_n 1, 1) := by decide +kernel
theorem dX4_readClaim_10 : decode cX4_readClaim 10 = .ok (.getfield 73, 3) := by decide +kernel
theorem dX4_readClaim_13 : decode cX4_readClaim 13 = .ok (.getfield 98, 3) := by decide +kernel
theorem dX4_readClaim_16 : decode cX4_readClaim 16 = .ok (.istore_n 3, 1) := by decide +kernel
theorem dX4_readClaim_17 : decode cX4_readClaim 17 = .ok (.aload_n 1, 1) := by decide +kernel
theorem dX4_readClaim_18 : decode cX4_readClaim 18 = .ok (.getfield 156, 3) := by decide +kernel
theorem dX4_readClaim_21 : decode cX4_readClaim 21 = .ok (.invokevirtual 110, 3) := by decide +kernel
theorem dX4_readClaim_24 : decode cX4_readClaim 24 = .ok (.aload_n 0, 1) := by decide +kernel
theorem dX4_readClaim_25 : decode cX4_readClaim 25 = .ok (.getfield 10, 3) := by decide +kernel
theorem dX4_readClaim_28 : decode cX4_readClaim 28 = .ok (.iload_n 2, 1) := by decide +kernel
theorem dX4_readClaim_29 : decode cX4_readClaim 29 = .ok (.invokevirtual 205, 3) := by decide +kernel
theorem dX4_readClaim_32 : decode cX4_readClaim 32 = .ok (.ifCond .eq 51, 3) := by decide +kernel
theorem dX4_readClaim_35 : decode cX4_readClaim 35 = .ok (.iload_n 2, 1) := by decide +kernel
theorem dX4_readClaim_36 : decode cX4_readClaim 36 = .ok (.istore 4, 2) := by decide +kernel
theorem dX4_readClaim_38 : decode cX4_readClaim 38 = .ok (.iload 4, 2) := by decide +kernel
theorem dX4_readClaim_40 : decode cX4_readClaim 40 = .ok (.bipush 40, 2) := by decide +kernel
theorem dX4_readClaim_42 : decode cX4_readClaim 42 = .ok (.if_icmp .ge 41, 3) := by decide +kernel
theorem dX4_readClaim_45 : decode cX4_readClaim 45 = .ok (.aload_n 1, 1) := by decide +kernel
theorem dX4_readClaim_46 : decode cX4_readClaim 46 = .ok (.getfield 156, 3) := by decide +kernel
theorem dX4_readClaim_49 : decode cX4_readClaim 49 = .ok (.getfield 98, 3) := by decide +kernel
theorem dX4_readClaim_52 : decode cX4_readClaim 52 = .ok (.iload_n 3, 1) := by decide +kernel
theorem dX4_readClaim_53 : decode cX4_readClaim 53 = .ok (.if_icmp .ge 30, 3) := by decide +kernel
theorem dX4_readClaim_56 : decode cX4_readClaim 56 = .ok (.aload_n 0, 1) := by decide +kernel
theorem dX4_readClaim_57 : decode cX4_readClaim 57 = .ok (.getfield 10, 3) := by decide +kernel
theorem dX4_readClaim_60 : decode cX4_readClaim 60 = .ok (.iload 4, 2) := by decide +kernel
theorem dX4_readClaim_62 : decode cX4_readClaim 62 = .ok (.invokevirtual 205, 3) := by decide +kernel
theorem dX4_readClaim_65 : decode cX4_readClaim 65 = .ok (.ifCond .eq 12, 3) := by decide +kernel
theorem dX4_readClaim_68 : decode cX4_readClaim 68 = .ok (.aload_n 1, 1) := by decide +kernel
theorem dX4_readClaim_69 : decode cX4_readClaim 69 = .ok (.getfield 156, 3) := by decide +kernel
theorem dX4_readClaim_72 : decode cX4_readClaim 72 = .ok (.iload 4, 2) := by decide +kernel
theorem dX4_readClaim_74 : decode cX4_readClaim 74 = .ok (.invokevirtual 196, 3) := by decide +kernel
theorem dX4_readClaim_77 : decode cX4_readClaim 77 = .ok (.iinc 4 1, 3) := by decide +kernel
theorem dX4_readClaim_80 : decode cX4_readClaim 80 = .ok (.goto (-42), 3) := by decide +kernel
theorem dX4_readClaim_83 : decode cX4_readClaim 83 = .ok (.aload_n 1, 1) := by decide +kernel
theorem dX4_readClaim_84 : decode cX4_readClaim 84 = .ok (.aload_n 0, 1) := by decide +kernel
theorem dX4_readClaim_85 : decode cX4_readClaim 85 = .ok (.aload_n 1, 1) := by decide +kernel
theorem dX4_readClaim_86 : decode cX4_readClaim 86 = .ok (.invokevirtual 209, 3) := by decide +kernel
theorem dX4_readClaim_89 : decode cX4_readClaim 89 = .ok (.putfield 161, 3) := by decide +kernel
theorem dX4_readClaim_92 : decode cX4_readClaim 92 = .ok (.return_, 1) := by decide +kernel
set_option maxRecDepth 20000 in
theorem ggX4_trustIn_X1_sumOf : GoodIn wsX4_trustIn wsX1_sumOf := goodIn_r _ [6, 7, 8, 9, 5, 10, 11, 12, 13, 14, 15, 16, 17, 18, 19, 20, 21, 22, 30, 31, 37, 38] (by decide +kernel) (by decide +kernel)
set_option maxRecDepth 20000 in
theorem gX4_trustIn_X1_sumOf : GoodIn wsX4_trustIn (wsV RX4 121 RX1 yX1_sumOf wsX1_sumOf) := goodIn_app (goodIn_of _ (by decide +kernel)) ggX4_trustIn_X1_sumOf
set_option maxRecDepth 20000 in
theorem ggX4_trustIn_X1_readAlong : GoodIn wsX4_trustIn wsX1_readAlong := goodIn_r _ [10, 11, 12, 13, 14, 15, 16, 17, 18, 19, 20, 5, 21, 22, 30, 31, 37, 38] (by decide +kernel) (by decide +kernel)
set_option maxRecDepth 20000 in
theorem gX4_trustIn_X1_readAlong : GoodIn wsX4_trustIn (wsV RX4 113 RX1 yX1_readAlong wsX1_readAlong) := goodIn_app (goodIn_of _ (by decide +kernel)) ggX4_trustIn_X1_readAlong
theorem dX4_trustIn_0 : decode cX4_trustIn 0 = .ok (.aload_n 1, 1) := by decide +kernel
theorem dX4_trustIn_1 : decode cX4_trustIn 1 = .ok (.getfield 156, 3) := by decide +kernel
theorem dX4_trustIn_4 : decode cX4_trustIn 4 = .ok (.astore_n 2, 1) := by decide +kernel
theorem dX4_trustIn_5 : decode cX4_trustIn 5 = .ok (.aload_n 2, 1) := by decide +kernel
theorem dX4_trustIn_6 : decode cX4_trustIn 6 = .ok (.getfield 98, 3) := by decide +kernel
theorem dX4_trustIn_9 : decode cX4_trustIn 9 = .ok (.ifCond .ne 5, 3) := by decide +kernel
theorem dX4_trustIn_12 : decode cX4_trustIn 12 = .ok (.iconst 0, 1) := by decide +kernel
theorem dX4_trustIn_13 : decode cX4_trustIn 13 = .ok (.ireturn, 1) := by decide +kernel
theorem dX4_trustIn_14 : decode cX4_trustIn 14 = .ok (.aload_n 2, 1) := by decide +kernel
theorem dX4_trustIn_15 : decode cX4_trustIn 15 = .ok (.getfield 98, 3) := by decide +kernel
theorem dX4_trustIn_18 : decode cX4_trustIn 18 = .ok (.aload_n 1, 1) := by decide +kernel
theorem dX4_trustIn_19 : decode cX4_trustIn 19 = .ok (.getfield 73, 3) := by decide +kernel
theorem dX4_trustIn_22 : decode cX4_trustIn 22 = .ok (.getfield 98, 3) := by decide +kernel
theorem dX4_trustIn_25 : decode cX4_trustIn 25 = .ok (.if_icmp .ne 7, 3) := by decide +kernel
theorem dX4_trustIn_28 : decode cX4_trustIn 28 = .ok (.iconst 1, 1) := by decide +kernel
theorem dX4_trustIn_29 : decode cX4_trustIn 29 = .ok (.goto 4, 3) := by decide +kernel
theorem dX4_trustIn_32 : decode cX4_trustIn 32 = .ok (.iconst 0, 1) := by decide +kernel
theorem dX4_trustIn_33 : decode cX4_trustIn 33 = .ok (.istore_n 3, 1) := by decide +kernel
theorem dX4_trustIn_34 : decode cX4_trustIn 34 = .ok (.iload_n 3, 1) := by decide +kernel
theorem dX4_trustIn_35 : decode cX4_trustIn 35 = .ok (.ifCond .eq 20, 3) := by decide +kernel
theorem dX4_trustIn_38 : decode cX4_trustIn 38 = .ok (.aload_n 0, 1) := by decide +kernel
theorem dX4_trustIn_39 : decode cX4_trustIn 39 = .ok (.getfield 10, 3) := by decide +kernel
theorem dX4_trustIn_42 : decode cX4_trustIn 42 = .ok (.aload_n 2, 1) := by decide +kernel
theorem dX4_trustIn_43 : decode cX4_trustIn 43 = .ok (.invokevirtual 121, 3) := by decide +kernel
theorem dX4_trustIn_46 : decode cX4_trustIn 46 = .ok (.aload_n 1, 1) := by decide +kernel
theorem dX4_trustIn_47 : decode cX4_trustIn 47 = .ok (.getfield 125, 3) := by decide +kernel
theorem dX4_trustIn_50 : decode cX4_trustIn 50 = .ok (.if_icmp .ne 5, 3) := by decide +kernel
theorem dX4_trustIn_53 : decode cX4_trustIn 53 = .ok (.iconst 3, 1) := by decide +kernel
theorem dX4_trustIn_54 : decode cX4_trustIn 54 = .ok (.ireturn, 1) := by decide +kernel
theorem dX4_trustIn_55 : decode cX4_trustIn 55 = .ok (.aload_n 0, 1) := by decide +kernel
theorem dX4_trustIn_56 : decode cX4_trustIn 56 = .ok (.getfield 10, 3) := by decide +kernel
theorem dX4_trustIn_59 : decode cX4_trustIn 59 = .ok (.aload_n 2, 1) := by decide +kernel
theorem dX4_trustIn_60 : decode cX4_trustIn 60 = .ok (.iconst 0, 1) := by decide +kernel
theorem dX4_trustIn_61 : decode cX4_trustIn 61 = .ok (.invokevirtual 113, 3) := by decide +kernel
theorem dX4_trustIn_64 : decode cX4_trustIn 64 = .ok (.sipush 255, 3) := by decide +kernel
theorem dX4_trustIn_67 : decode cX4_trustIn 67 = .ok (.if_icmp .eq 5, 3) := by decide +kernel
theorem dX4_trustIn_70 : decode cX4_trustIn 70 = .ok (.iconst 0, 1) := by decide +kernel
theorem dX4_trustIn_71 : decode cX4_trustIn 71 = .ok (.ireturn, 1) := by decide +kernel
theorem dX4_trustIn_72 : decode cX4_trustIn 72 = .ok (.aload_n 0, 1) := by decide +kernel
theorem dX4_trustIn_73 : decode cX4_trustIn 73 = .ok (.getfield 10, 3) := by decide +kernel
theorem dX4_trustIn_76 : decode cX4_trustIn 76 = .ok (.aload_n 2, 1) := by decide +kernel
theorem dX4_trustIn_77 : decode cX4_trustIn 77 = .ok (.aload_n 2, 1) := by decide +kernel
theorem dX4_trustIn_78 : decode cX4_trustIn 78 = .ok (.getfield 98, 3) := by decide +kernel
theorem dX4_trustIn_81 : decode cX4_trustIn 81 = .ok (.iconst 4, 1) := by decide +kernel
theorem dX4_trustIn_82 : decode cX4_trustIn 82 = .ok (.imul, 1) := by decide +kernel
theorem dX4_trustIn_83 : decode cX4_trustIn 83 = .ok (.iconst 1, 1) := by decide +kernel
theorem dX4_trustIn_84 : decode cX4_trustIn 84 = .ok (.isub, 1) := by decide +kernel
theorem dX4_trustIn_85 : decode cX4_trustIn 85 = .ok (.invokevirtual 113, 3) := by decide +kernel
theorem dX4_trustIn_88 : decode cX4_trustIn 88 = .ok (.sipush 254, 3) := by decide +kernel
theorem dX4_trustIn_91 : decode cX4_trustIn 91 = .ok (.if_icmp .ne 7, 3) := by decide +kernel
theorem dX4_trustIn_94 : decode cX4_trustIn 94 = .ok (.iconst 1, 1) := by decide +kernel
theorem dX4_trustIn_95 : decode cX4_trustIn 95 = .ok (.goto 4, 3) := by decide +kernel
theorem dX4_trustIn_98 : decode cX4_trustIn 98 = .ok (.iconst 0, 1) := by decide +kernel
theorem dX4_trustIn_99 : decode cX4_trustIn 99 = .ok (.istore 4, 2) := by decide +kernel
theorem dX4_trustIn_101 : decode cX4_trustIn 101 = .ok (.iload_n 3, 1) := by decide +kernel
theorem dX4_trustIn_102 : decode cX4_trustIn 102 = .ok (.ifCond .eq 12, 3) := by decide +kernel
theorem dX4_trustIn_105 : decode cX4_trustIn 105 = .ok (.iload 4, 2) := by decide +kernel
theorem dX4_trustIn_107 : decode cX4_trustIn 107 = .ok (.ifCond .eq 7, 3) := by decide +kernel
theorem dX4_trustIn_110 : decode cX4_trustIn 110 = .ok (.iconst 2, 1) := by decide +kernel
theorem dX4_trustIn_111 : decode cX4_trustIn 111 = .ok (.goto 4, 3) := by decide +kernel
theorem dX4_trustIn_114 : decode cX4_trustIn 114 = .ok (.iconst 1, 1) := by decide +kernel
theorem dX4_trustIn_115 : decode cX4_trustIn 115 = .ok (.ireturn, 1) := by decide +kernel
set_option maxRecDepth 20000 in
theorem ggX4_strongestClaimant_Jx4a65c_size_8abf5 : GoodIn wsX4_strongestClaimant wsJx4a65c_size_8abf5 := goodIn_r _ [7, 8, 54, 55, 56] (by decide +kernel) (by decide +kernel)
set_option maxRecDepth 20000 in
theorem gX4_strongestClaimant_Jx4a65c_size_8abf5 : GoodIn wsX4_strongestClaimant (wsV RX4 50 RJx4a65c yJx4a65c_size_8abf5 wsJx4a65c_size_8abf5) := goodIn_app (goodIn_of _ (by decide +kernel)) ggX4_strongestClaimant_Jx4a65c_size_8abf5
set_option maxRecDepth 20000 in
theorem ggX4_strongestClaimant_Jx4a65c_get_915e3 : GoodIn wsX4_strongestClaimant wsJx4a65c_get_915e3 := goodIn_r _ [12, 8, 13, 14, 15, 16, 17, 18, 19, 20, 21, 22, 23, 6, 24, 25, 54, 55, 56] (by decide +kernel) (by decide +kernel)
set_option maxRecDepth 20000 in
theorem gX4_strongestClaimant_Jx4a65c_get_915e3 : GoodIn wsX4_strongestClaimant (wsV RX4 167 RJx4a65c yJx4a65c_get_915e3 wsJx4a65c_get_915e3) := goodIn_app (goodIn_of _ (by decide +kernel)) ggX4_strongestClaimant_Jx4a65c_get_915e3
set_option maxRecDepth 20000 in
theorem ggX4_strongestClaimant_X2_isThrown : GoodIn wsX4_strongestClaimant wsX2_isThrown := goodIn_r _ [30, 31, 48, 49, 50, 51, 52, 53] (by decide +kernel) (by decide +kernel)
set_option maxRecDepth 20000 in
theorem gX4_strongestClaimant_X2_isThrown : GoodIn wsX4_strongestClaimant (wsV RX4 149 RX2 yX2_isThrown wsX2_isThrown) := goodIn_app (goodIn_of _ (by decide +kernel)) ggX4_strongestClaimant_X2_isThrown
set_option maxRecDepth 20000 in
theorem ggX4_strongestClaimant_X0_holds : GoodIn wsX4_strongestClaimant wsX0_holds := goodIn_r _ [36, 37, 38, 39, 40, 35, 41, 42, 57, 58] (by decide +kernel) (by decide +kernel)
set_option maxRecDepth 20000 in
theorem gX4_strongestClaimant_X0_holds : GoodIn wsX4_strongestClaimant (wsV RX4 212 RX0 yX0_holds wsX0_holds) := goodIn_app (goodIn_of _ (by decide +kernel)) ggX4_strongestClaimant_X0_holds
theorem dX4_strongestClaimant_0 : decode cX4_strongestClaimant 0 = .ok (.iconst (-1), 1) := by decide +kernel
theorem dX4_strongestClaimant_1 : decode cX4_strongestClaimant 1 = .ok (.istore_n 2, 1) := by decide +kernel
theorem dX4_strongestClaimant_2 : decode cX4_strongestClaimant 2 = .ok (.iconst 0, 1) := by decide +kernel
theorem dX4_strongestClaimant_3 : decode cX4_strongestClaimant 3 = .ok (.istore_n 3, 1) := by decide +kernel
theorem dX4_strongestClaimant_4 : decode cX4_strongestClaimant 4 = .ok (.iconst (-1), 1) := by decide +kernel
theorem dX4_strongestClaimant_5 : decode cX4_strongestClaimant 5 = .ok (.istore 4, 2) := by decide +kernel
theorem dX4_strongestClaimant_7 : decode cX4_strongestClaimant 7 = .ok (.iconst 0, 1) := by decide +kernel
theorem dX4_strongestClaimant_8 : decode cX4_strongestClaimant 8 = .ok (.istore 5, 2) := by decide +kernel
theorem dX4_strongestClaimant_10 : decode cX4_strongestClaimant 10 = .ok (.iload 5, 2) := by decide +kernel
theorem dX4_strongestClaimant_12 : decode cX4_strongestClaimant 12 = .ok (.aload_n 0, 1) := by decide +kernel
theorem dX4_strongestClaimant_13 : decode cX4_strongestClaimant 13 = .ok (.getfield 19, 3) := by decide +kernel
theorem dX4_strongestClaimant_16 : decode cX4_strongestClaimant 16 = .ok (.invokevirtual 50, 3) := by decide +kernel
theorem dX4_strongestClaimant_19 : decode cX4_strongestClaimant 19 = .ok (.if_icmp .ge 95, 3) := by decide +kernel
theorem dX4_strongestClaimant_22 : decode cX4_strongestClaimant 22 = .ok (.aload_n 0, 1) := by decide +kernel
theorem dX4_strongestClaimant_23 : decode cX4_strongestClaimant 23 = .ok (.getfield 19, 3) := by decide +kernel
theorem dX4_strongestClaimant_26 : decode cX4_strongestClaimant 26 = .ok (.iload 5, 2) := by decide +kernel
theorem dX4_strongestClaimant_28 : decode cX4_strongestClaimant 28 = .ok (.invokevirtual 167, 3) := by decide +kernel
theorem dX4_strongestClaimant_31 : decode cX4_strongestClaimant 31 = .ok (.checkcast 64, 3) := by decide +kernel
theorem dX4_strongestClaimant_34 : decode cX4_strongestClaimant 34 = .ok (.astore 6, 2) := by decide +kernel
theorem dX4_strongestClaimant_36 : decode cX4_strongestClaimant 36 = .ok (.aload 6, 2) := by decide +kernel
theorem dX4_strongestClaimant_38 : decode cX4_strongestClaimant 38 = .ok (.invokevirtual 149, 3) := by decide +kernel
theorem dX4_strongestClaimant_41 : decode cX4_strongestClaimant 41 = .ok (.ifCond .eq 67, 3) := by decide +kernel
theorem dX4_strongestClaimant_44 : decode cX4_strongestClaimant 44 = .ok (.aload 6, 2) := by decide +kernel
theorem dX4_strongestClaimant_46 : decode cX4_strongestClaimant 46 = .ok (.getfield 161, 3) := by decide +kernel
theorem dX4_strongestClaimant_49 : decode cX4_strongestClaimant 49 = .ok (.ifCond .le 59, 3) := by decide +kernel
