theorem dX4_strongestClaimant_75 : decode cX4_strongestClaimant 75 = .ok (.getfield 161, 3) := by decide +kernel
theorem dX4_strongestClaimant_78 : decode cX4_strongestClaimant 78 = .ok (.iload_n 3, 1) := by decide +kernel
theorem dX4_strongestClaimant_79 : decode cX4_strongestClaimant 79 = .ok (.if_icmp .ne 29, 3) := by decide +kernel
theorem dX4_strongestClaimant_82 : decode cX4_strongestClaimant 82 = .ok (.aload 6, 2) := by decide +kernel
theorem dX4_strongestClaimant_84 : decode cX4_strongestClaimant 84 = .ok (.getfield 128, 3) := by decide +kernel
theorem dX4_strongestClaimant_87 : decode cX4_strongestClaimant 87 = .ok (.iload 4, 2) := by decide +kernel
theorem dX4_strongestClaimant_89 : decode cX4_strongestClaimant 89 = .ok (.if_icmp .le 19, 3) := by decide +kernel
theorem dX4_strongestClaimant_92 : decode cX4_strongestClaimant 92 = .ok (.iload 5, 2) := by decide +kernel
theorem dX4_strongestClaimant_94 : decode cX4_strongestClaimant 94 = .ok (.istore_n 2, 1) := by decide +kernel
theorem dX4_strongestClaimant_95 : decode cX4_strongestClaimant 95 = .ok (.aload 6, 2) := by decide +kernel
theorem dX4_strongestClaimant_97 : decode cX4_strongestClaimant 97 = .ok (.getfield 161, 3) := by decide +kernel
theorem dX4_strongestClaimant_100 : decode cX4_strongestClaimant 100 = .ok (.istore_n 3, 1) := by decide +kernel
theorem dX4_strongestClaimant_101 : decode cX4_strongestClaimant 101 = .ok (.aload 6, 2) := by decide +kernel
theorem dX4_strongestClaimant_103 : decode cX4_strongestClaimant 103 = .ok (.getfield 128, 3) := by decide +kernel
theorem dX4_strongestClaimant_106 : decode cX4_strongestClaimant 106 = .ok (.istore 4, 2) := by decide +kernel
theorem dX4_strongestClaimant_108 : decode cX4_strongestClaimant 108 = .ok (.iinc 5 1, 3) := by decide +kernel
theorem dX4_strongestClaimant_111 : decode cX4_strongestClaimant 111 = .ok (.goto (-101), 3) := by decide +kernel
theorem dX4_strongestClaimant_114 : decode cX4_strongestClaimant 114 = .ok (.iload_n 2, 1) := by decide +kernel
theorem dX4_strongestClaimant_115 : decode cX4_strongestClaimant 115 = .ok (.ireturn, 1) := by decide +kernel
theorem dX5_init_0 : decode cX5_init 0 = .ok (.aload_n 0, 1) := by decide +kernel
theorem dX5_init_1 : decode cX5_init 1 = .ok (.invokespecial 1, 3) := by decide +kernel
theorem dX5_init_4 : decode cX5_init 4 = .ok (.aload_n 0, 1) := by decide +kernel
theorem dX5_init_5 : decode cX5_init 5 = .ok (.sipush 160, 3) := by decide +kernel
theorem dX5_init_8 : decode cX5_init 8 = .ok (.newarray .int, 2) := by decide +kernel
theorem dX5_init_10 : decode cX5_init 10 = .ok (.putfield 7, 3) := by decide +kernel
theorem dX5_init_13 : decode cX5_init 13 = .ok (.aload_n 0, 1) := by decide +kernel
theorem dX5_init_14 : decode cX5_init 14 = .ok (.bipush 40, 2) := by decide +kernel
theorem dX5_init_16 : decode cX5_init 16 = .ok (.newarray .int, 2) := by decide +kernel
theorem dX5_init_18 : decode cX5_init 18 = .ok (.putfield 13, 3) := by decide +kernel
theorem dX5_init_21 : decode cX5_init 21 = .ok (.aload_n 0, 1) := by decide +kernel
theorem dX5_init_22 : decode cX5_init 22 = .ok (.bipush 30, 2) := by decide +kernel
theorem dX5_init_24 : decode cX5_init 24 = .ok (.newarray .int, 2) := by decide +kernel
theorem dX5_init_26 : decode cX5_init 26 = .ok (.putfield 16, 3) := by decide +kernel
theorem dX5_init_29 : decode cX5_init 29 = .ok (.aload_n 0, 1) := by decide +kernel
theorem dX5_init_30 : decode cX5_init 30 = .ok (.bipush 30, 2) := by decide +kernel
theorem dX5_init_32 : decode cX5_init 32 = .ok (.newarray .int, 2) := by decide +kernel
theorem dX5_init_34 : decode cX5_init 34 = .ok (.putfield 19, 3) := by decide +kernel
theorem dX5_init_37 : decode cX5_init 37 = .ok (.aload_n 0, 1) := by decide +kernel
theorem dX5_init_38 : decode cX5_init 38 = .ok (.bipush 30, 2) := by decide +kernel
theorem dX5_init_40 : decode cX5_init 40 = .ok (.newarray .int, 2) := by decide +kernel
theorem dX5_init_42 : decode cX5_init 42 = .ok (.putfield 22, 3) := by decide +kernel
theorem dX5_init_45 : decode cX5_init 45 = .ok (.aload_n 0, 1) := by decide +kernel
theorem dX5_init_46 : decode cX5_init 46 = .ok (.bipush 30, 2) := by decide +kernel
theorem dX5_init_48 : decode cX5_init 48 = .ok (.newarray .int, 2) := by decide +kernel
theorem dX5_init_50 : decode cX5_init 50 = .ok (.putfield 25, 3) := by decide +kernel
theorem dX5_init_53 : decode cX5_init 53 = .ok (.aload_n 0, 1) := by decide +kernel
theorem dX5_init_54 : decode cX5_init 54 = .ok (.bipush 30, 2) := by decide +kernel
theorem dX5_init_56 : decode cX5_init 56 = .ok (.newarray .int, 2) := by decide +kernel
theorem dX5_init_58 : decode cX5_init 58 = .ok (.putfield 28, 3) := by decide +kernel
theorem dX5_init_61 : decode cX5_init 61 = .ok (.aload_n 0, 1) := by decide +kernel
theorem dX5_init_62 : decode cX5_init 62 = .ok (.sipush 240, 3) := by decide +kernel
theorem dX5_init_65 : decode cX5_init 65 = .ok (.newarray .int, 2) := by decide +kernel
theorem dX5_init_67 : decode cX5_init 67 = .ok (.putfield 31, 3) := by decide +kernel
theorem dX5_init_70 : decode cX5_init 70 = .ok (.aload_n 0, 1) := by decide +kernel
theorem dX5_init_71 : decode cX5_init 71 = .ok (.bipush 8, 2) := by decide +kernel
theorem dX5_init_73 : decode cX5_init 73 = .ok (.newarray .int, 2) := by decide +kernel
theorem dX5_init_75 : decode cX5_init 75 = .ok (.putfield 34, 3) := by decide +kernel
theorem dX5_init_78 : decode cX5_init 78 = .ok (.aload_n 0, 1) := by decide +kernel
theorem dX5_init_79 : decode cX5_init 79 = .ok (.iconst 4, 1) := by decide +kernel
theorem dX5_init_80 : decode cX5_init 80 = .ok (.newarray .int, 2) := by decide +kernel
theorem dX5_init_82 : decode cX5_init 82 = .ok (.putfield 37, 3) := by decide +kernel
theorem dX5_init_85 : decode cX5_init 85 = .ok (.iconst 0, 1) := by decide +kernel
theorem dX5_init_86 : decode cX5_init 86 = .ok (.istore_n 1, 1) := by decide +kernel
theorem dX5_init_87 : decode cX5_init 87 = .ok (.iload_n 1, 1) := by decide +kernel
theorem dX5_init_88 : decode cX5_init 88 = .ok (.bipush 40, 2) := by decide +kernel
theorem dX5_init_90 : decode cX5_init 90 = .ok (.if_icmp .ge 16, 3) := by decide +kernel
theorem dX5_init_93 : decode cX5_init 93 = .ok (.aload_n 0, 1) := by decide +kernel
theorem dX5_init_94 : decode cX5_init 94 = .ok (.getfield 13, 3) := by decide +kernel
theorem dX5_init_97 : decode cX5_init 97 = .ok (.iload_n 1, 1) := by decide +kernel
theorem dX5_init_98 : decode cX5_init 98 = .ok (.iconst (-1), 1) := by decide +kernel
theorem dX5_init_99 : decode cX5_init 99 = .ok (.iastore, 1) := by decide +kernel
theorem dX5_init_100 : decode cX5_init 100 = .ok (.iinc 1 1, 3) := by decide +kernel
theorem dX5_init_103 : decode cX5_init 103 = .ok (.goto (-16), 3) := by decide +kernel
theorem dX5_init_106 : decode cX5_init 106 = .ok (.return_, 1) := by decide +kernel
theorem dX5_thrown_0 : decode cX5_thrown 0 = .ok (.aload_n 0, 1) := by decide +kernel
theorem dX5_thrown_1 : decode cX5_thrown 1 = .ok (.getfield 40, 3) := by decide +kernel
theorem dX5_thrown_4 : decode cX5_thrown 4 = .ok (.ireturn, 1) := by decide +kernel
theorem dX5_in_0 : decode cX5_in 0 = .ok (.iload_n 0, 1) := by decide +kernel
theorem dX5_in_1 : decode cX5_in 1 = .ok (.iload_n 1, 1) := by decide +kernel
theorem dX5_in_2 : decode cX5_in 2 = .ok (.if_icmp .lt 12, 3) := by decide +kernel
theorem dX5_in_5 : decode cX5_in 5 = .ok (.iload_n 0, 1) := by decide +kernel
theorem dX5_in_6 : decode cX5_in 6 = .ok (.iload_n 2, 1) := by decide +kernel
theorem dX5_in_7 : decode cX5_in 7 = .ok (.if_icmp .gt 7, 3) := by decide +kernel
theorem dX5_in_10 : decode cX5_in 10 = .ok (.iconst 1, 1) := by decide +kernel
theorem dX5_in_11 : decode cX5_in 11 = .ok (.goto 4, 3) := by decide +kernel
theorem dX5_in_14 : decode cX5_in 14 = .ok (.iconst 0, 1) := by decide +kernel
theorem dX5_in_15 : decode cX5_in 15 = .ok (.ireturn, 1) := by decide +kernel
theorem dX5_goes_0 : decode cX5_goes 0 = .ok (.aload_n 0, 1) := by decide +kernel
theorem dX5_goes_1 : decode cX5_goes 1 = .ok (.iload_n 1, 1) := by decide +kernel
theorem dX5_goes_2 : decode cX5_goes 2 = .ok (.ifCond .ne 7, 3) := by decide +kernel
theorem dX5_goes_5 : decode cX5_goes 5 = .ok (.iconst 1, 1) := by decide +kernel
theorem dX5_goes_6 : decode cX5_goes 6 = .ok (.goto 20, 3) := by decide +kernel
theorem dX5_goes_9 : decode cX5_goes 9 = .ok (.iload_n 2, 1) := by decide +kernel
theorem dX5_goes_10 : decode cX5_goes 10 = .ok (.ifCond .ne 7, 3) := by decide +kernel
theorem dX5_goes_13 : decode cX5_goes 13 = .ok (.iconst 2, 1) := by decide +kernel
theorem dX5_goes_14 : decode cX5_goes 14 = .ok (.goto 12, 3) := by decide +kernel
theorem dX5_goes_17 : decode cX5_goes 17 = .ok (.iload_n 3, 1) := by decide +kernel
theorem dX5_goes_18 : decode cX5_goes 18 = .ok (.ifCond .ne 7, 3) := by decide +kernel
theorem dX5_goes_21 : decode cX5_goes 21 = .ok (.iconst 3, 1) := by decide +kernel
theorem dX5_goes_22 : decode cX5_goes 22 = .ok (.goto 4, 3) := by decide +kernel
theorem dX5_goes_25 : decode cX5_goes 25 = .ok (.iconst 0, 1) := by decide +kernel
theorem dX5_goes_26 : decode cX5_goes 26 = .ok (.putfield 40, 3) := by decide +kernel
theorem dX5_goes_29 : decode cX5_goes 29 = .ok (.aload_n 0, 1) := by decide +kernel
theorem dX5_goes_30 : decode cX5_goes 30 = .ok (.getfield 40, 3) := by decide +kernel
theorem dX5_goes_33 : decode cX5_goes 33 = .ok (.ifCond .ne 7, 3) := by decide +kernel
theorem dX5_goes_36 : decode cX5_goes 36 = .ok (.iconst 1, 1) := by decide +kernel
theorem dX5_goes_37 : decode cX5_goes 37 = .ok (.goto 4, 3) := by decide +kernel
theorem dX5_goes_40 : decode cX5_goes 40 = .ok (.iconst 0, 1) := by decide +kernel
theorem dX5_goes_41 : decode cX5_goes 41 = .ok (.ireturn, 1) := by decide +kernel
theorem dX5_told_0 : decode cX5_told 0 = .ok (.aload_n 0, 1) := by decide +kernel
theorem dX5_told_1 : decode cX5_told 1 = .ok (.iconst 0, 1) := by decide +kernel
theorem dX5_told_2 : decode cX5_told 2 = .ok (.putfield 40, 3) := by decide +kernel
theorem dX5_told_5 : decode cX5_told 5 = .ok (.iload_n 1, 1) := by decide +kernel
theorem dX5_told_6 : decode cX5_told 6 = .ok (.ireturn, 1) := by decide +kernel
set_option maxRecDepth 20000 in
theorem ggX5_isFile_X5_in : GoodIn wsX5_isFile wsX5_in := goodIn_r _ [5] (by decide +kernel) (by decide +kernel)
set_option maxRecDepth 20000 in
theorem gX5_isFile_X5_in : GoodIn wsX5_isFile (va_wsS RX5 47 yX5_in wsX5_in) := goodIn_app (goodIn_of _ (by decide +kernel)) ggX5_isFile_X5_in
theorem dX5_isFile_0 : decode cX5_isFile 0 = .ok (.iload_n 1, 1) := by decide +kernel
theorem dX5_isFile_1 : decode cX5_isFile 1 = .ok (.iconst 0, 1) := by decide +kernel
theorem dX5_isFile_2 : decode cX5_isFile 2 = .ok (.aload_n 0, 1) := by decide +kernel
theorem dX5_isFile_3 : decode cX5_isFile 3 = .ok (.getfield 44, 3) := by decide +kernel
theorem dX5_isFile_6 : decode cX5_isFile 6 = .ok (.iconst 1, 1) := by decide +kernel
theorem dX5_isFile_7 : decode cX5_isFile 7 = .ok (.isub, 1) := by decide +kernel
theorem dX5_isFile_8 : decode cX5_isFile 8 = .ok (.invokestatic 47, 3) := by decide +kernel
theorem dX5_isFile_11 : decode cX5_isFile 11 = .ok (.ireturn, 1) := by decide +kernel
set_option maxRecDepth 20000 in
theorem ggX5_isCluster_X5_in : GoodIn wsX5_isCluster wsX5_in := goodIn_r _ [4] (by decide +kernel) (by decide +kernel)
set_option maxRecDepth 20000 in
theorem gX5_isCluster_X5_in : GoodIn wsX5_isCluster (va_wsS RX5 47 yX5_in wsX5_in) := goodIn_app (goodIn_of _ (by decide +kernel)) ggX5_isCluster_X5_in
theorem dX5_isCluster_0 : decode cX5_isCluster 0 = .ok (.iload_n 0, 1) := by decide +kernel
theorem dX5_isCluster_1 : decode cX5_isCluster 1 = .ok (.iconst 0, 1) := by decide +kernel
theorem dX5_isCluster_2 : decode cX5_isCluster 2 = .ok (.bipush 39, 2) := by decide +kernel
theorem dX5_isCluster_4 : decode cX5_isCluster 4 = .ok (.invokestatic 47, 3) := by decide +kernel
theorem dX5_isCluster_7 : decode cX5_isCluster 7 = .ok (.ireturn, 1) := by decide +kernel
theorem dX5_isGone_0 : decode cX5_isGone 0 = .ok (.aload_n 0, 1) := by decide +kernel
theorem dX5_isGone_1 : decode cX5_isGone 1 = .ok (.getfield 22, 3) := by decide +kernel
theorem dX5_isGone_4 : decode cX5_isGone 4 = .ok (.iload_n 1, 1) := by decide +kernel
theorem dX5_isGone_5 : decode cX5_isGone 5 = .ok (.iaload, 1) := by decide +kernel
theorem dX5_isGone_6 : decode cX5_isGone 6 = .ok (.ifCond .le 7, 3) := by decide +kernel
theorem dX5_isGone_9 : decode cX5_isGone 9 = .ok (.iconst 1, 1) := by decide +kernel
theorem dX5_isGone_10 : decode cX5_isGone 10 = .ok (.goto 4, 3) := by decide +kernel
theorem dX5_isGone_13 : decode cX5_isGone 13 = .ok (.iconst 0, 1) := by decide +kernel
theorem dX5_isGone_14 : decode cX5_isGone 14 = .ok (.ireturn, 1) := by decide +kernel
theorem dX5_frees_0 : decode cX5_frees 0 = .ok (.iconst 0, 1) := by decide +kernel
theorem dX5_frees_1 : decode cX5_frees 1 = .ok (.istore_n 1, 1) := by decide +kernel
theorem dX5_frees_2 : decode cX5_frees 2 = .ok (.iconst 0, 1) := by decide +kernel
theorem dX5_frees_3 : decode cX5_frees 3 = .ok (.istore_n 2, 1) := by decide +kernel
theorem dX5_frees_4 : decode cX5_frees 4 = .ok (.iload_n 2, 1) := by decide +kernel
theorem dX5_frees_5 : decode cX5_frees 5 = .ok (.bipush 40, 2) := by decide +kernel
theorem dX5_frees_7 : decode cX5_frees 7 = .ok (.if_icmp .ge 27, 3) := by decide +kernel
theorem dX5_frees_10 : decode cX5_frees 10 = .ok (.iload_n 1, 1) := by decide +kernel
theorem dX5_frees_11 : decode cX5_frees 11 = .ok (.aload_n 0, 1) := by decide +kernel
theorem dX5_frees_12 : decode cX5_frees 12 = .ok (.getfield 13, 3) := by decide +kernel
theorem dX5_frees_15 : decode cX5_frees 15 = .ok (.iload_n 2, 1) := by decide +kernel
theorem dX5_frees_16 : decode cX5_frees 16 = .ok (.iaload, 1) := by decide +kernel
theorem dX5_frees_17 : decode cX5_frees 17 = .ok (.iconst (-1), 1) := by decide +kernel
theorem dX5_frees_18 : decode cX5_frees 18 = .ok (.if_icmp .ne 7, 3) := by decide +kernel
theorem dX5_frees_21 : decode cX5_frees 21 = .ok (.iconst 1, 1) := by decide +kernel
theorem dX5_frees_22 : decode cX5_frees 22 = .ok (.goto 4, 3) := by decide +kernel
theorem dX5_frees_25 : decode cX5_frees 25 = .ok (.iconst 0, 1) := by decide +kernel
theorem dX5_frees_26 : decode cX5_frees 26 = .ok (.iadd, 1) := by decide +kernel
theorem dX5_frees_27 : decode cX5_frees 27 = .ok (.istore_n 1, 1) := by decide +kernel
theorem dX5_frees_28 : decode cX5_frees 28 = .ok (.iinc 2 1, 3) := by decide +kernel
theorem dX5_frees_31 : decode cX5_frees 31 = .ok (.goto (-27), 3) := by decide +kernel
theorem dX5_frees_34 : decode cX5_frees 34 = .ok (.iload_n 1, 1) := by decide +kernel
theorem dX5_frees_35 : decode cX5_frees 35 = .ok (.ireturn, 1) := by decide +kernel
theorem dX5_takes_0 : decode cX5_takes 0 = .ok (.iconst 0, 1) := by decide +kernel
theorem dX5_takes_1 : decode cX5_takes 1 = .ok (.istore_n 2, 1) := by decide +kernel
theorem dX5_takes_2 : decode cX5_takes 2 = .ok (.aload_n 0, 1) := by decide +kernel
theorem dX5_takes_3 : decode cX5_takes 3 = .ok (.getfield 13, 3) := by decide +kernel
theorem dX5_takes_6 : decode cX5_takes 6 = .ok (.iload_n 2, 1) := by decide +kernel
theorem dX5_takes_7 : decode cX5_takes 7 = .ok (.iaload, 1) := by decide +kernel
theorem dX5_takes_8 : decode cX5_takes 8 = .ok (.iconst (-1), 1) := by decide +kernel
theorem dX5_takes_9 : decode cX5_takes 9 = .ok (.if_icmp .eq 9, 3) := by decide +kernel
theorem dX5_takes_12 : decode cX5_takes 12 = .ok (.iinc 2 1, 3) := by decide +kernel
theorem dX5_takes_15 : decode cX5_takes 15 = .ok (.goto (-13), 3) := by decide +kernel
theorem dX5_takes_18 : decode cX5_takes 18 = .ok (.aload_n 0, 1) := by decide +kernel
theorem dX5_takes_19 : decode cX5_takes 19 = .ok (.getfield 13, 3) := by decide +kernel
theorem dX5_takes_22 : decode cX5_takes 22 = .ok (.iload_n 2, 1) := by decide +kernel
theorem dX5_takes_23 : decode cX5_takes 23 = .ok (.iload_n 1, 1) := by decide +kernel
theorem dX5_takes_24 : decode cX5_takes 24 = .ok (.iastore, 1) := by decide +kernel
theorem dX5_takes_25 : decode cX5_takes 25 = .ok (.iload_n 2, 1) := by decide +kernel
theorem dX5_takes_26 : decode cX5_takes 26 = .ok (.ireturn, 1) := by decide +kernel
theorem dX5_byRule_0 : decode cX5_byRule 0 = .ok (.aload_n 0, 1) := by decide +kernel
theorem dX5_byRule_1 : decode cX5_byRule 1 = .ok (.getfield 16, 3) := by decide +kernel
theorem dX5_byRule_4 : decode cX5_byRule 4 = .ok (.iload_n 1, 1) := by decide +kernel
theorem dX5_byRule_5 : decode cX5_byRule 5 = .ok (.iaload, 1) := by decide +kernel
theorem dX5_byRule_6 : decode cX5_byRule 6 = .ok (.bipush 37, 2) := by decide +kernel
theorem dX5_byRule_8 : decode cX5_byRule 8 = .ok (.iload_n 2, 1) := by decide +kernel
theorem dX5_byRule_9 : decode cX5_byRule 9 = .ok (.imul, 1) := by decide +kernel
theorem dX5_byRule_10 : decode cX5_byRule 10 = .ok (.iadd, 1) := by decide +kernel
theorem dX5_byRule_11 : decode cX5_byRule 11 = .ok (.sipush 250, 3) := by decide +kernel
theorem dX5_byRule_14 : decode cX5_byRule 14 = .ok (.irem, 1) := by decide +kernel
theorem dX5_byRule_15 : decode cX5_byRule 15 = .ok (.ireturn, 1) := by decide +kernel
theorem dX5_place_0 : decode cX5_place 0 = .ok (.iconst 4, 1) := by decide +kernel
theorem dX5_place_1 : decode cX5_place 1 = .ok (.aload_n 0, 1) := by decide +kernel
theorem dX5_place_2 : decode cX5_place 2 = .ok (.getfield 31, 3) := by decide +kernel
theorem dX5_place_5 : decode cX5_place 5 = .ok (.bipush 8, 2) := by decide +kernel
theorem dX5_place_7 : decode cX5_place 7 = .ok (.iload_n 1, 1) := by decide +kernel
theorem dX5_place_8 : decode cX5_place 8 = .ok (.imul, 1) := by decide +kernel
theorem dX5_place_9 : decode cX5_place 9 = .ok (.iload_n 2, 1) := by decide +kernel
theorem dX5_place_10 : decode cX5_place 10 = .ok (.iconst 4, 1) := by decide +kernel
theorem dX5_place_11 : decode cX5_place 11 = .ok (.idiv, 1) := by decide +kernel
theorem dX5_place_12 : decode cX5_place 12 = .ok (.iadd, 1) := by decide +kernel
theorem dX5_place_13 : decode cX5_place 13 = .ok (.iaload, 1) := by decide +kernel
theorem dX5_place_14 : decode cX5_place 14 = .ok (.imul, 1) := by decide +kernel
theorem dX5_place_15 : decode cX5_place 15 = .ok (.iload_n 2, 1) := by decide +kernel
theorem dX5_place_16 : decode cX5_place 16 = .ok (.iconst 4, 1) := by decide +kernel
theorem dX5_place_17 : decode cX5_place 17 = .ok (.irem, 1) := by decide +kernel
theorem dX5_place_18 : decode cX5_place 18 = .ok (.iadd, 1) := by decide +kernel
theorem dX5_place_19 : decode cX5_place 19 = .ok (.ireturn, 1) := by decide +kernel
set_option maxRecDepth 20000 in
theorem ggX5_make_X5_in : GoodIn wsX5_make wsX5_in := goodIn_r _ [9] (by decide +kernel) (by decide +kernel)
set_option maxRecDepth 20000 in
theorem gX5_make_X5_in : GoodIn wsX5_make (va_wsS RX5 47 yX5_in wsX5_in) := goodIn_app (goodIn_of _ (by decide +kernel)) ggX5_make_X5_in
set_option maxRecDepth 20000 in
theorem ggX5_make_X5_frees : GoodIn wsX5_make wsX5_frees := goodIn_r _ [13, 14, 32, 33, 34, 35, 36, 37, 38, 39, 40, 41, 42, 43, 44] (by decide +kernel) (by decide +kernel)
set_option maxRecDepth 20000 in
theorem gX5_make_X5_frees : GoodIn wsX5_make (wsV RX5 51 RX5 yX5_frees wsX5_frees) := goodIn_app (goodIn_of _ (by decide +kernel)) ggX5_make_X5_frees
set_option maxRecDepth 20000 in
theorem ggX5_make_X5_goes : GoodIn wsX5_make wsX5_goes := goodIn_r _ [18, 19, 32, 33, 34, 35, 36, 37, 38, 39, 40, 41, 42, 43, 44] (by decide +kernel) (by decide +kernel)
set_option maxRecDepth 20000 in
theorem gX5_make_X5_goes : GoodIn wsX5_make (wsV RX5 55 RX5 yX5_goes wsX5_goes) := goodIn_app (goodIn_of _ (by decide +kernel)) ggX5_make_X5_goes
set_option maxRecDepth 20000 in
theorem ggX5_make_X5_takes : GoodIn wsX5_make wsX5_takes := goodIn_r _ [23, 14, 32, 33, 34, 35, 36, 37, 38, 39, 40, 41, 42, 43, 44] (by decide +kernel) (by decide +kernel)
set_option maxRecDepth 20000 in
theorem gX5_make_X5_takes : GoodIn wsX5_make (wsV RX5 59 RX5 yX5_takes wsX5_takes) := goodIn_app (goodIn_of _ (by decide +kernel)) ggX5_make_X5_takes
set_option maxRecDepth 20000 in
theorem ggX5_make_X5_place : GoodIn wsX5_make wsX5_place := goodIn_r _ [27, 4, 32, 33, 34, 35, 36, 37, 38, 39, 40, 41, 42, 43, 44] (by decide +kernel) (by decide +kernel)
set_option maxRecDepth 20000 in
theorem gX5_make_X5_place : GoodIn wsX5_make (wsV RX5 63 RX5 yX5_place wsX5_place) := goodIn_app (goodIn_of _ (by decide +kernel)) ggX5_make_X5_place
set_option maxRecDepth 20000 in
theorem ggX5_make_X5_byRule : GoodIn wsX5_make wsX5_byRule := goodIn_r _ [31, 2, 32, 33, 34, 35, 36, 37, 38, 39, 40, 41, 42, 43, 44] (by decide +kernel) (by decide +kernel)
set_option maxRecDepth 20000 in
theorem gX5_make_X5_byRule : GoodIn wsX5_make (wsV RX5 67 RX5 yX5_byRule wsX5_byRule) := goodIn_app (goodIn_of _ (by decide +kernel)) ggX5_make_X5_byRule
theorem dX5_make_0 : decode cX5_make 0 = .ok (.aload_n 0, 1) := by decide +kernel
theorem dX5_make_1 : decode cX5_make 1 = .ok (.iload_n 1, 1) := by decide +kernel
theorem dX5_make_2 : decode cX5_make 2 = .ok (.iconst 1, 1) := by decide +kernel
theorem dX5_make_3 : decode cX5_make 3 = .ok (.bipush 8, 2) := by decide +kernel
theorem dX5_make_5 : decode cX5_make 5 = .ok (.invokestatic 47, 3) := by decide +kernel
theorem dX5_make_8 : decode cX5_make 8 = .ok (.ifCond .eq 18, 3) := by decide +kernel
theorem dX5_make_11 : decode cX5_make 11 = .ok (.iload_n 2, 1) := by decide +kernel
theorem dX5_make_12 : decode cX5_make 12 = .ok (.iconst 0, 1) := by decide +kernel
theorem dX5_make_13 : decode cX5_make 13 = .ok (.sipush 10000, 3) := by decide +kernel
theorem dX5_make_16 : decode cX5_make 16 = .ok (.invokestatic 47, 3) := by decide +kernel
theorem dX5_make_19 : decode cX5_make 19 = .ok (.ifCond .eq 7, 3) := by decide +kernel
theorem dX5_make_22 : decode cX5_make 22 = .ok (.iconst 1, 1) := by decide +kernel
theorem dX5_make_23 : decode cX5_make 23 = .ok (.goto 4, 3) := by decide +kernel
theorem dX5_make_26 : decode cX5_make 26 = .ok (.iconst 0, 1) := by decide +kernel
theorem dX5_make_27 : decode cX5_make 27 = .ok (.iload_n 1, 1) := by decide +kernel
theorem dX5_make_28 : decode cX5_make 28 = .ok (.aload_n 0, 1) := by decide +kernel
theorem dX5_make_29 : decode cX5_make 29 = .ok (.invokevirtual 51, 3) := by decide +kernel
theorem dX5_make_32 : decode cX5_make 32 = .ok (.if_icmp .gt 16, 3) := by decide +kernel
theorem dX5_make_35 : decode cX5_make 35 = .ok (.aload_n 0, 1) := by decide +kernel
theorem dX5_make_36 : decode cX5_make 36 = .ok (.getfield 44, 3) := by decide +kernel
theorem dX5_make_39 : decode cX5_make 39 = .ok (.bipush 30, 2) := by decide +kernel
theorem dX5_make_41 : decode cX5_make 41 = .ok (.if_icmp .ge 7, 3) := by decide +kernel
theorem dX5_make_44 : decode cX5_make 44 = .ok (.iconst 1, 1) := by decide +kernel
theorem dX5_make_45 : decode cX5_make 45 = .ok (.goto 4, 3) := by decide +kernel
theorem dX5_make_48 : decode cX5_make 48 = .ok (.iconst 0, 1) := by decide +kernel
theorem dX5_make_49 : decode cX5_make 49 = .ok (.iconst 1, 1) := by decide +kernel
theorem dX5_make_50 : decode cX5_make 50 = .ok (.invokevirtual 55, 3) := by decide +kernel
theorem dX5_make_53 : decode cX5_make 53 = .ok (.ifCond .ne 5, 3) := by decide +kernel
theorem dX5_make_56 : decode cX5_make 56 = .ok (.iconst 0, 1) := by decide +kernel
theorem dX5_make_57 : decode cX5_make 57 = .ok (.ireturn, 1) := by decide +kernel
theorem dX5_make_58 : decode cX5_make 58 = .ok (.aload_n 0, 1) := by decide +kernel
theorem dX5_make_59 : decode cX5_make 59 = .ok (.getfield 16, 3) := by decide +kernel
theorem dX5_make_62 : decode cX5_make 62 = .ok (.aload_n 0, 1) := by decide +kernel
theorem dX5_make_63 : decode cX5_make 63 = .ok (.getfield 44, 3) := by decide +kernel
theorem dX5_make_66 : decode cX5_make 66 = .ok (.iload_n 2, 1) := by decide +kernel
theorem dX5_make_67 : decode cX5_make 67 = .ok (.iastore, 1) := by decide +kernel
theorem dX5_make_68 : decode cX5_make 68 = .ok (.aload_n 0, 1) := by decide +kernel
theorem dX5_make_69 : decode cX5_make 69 = .ok (.getfield 19, 3) := by decide +kernel
theorem dX5_make_72 : decode cX5_make 72 = .ok (.aload_n 0, 1) := by decide +kernel
theorem dX5_make_73 : decode cX5_make 73 = .ok (.getfield 44, 3) := by decide +kernel
theorem dX5_make_76 : decode cX5_make 76 = .ok (.iload_n 1, 1) := by decide +kernel
theorem dX5_make_77 : decode cX5_make 77 = .ok (.iastore, 1) := by decide +kernel
theorem dX5_make_78 : decode cX5_make 78 = .ok (.iconst 0, 1) := by decide +kernel
theorem dX5_make_79 : decode cX5_make 79 = .ok (.istore_n 3, 1) := by decide +kernel
theorem dX5_make_80 : decode cX5_make 80 = .ok (.iload_n 3, 1) := by decide +kernel
theorem dX5_make_81 : decode cX5_make 81 = .ok (.iload_n 1, 1) := by decide +kernel
theorem dX5_make_82 : decode cX5_make 82 = .ok (.if_icmp .ge 31, 3) := by decide +kernel
theorem dX5_make_85 : decode cX5_make 85 = .ok (.aload_n 0, 1) := by decide +kernel
theorem dX5_make_86 : decode cX5_make 86 = .ok (.getfield 31, 3) := by decide +kernel
theorem dX5_make_89 : decode cX5_make 89 = .ok (.bipush 8, 2) := by decide +kernel
theorem dX5_make_91 : decode cX5_make 91 = .ok (.aload_n 0, 1) := by decide +kernel
theorem dX5_make_92 : decode cX5_make 92 = .ok (.getfield 44, 3) := by decide +kernel
theorem dX5_make_95 : decode cX5_make 95 = .ok (.imul, 1) := by decide +kernel
theorem dX5_make_96 : decode cX5_make 96 = .ok (.iload_n 3, 1) := by decide +kernel
theorem dX5_make_97 : decode cX5_make 97 = .ok (.iadd, 1) := by decide +kernel
theorem dX5_make_98 : decode cX5_make 98 = .ok (.aload_n 0, 1) := by decide +kernel
theorem dX5_make_99 : decode cX5_make 99 = .ok (.aload_n 0, 1) := by decide +kernel
theorem dX5_make_100 : decode cX5_make 100 = .ok (.getfield 44, 3) := by decide +kernel
theorem dX5_make_103 : decode cX5_make 103 = .ok (.invokevirtual 59, 3) := by decide +kernel
theorem dX5_make_106 : decode cX5_make 106 = .ok (.iastore, 1) := by decide +kernel
theorem dX5_make_107 : decode cX5_make 107 = .ok (.iinc 3 1, 3) := by decide +kernel
theorem dX5_make_110 : decode cX5_make 110 = .ok (.goto (-30), 3) := by decide +kernel
theorem dX5_make_113 : decode cX5_make 113 = .ok (.iconst 4, 1) := by decide +kernel
theorem dX5_make_114 : decode cX5_make 114 = .ok (.iload_n 1, 1) := by decide +kernel
theorem dX5_make_115 : decode cX5_make 115 = .ok (.imul, 1) := by decide +kernel
theorem dX5_make_116 : decode cX5_make 116 = .ok (.istore_n 3, 1) := by decide +kernel
theorem dX5_make_117 : decode cX5_make 117 = .ok (.iconst 0, 1) := by decide +kernel
theorem dX5_make_118 : decode cX5_make 118 = .ok (.istore 4, 2) := by decide +kernel
theorem dX5_make_120 : decode cX5_make 120 = .ok (.iload 4, 2) := by decide +kernel
theorem dX5_make_122 : decode cX5_make 122 = .ok (.iload_n 3, 1) := by decide +kernel
theorem dX5_make_123 : decode cX5_make 123 = .ok (.if_icmp .ge 59, 3) := by decide +kernel
theorem dX5_make_126 : decode cX5_make 126 = .ok (.aload_n 0, 1) := by decide +kernel
theorem dX5_make_127 : decode cX5_make 127 = .ok (.getfield 7, 3) := by decide +kernel
theorem dX5_make_130 : decode cX5_make 130 = .ok (.aload_n 0, 1) := by decide +kernel
theorem dX5_make_131 : decode cX5_make 131 = .ok (.aload_n 0, 1) := by decide +kernel
theorem dX5_make_132 : decode cX5_make 132 = .ok (.getfield 44, 3) := by decide +kernel
theorem dX5_make_135 : decode cX5_make 135 = .ok (.iload 4, 2) := by decide +kernel
theorem dX5_make_137 : decode cX5_make 137 = .ok (.invokevirtual 63, 3) := by decide +kernel
theorem dX5_make_140 : decode cX5_make 140 = .ok (.iload 4, 2) := by decide +kernel
theorem dX5_make_142 : decode cX5_make 142 = .ok (.ifCond .ne 9, 3) := by decide +kernel
theorem dX5_make_145 : decode cX5_make 145 = .ok (.sipush 255, 3) := by decide +kernel
theorem dX5_make_148 : decode cX5_make 148 = .ok (.goto 27, 3) := by decide +kernel
theorem dX5_make_151 : decode cX5_make 151 = .ok (.iload 4, 2) := by decide +kernel
theorem dX5_make_153 : decode cX5_make 153 = .ok (.iload_n 3, 1) := by decide +kernel
theorem dX5_make_154 : decode cX5_make 154 = .ok (.iconst 1, 1) := by decide +kernel
theorem dX5_make_155 : decode cX5_make 155 = .ok (.isub, 1) := by decide +kernel
theorem dX5_make_156 : decode cX5_make 156 = .ok (.if_icmp .ne 9, 3) := by decide +kernel
theorem dX5_make_159 : decode cX5_make 159 = .ok (.sipush 254, 3) := by decide +kernel
theorem dX5_make_162 : decode cX5_make 162 = .ok (.goto 13, 3) := by decide +kernel
theorem dX5_make_165 : decode cX5_make 165 = .ok (.aload_n 0, 1) := by decide +kernel
theorem dX5_make_166 : decode cX5_make 166 = .ok (.aload_n 0, 1) := by decide +kernel
theorem dX5_make_167 : decode cX5_make 167 = .ok (.getfield 44, 3) := by decide +kernel
theorem dX5_make_170 : decode cX5_make 170 = .ok (.iload 4, 2) := by decide +kernel
theorem dX5_make_172 : decode cX5_make 172 = .ok (.invokevirtual 67, 3) := by decide +kernel
theorem dX5_make_175 : decode cX5_make 175 = .ok (.iastore, 1) := by decide +kernel
theorem dX5_make_176 : decode cX5_make 176 = .ok (.iinc 4 1, 3) := by decide +kernel
theorem dX5_make_179 : decode cX5_make 179 = .ok (.goto (-59), 3) := by decide +kernel
theorem dX5_make_182 : decode cX5_make 182 = .ok (.aload_n 0, 1) := by decide +kernel
theorem dX5_make_183 : decode cX5_make 183 = .ok (.dup, 1) := by decide +kernel
theorem dX5_make_184 : decode cX5_make 184 = .ok (.getfield 44, 3) := by decide +kernel
theorem dX5_make_187 : decode cX5_make 187 = .ok (.iconst 1, 1) := by decide +kernel
theorem dX5_make_188 : decode cX5_make 188 = .ok (.iadd, 1) := by decide +kernel
theorem dX5_make_189 : decode cX5_make 189 = .ok (.putfield 44, 3) := by decide +kernel
theorem dX5_make_192 : decode cX5_make 192 = .ok (.aload_n 0, 1) := by decide +kernel
theorem dX5_make_193 : decode cX5_make 193 = .ok (.getfield 44, 3) := by decide +kernel
theorem dX5_make_196 : decode cX5_make 196 = .ok (.iconst 1, 1) := by decide +kernel
theorem dX5_make_197 : decode cX5_make 197 = .ok (.isub, 1) := by decide +kernel
theorem dX5_make_198 : decode cX5_make 198 = .ok (.ireturn, 1) := by decide +kernel
set_option maxRecDepth 20000 in
theorem ggX5_grow_X5_isFile : GoodIn wsX5_grow wsX5_isFile := goodIn_r _ [8, 9, 10, 11, 7, 12, 41, 42, 43, 44, 45, 46, 47, 48, 49, 50, 51, 52, 53] (by decide +kernel) (by decide +kernel)
set_option maxRecDepth 20000 in
theorem gX5_grow_X5_isFile : GoodIn wsX5_grow (wsV RX5 70 RX5 yX5_isFile wsX5_isFile) := goodIn_app (goodIn_of _ (by decide +kernel)) ggX5_grow_X5_isFile
set_option maxRecDepth 20000 in
theorem ggX5_grow_X5_isGone : GoodIn wsX5_grow wsX5_isGone := goodIn_r _ [16, 17, 41, 42, 43, 44, 45, 46, 47, 48, 49, 50, 51, 52, 53] (by decide +kernel) (by decide +kernel)
set_option maxRecDepth 20000 in
theorem gX5_grow_X5_isGone : GoodIn wsX5_grow (wsV RX5 74 RX5 yX5_isGone wsX5_isGone) := goodIn_app (goodIn_of _ (by decide +kernel)) ggX5_grow_X5_isGone
set_option maxRecDepth 20000 in
theorem ggX5_grow_X5_frees : GoodIn wsX5_grow wsX5_frees := goodIn_r _ [21, 22, 41, 42, 43, 44, 45, 46, 47, 48, 49, 50, 51, 52, 53] (by decide +kernel) (by decide +kernel)
set_option maxRecDepth 20000 in
theorem gX5_grow_X5_frees : GoodIn wsX5_grow (wsV RX5 51 RX5 yX5_frees wsX5_frees) := goodIn_app (goodIn_of _ (by decide +kernel)) ggX5_grow_X5_frees
set_option maxRecDepth 20000 in
theorem ggX5_grow_X5_goes : GoodIn wsX5_grow wsX5_goes := goodIn_r _ [26, 27, 41, 42, 43, 44, 45, 46, 47, 48, 49, 50, 51, 52, 53] (by decide +kernel) (by decide +kernel)
set_option maxRecDepth 20000 in
theorem gX5_grow_X5_goes : GoodIn wsX5_grow (wsV RX5 55 RX5 yX5_goes wsX5_goes) := goodIn_app (goodIn_of _ (by decide +kernel)) ggX5_grow_X5_goes
set_option maxRecDepth 20000 in
theorem ggX5_grow_X5_takes : GoodIn wsX5_grow wsX5_takes := goodIn_r _ [31, 22, 41, 42, 43, 44, 45, 46, 47, 48, 49, 50, 51, 52, 53] (by decide +kernel) (by decide +kernel)
set_option maxRecDepth 20000 in
theorem gX5_grow_X5_takes : GoodIn wsX5_grow (wsV RX5 59 RX5 yX5_takes wsX5_takes) := goodIn_app (goodIn_of _ (by decide +kernel)) ggX5_grow_X5_takes
set_option maxRecDepth 20000 in
theorem ggX5_grow_X5_place : GoodIn wsX5_grow wsX5_place := goodIn_r _ [35, 2, 41, 42, 43, 44, 45, 46, 47, 48, 49, 50, 51, 52, 53] (by decide +kernel) (by decide +kernel)
set_option maxRecDepth 20000 in
theorem gX5_grow_X5_place : GoodIn wsX5_grow (wsV RX5 63 RX5 yX5_place wsX5_place) := goodIn_app (goodIn_of _ (by decide +kernel)) ggX5_grow_X5_place
set_option maxRecDepth 20000 in
theorem ggX5_grow_X5_byRule : GoodIn wsX5_grow wsX5_byRule := goodIn_r _ [39, 40, 41, 42, 43, 44, 45, 46, 47, 48, 49, 50, 51, 52, 53] (by decide +kernel) (by decide +kernel)
set_option maxRecDepth 20000 in
theorem gX5_grow_X5_byRule : GoodIn wsX5_grow (wsV RX5 67 RX5 yX5_byRule wsX5_byRule) := goodIn_app (goodIn_of _ (by decide +kernel)) ggX5_grow_X5_byRule
theorem dX5_grow_0 : decode cX5_grow 0 = .ok (.aload_n 0, 1) := by decide +kernel
theorem dX5_grow_1 : decode cX5_grow 1 = .ok (.iload_n 1, 1) := by decide +kernel
theorem dX5_grow_2 : decode cX5_grow 2 = .ok (.invokevirtual 70, 3) := by decide +kernel
theorem dX5_grow_5 : decode cX5_grow 5 = .ok (.istore_n 2, 1) := by decide +kernel
theorem dX5_grow_6 : decode cX5_grow 6 = .ok (.aload_n 0, 1) := by decide +kernel
theorem dX5_grow_7 : decode cX5_grow 7 = .ok (.iload_n 2, 1) := by decide +kernel
theorem dX5_grow_8 : decode cX5_grow 8 = .ok (.iload_n 2, 1) := by decide +kernel
theorem dX5_grow_9 : decode cX5_grow 9 = .ok (.ifCond .eq 33, 3) := by decide +kernel
theorem dX5_grow_12 : decode cX5_grow 12 = .ok (.aload_n 0, 1) := by decide +kernel
theorem dX5_grow_13 : decode cX5_grow 13 = .ok (.iload_n 1, 1) := by decide +kernel
theorem dX5_grow_14 : decode cX5_grow 14 = .ok (.invokevirtual 74, 3) := by decide +kernel
theorem dX5_grow_17 : decode cX5_grow 17 = .ok (.ifCond .ne 25, 3) := by decide +kernel
theorem dX5_grow_20 : decode cX5_grow 20 = .ok (.aload_n 0, 1) := by decide +kernel
theorem dX5_grow_21 : decode cX5_grow 21 = .ok (.getfield 19, 3) := by decide +kernel
theorem dX5_grow_24 : decode cX5_grow 24 = .ok (.iload_n 1, 1) := by decide +kernel
theorem dX5_grow_25 : decode cX5_grow 25 = .ok (.iaload, 1) := by decide +kernel
theorem dX5_grow_26 : decode cX5_grow 26 = .ok (.bipush 8, 2) := by decide +kernel
theorem dX5_grow_28 : decode cX5_grow 28 = .ok (.if_icmp .ge 14, 3) := by decide +kernel
theorem dX5_grow_31 : decode cX5_grow 31 = .ok (.aload_n 0, 1) := by decide +kernel
theorem dX5_grow_32 : decode cX5_grow 32 = .ok (.invokevirtual 51, 3) := by decide +kernel
theorem dX5_grow_35 : decode cX5_grow 35 = .ok (.ifCond .le 7, 3) := by decide +kernel
theorem dX5_grow_38 : decode cX5_grow 38 = .ok (.iconst 1, 1) := by decide +kernel
theorem dX5_grow_39 : decode cX5_grow 39 = .ok (.goto 4, 3) := by decide +kernel
theorem dX5_grow_42 : decode cX5_grow 42 = .ok (.iconst 0, 1) := by decide +kernel
theorem dX5_grow_43 : decode cX5_grow 43 = .ok (.iconst 1, 1) := by decide +kernel
theorem dX5_grow_44 : decode cX5_grow 44 = .ok (.invokevirtual 55, 3) := by decide +kernel
theorem dX5_grow_47 : decode cX5_grow 47 = .ok (.ifCond .ne 5, 3) := by decide +kernel
theorem dX5_grow_50 : decode cX5_grow 50 = .ok (.iconst 0, 1) := by decide +kernel
theorem dX5_grow_51 : decode cX5_grow 51 = .ok (.ireturn, 1) := by decide +kernel
theorem dX5_grow_52 : decode cX5_grow 52 = .ok (.iconst 4, 1) := by decide +kernel
theorem dX5_grow_53 : decode cX5_grow 53 = .ok (.aload_n 0, 1) := by decide +kernel
theorem dX5_grow_54 : decode cX5_grow 54 = .ok (.getfield 19, 3) := by decide +kernel
theorem dX5_grow_57 : decode cX5_grow 57 = .ok (.iload_n 1, 1) := by decide +kernel
theorem dX5_grow_58 : decode cX5_grow 58 = .ok (.iaload, 1) := by decide +kernel
theorem dX5_grow_59 : decode cX5_grow 59 = .ok (.imul, 1) := by decide +kernel
theorem dX5_grow_60 : decode cX5_grow 60 = .ok (.istore_n 3, 1) := by decide +kernel
theorem dX5_grow_61 : decode cX5_grow 61 = .ok (.aload_n 0, 1) := by decide +kernel
theorem dX5_grow_62 : decode cX5_grow 62 = .ok (.iload_n 1, 1) := by decide +kernel
theorem dX5_grow_63 : decode cX5_grow 63 = .ok (.invokevirtual 59, 3) := by decide +kernel
theorem dX5_grow_66 : decode cX5_grow 66 = .ok (.istore 4, 2) := by decide +kernel
theorem dX5_grow_68 : decode cX5_grow 68 = .ok (.aload_n 0, 1) := by decide +kernel
theorem dX5_grow_69 : decode cX5_grow 69 = .ok (.getfield 31, 3) := by decide +kernel
theorem dX5_grow_72 : decode cX5_grow 72 = .ok (.bipush 8, 2) := by decide +kernel
theorem dX5_grow_74 : decode cX5_grow 74 = .ok (.iload_n 1, 1) := by decide +kernel
theorem dX5_grow_75 : decode cX5_grow 75 = .ok (.imul, 1) := by decide +kernel
theorem dX5_grow_76 : decode cX5_grow 76 = .ok (.aload_n 0, 1) := by decide +kernel
theorem dX5_grow_77 : decode cX5_grow 77 = .ok (.getfield 19, 3) := by decide +kernel
theorem dX5_grow_80 : decode cX5_grow 80 = .ok (.iload_n 1, 1) := by decide +kernel
theorem dX5_grow_81 : decode cX5_grow 81 = .ok (.iaload, 1) := by decide +kernel
theorem dX5_grow_82 : decode cX5_grow 82 = .ok (.iadd, 1) := by decide +kernel
theorem dX5_grow_83 : decode cX5_grow 83 = .ok (.iload 4, 2) := by decide +kernel
theorem dX5_grow_85 : decode cX5_grow 85 = .ok (.iastore, 1) := by decide +kernel
theorem dX5_grow_86 : decode cX5_grow 86 = .ok (.aload_n 0, 1) := by decide +kernel
theorem dX5_grow_87 : decode cX5_grow 87 = .ok (.getfield 19, 3) := by decide +kernel
theorem dX5_grow_90 : decode cX5_grow 90 = .ok (.iload_n 1, 1) := by decide +kernel
theorem dX5_grow_91 : decode cX5_grow 91 = .ok (.dup2, 1) := by decide +kernel
theorem dX5_grow_92 : decode cX5_grow 92 = .ok (.iaload, 1) := by decide +kernel
theorem dX5_grow_93 : decode cX5_grow 93 = .ok (.iconst 1, 1) := by decide +kernel
theorem dX5_grow_94 : decode cX5_grow 94 = .ok (.iadd, 1) := by decide +kernel
theorem dX5_grow_95 : decode cX5_grow 95 = .ok (.iastore, 1) := by decide +kernel
theorem dX5_grow_96 : decode cX5_grow 96 = .ok (.iload_n 3, 1) := by decide +kernel
theorem dX5_grow_97 : decode cX5_grow 97 = .ok (.iconst 1, 1) := by decide +kernel
theorem dX5_grow_98 : decode cX5_grow 98 = .ok (.isub, 1) := by decide +kernel
theorem dX5_grow_99 : decode cX5_grow 99 = .ok (.istore 5, 2) := by decide +kernel
theorem dX5_grow_101 : decode cX5_grow 101 = .ok (.iload 5, 2) := by decide +kernel
theorem dX5_grow_103 : decode cX5_grow 103 = .ok (.iload_n 3, 1) := by decide +kernel
theorem dX5_grow_104 : decode cX5_grow 104 = .ok (.iconst 4, 1) := by decide +kernel
theorem dX5_grow_105 : decode cX5_grow 105 = .ok (.iadd, 1) := by decide +kernel
theorem dX5_grow_106 : decode cX5_grow 106 = .ok (.if_icmp .ge 44, 3) := by decide +kernel
theorem dX5_grow_109 : decode cX5_grow 109 = .ok (.aload_n 0, 1) := by decide +kernel
theorem dX5_grow_110 : decode cX5_grow 110 = .ok (.getfield 7, 3) := by decide +kernel
theorem dX5_grow_113 : decode cX5_grow 113 = .ok (.aload_n 0, 1) := by decide +kernel
theorem dX5_grow_114 : decode cX5_grow 114 = .ok (.iload_n 1, 1) := by decide +kernel
theorem dX5_grow_115 : decode cX5_grow 115 = .ok (.iload 5, 2) := by decide +kernel
theorem dX5_grow_117 : decode cX5_grow 117 = .ok (.invokevirtual 63, 3) := by decide +kernel
theorem dX5_grow_120 : decode cX5_grow 120 = .ok (.iload 5, 2) := by decide +kernel
theorem dX5_grow_122 : decode cX5_grow 122 = .ok (.iload_n 3, 1) := by decide +kernel
theorem dX5_grow_123 : decode cX5_grow 123 = .ok (.iconst 4, 1) := by decide +kernel
theorem dX5_grow_124 : decode cX5_grow 124 = .ok (.iadd, 1) := by decide +kernel
theorem dX5_grow_125 : decode cX5_grow 125 = .ok (.iconst 1, 1) := by decide +kernel
theorem dX5_grow_126 : decode cX5_grow 126 = .ok (.isub, 1) := by decide +kernel
theorem dX5_grow_127 : decode cX5_grow 127 = .ok (.if_icmp .ne 9, 3) := by decide +kernel
theorem dX5_grow_130 : decode cX5_grow 130 = .ok (.sipush 254, 3) := by decide +kernel
theorem dX5_grow_133 : decode cX5_grow 133 = .ok (.goto 10, 3) := by decide +kernel
theorem dX5_grow_136 : decode cX5_grow 136 = .ok (.aload_n 0, 1) := by decide +kernel
theorem dX5_grow_137 : decode cX5_grow 137 = .ok (.iload_n 1, 1) := by decide +kernel
theorem dX5_grow_138 : decode cX5_grow 138 = .ok (.iload 5, 2) := by decide +kernel
theorem dX5_grow_140 : decode cX5_grow 140 = .ok (.invokevirtual 67, 3) := by decide +kernel
theorem dX5_grow_143 : decode cX5_grow 143 = .ok (.iastore, 1) := by decide +kernel
theorem dX5_grow_144 : decode cX5_grow 144 = .ok (.iinc 5 1, 3) := by decide +kernel
theorem dX5_grow_147 : decode cX5_grow 147 = .ok (.goto (-46), 3) := by decide +kernel
theorem dX5_grow_150 : decode cX5_grow 150 = .ok (.iload 4, 2) := by decide +kernel
theorem dX5_grow_152 : decode cX5_grow 152 = .ok (.ireturn, 1) := by decide +kernel
set_option maxRecDepth 20000 in
theorem ggX5_move_X5_isFile : GoodIn wsX5_move wsX5_isFile := goodIn_r _ [9, 10, 11, 12, 8, 13, 32, 33, 34, 35, 36, 37, 38, 39, 40, 41, 42, 43, 44] (by decide +kernel) (by decide +kernel)
set_option maxRecDepth 20000 in
theorem gX5_move_X5_isFile : GoodIn wsX5_move (wsV RX5 70 RX5 yX5_isFile wsX5_isFile) := goodIn_app (goodIn_of _ (by decide +kernel)) ggX5_move_X5_isFile
set_option maxRecDepth 20000 in
theorem ggX5_move_X5_isGone : GoodIn wsX5_move wsX5_isGone := goodIn_r _ [17, 18, 32, 33, 34, 35, 36, 37, 38, 39, 40, 41, 42, 43, 44] (by decide +kernel) (by decide +kernel)
set_option maxRecDepth 20000 in
theorem gX5_move_X5_isGone : GoodIn wsX5_move (wsV RX5 74 RX5 yX5_isGone wsX5_isGone) := goodIn_app (goodIn_of _ (by decide +kernel)) ggX5_move_X5_isGone
set_option maxRecDepth 20000 in
theorem ggX5_move_X5_frees : GoodIn wsX5_move wsX5_frees := goodIn_r _ [22, 4, 32, 33, 34, 35, 36, 37, 38, 39, 40, 41, 42, 43, 44] (by decide +kernel) (by decide +kernel)
set_option maxRecDepth 20000 in
theorem gX5_move_X5_frees : GoodIn wsX5_move (wsV RX5 51 RX5 yX5_frees wsX5_frees) := goodIn_app (goodIn_of _ (by decide +kernel)) ggX5_move_X5_frees
set_option maxRecDepth 20000 in
theorem ggX5_move_X5_goes : GoodIn wsX5_move wsX5_goes := goodIn_r _ [26, 27, 32, 33, 34, 35, 36, 37, 38, 39, 40, 41, 42, 43, 44] (by decide +kernel) (by decide +kernel)
set_option maxRecDepth 20000 in
theorem gX5_move_X5_goes : GoodIn wsX5_move (wsV RX5 55 RX5 yX5_goes wsX5_goes) := goodIn_app (goodIn_of _ (by decide +kernel)) ggX5_move_X5_goes
set_option maxRecDepth 20000 in
theorem ggX5_move_X5_takes : GoodIn wsX5_move wsX5_takes := goodIn_r _ [31, 4, 32, 33, 34, 35, 36, 37, 38, 39, 40, 41, 42, 43, 44] (by decide +kernel) (by decide +kernel)
set_option maxRecDepth 20000 in
theorem gX5_move_X5_takes : GoodIn wsX5_move (wsV RX5 59 RX5 yX5_takes wsX5_takes) := goodIn_app (goodIn_of _ (by decide +kernel)) ggX5_move_X5_takes
theorem dX5_move_0 : decode cX5_move 0 = .ok (.aload_n 0, 1) := by decide +kernel
theorem dX5_move_1 : decode cX5_move 1 = .ok (.iload_n 1, 1) := by decide +kernel
theorem dX5_move_2 : decode cX5_move 2 = .ok (.invokevirtual 70, 3) := by decide +kernel
theorem dX5_move_5 : decode cX5_move 5 = .ok (.istore_n 2, 1) := by decide +kernel
theorem dX5_move_6 : decode cX5_move 6 = .ok (.aload_n 0, 1) := by decide +kernel
theorem dX5_move_7 : decode cX5_move 7 = .ok (.iload_n 2, 1) := by decide +kernel
theorem dX5_move_8 : decode cX5_move 8 = .ok (.iload_n 2, 1) := by decide +kernel
theorem dX5_move_9 : decode cX5_move 9 = .ok (.ifCond .eq 28, 3) := by decide +kernel
theorem dX5_move_12 : decode cX5_move 12 = .ok (.aload_n 0, 1) := by decide +kernel
theorem dX5_move_13 : decode cX5_move 13 = .ok (.iload_n 1, 1) := by decide +kernel
theorem dX5_move_14 : decode cX5_move 14 = .ok (.invokevirtual 74, 3) := by decide +kernel
theorem dX5_move_17 : decode cX5_move 17 = .ok (.ifCond .ne 20, 3) := by decide +kernel
theorem dX5_move_20 : decode cX5_move 20 = .ok (.aload_n 0, 1) := by decide +kernel
theorem dX5_move_21 : decode cX5_move 21 = .ok (.getfield 19, 3) := by decide +kernel
theorem dX5_move_24 : decode cX5_move 24 = .ok (.iload_n 1, 1) := by decide +kernel
theorem dX5_move_25 : decode cX5_move 25 = .ok (.iaload, 1) := by decide +kernel
theorem dX5_move_26 : decode cX5_move 26 = .ok (.aload_n 0, 1) := by decide +kernel
theorem dX5_move_27 : decode cX5_move 27 = .ok (.invokevirtual 51, 3) := by decide +kernel
theorem dX5_move_30 : decode cX5_move 30 = .ok (.if_icmp .gt 7, 3) := by decide +kernel
theorem dX5_move_33 : decode cX5_move 33 = .ok (.iconst 1, 1) := by decide +kernel
theorem dX5_move_34 : decode cX5_move 34 = .ok (.goto 4, 3) := by decide +kernel
theorem dX5_move_37 : decode cX5_move 37 = .ok (.iconst 0, 1) := by decide +kernel
theorem dX5_move_38 : decode cX5_move 38 = .ok (.iconst 1, 1) := by decide +kernel
theorem dX5_move_39 : decode cX5_move 39 = .ok (.invokevirtual 55, 3) := by decide +kernel
theorem dX5_move_42 : decode cX5_move 42 = .ok (.ifCond .ne 5, 3) := by decide +kernel
theorem dX5_move_45 : decode cX5_move 45 = .ok (.iconst 0, 1) := by decide +kernel
theorem dX5_move_46 : decode cX5_move 46 = .ok (.ireturn, 1) := by decide +kernel
theorem dX5_move_47 : decode cX5_move 47 = .ok (.iconst 0, 1) := by decide +kernel
theorem dX5_move_48 : decode cX5_move 48 = .ok (.istore_n 3, 1) := by decide +kernel
theorem dX5_move_49 : decode cX5_move 49 = .ok (.iload_n 3, 1) := by decide +kernel
theorem dX5_move_50 : decode cX5_move 50 = .ok (.aload_n 0, 1) := by decide +kernel
theorem dX5_move_51 : decode cX5_move 51 = .ok (.getfield 19, 3) := by decide +kernel
theorem dX5_move_54 : decode cX5_move 54 = .ok (.iload_n 1, 1) := by decide +kernel
theorem dX5_move_55 : decode cX5_move 55 = .ok (.iaload, 1) := by decide +kernel
theorem dX5_move_56 : decode cX5_move 56 = .ok (.if_icmp .ge 81, 3) := by decide +kernel
theorem dX5_move_59 : decode cX5_move 59 = .ok (.aload_n 0, 1) := by decide +kernel
theorem dX5_move_60 : decode cX5_move 60 = .ok (.getfield 31, 3) := by decide +kernel
theorem dX5_move_63 : decode cX5_move 63 = .ok (.bipush 8, 2) := by decide +kernel
theorem dX5_move_65 : decode cX5_move 65 = .ok (.iload_n 1, 1) := by decide +kernel
theorem dX5_move_66 : decode cX5_move 66 = .ok (.imul, 1) := by decide +kernel
theorem dX5_move_67 : decode cX5_move 67 = .ok (.iload_n 3, 1) := by decide +kernel
theorem dX5_move_68 : decode cX5_move 68 = .ok (.iadd, 1) := by decide +kernel
theorem dX5_move_69 : decode cX5_move 69 = .ok (.iaload, 1) := by decide +kernel
theorem dX5_move_70 : decode cX5_move 70 = .ok (.istore 4, 2) := by decide +kernel
theorem dX5_move_72 : decode cX5_move 72 = .ok (.aload_n 0, 1) := by decide +kernel
theorem dX5_move_73 : decode cX5_move 73 = .ok (.iload_n 1, 1) := by decide +kernel
theorem dX5_move_74 : decode cX5_move 74 = .ok (.invokevirtual 59, 3) := by decide +kernel
theorem dX5_move_77 : decode cX5_move 77 = .ok (.istore 5, 2) := by decide +kernel
theorem dX5_move_79 : decode cX5_move 79 = .ok (.iconst 0, 1) := by decide +kernel
theorem dX5_move_80 : decode cX5_move 80 = .ok (.istore 6, 2) := by decide +kernel
theorem dX5_move_82 : decode cX5_move 82 = .ok (.iload 6, 2) := by decide +kernel
theorem dX5_move_84 : decode cX5_move 84 = .ok (.iconst 4, 1) := by decide +kernel
theorem dX5_move_85 : decode cX5_move 85 = .ok (.if_icmp .ge 33, 3) := by decide +kernel
theorem dX5_move_88 : decode cX5_move 88 = .ok (.aload_n 0, 1) := by decide +kernel
theorem dX5_move_89 : decode cX5_move 89 = .ok (.getfield 7, 3) := by decide +kernel
theorem dX5_move_92 : decode cX5_move 92 = .ok (.iconst 4, 1) := by decide +kernel
theorem dX5_move_93 : decode cX5_move 93 = .ok (.iload 5, 2) := by decide +kernel
theorem dX5_move_95 : decode cX5_move 95 = .ok (.imul, 1) := by decide +kernel
theorem dX5_move_96 : decode cX5_move 96 = .ok (.iload 6, 2) := by decide +kernel
theorem dX5_move_98 : decode cX5_move 98 = .ok (.iadd, 1) := by decide +kernel
theorem dX5_move_99 : decode cX5_move 99 = .ok (.aload_n 0, 1) := by decide +kernel
theorem dX5_move_100 : decode cX5_move 100 = .ok (.getfield 7, 3) := by decide +kernel
theorem dX5_move_103 : decode cX5_move 103 = .ok (.iconst 4, 1) := by decide +kernel
theorem dX5_move_104 : decode cX5_move 104 = .ok (.iload 4, 2) := by decide +kernel
theorem dX5_move_106 : decode cX5_move 106 = .ok (.imul, 1) := by decide +kernel
theorem dX5_move_107 : decode cX5_move 107 = .ok (.iload 6, 2) := by decide +kernel
theorem dX5_move_109 : decode cX5_move 109 = .ok (.iadd, 1) := by decide +kernel
theorem dX5_move_110 : decode cX5_move 110 = .ok (.iaload, 1) := by decide +kernel
theorem dX5_move_111 : decode cX5_move 111 = .ok (.iastore, 1) := by decide +kernel
theorem dX5_move_112 : decode cX5_move 112 = .ok (.iinc 6 1, 3) := by decide +kernel
theorem dX5_move_115 : decode cX5_move 115 = .ok (.goto (-33), 3) := by decide +kernel
theorem dX5_move_118 : decode cX5_move 118 = .ok (.aload_n 0, 1) := by decide +kernel
theorem dX5_move_119 : decode cX5_move 119 = .ok (.getfield 31, 3) := by decide +kernel
theorem dX5_move_122 : decode cX5_move 122 = .ok (.bipush 8, 2) := by decide +kernel
theorem dX5_move_124 : decode cX5_move 124 = .ok (.iload_n 1, 1) := by decide +kernel
theorem dX5_move_125 : decode cX5_move 125 = .ok (.imul, 1) := by decide +kernel
theorem dX5_move_126 : decode cX5_move 126 = .ok (.iload_n 3, 1) := by decide +kernel
theorem dX5_move_127 : decode cX5_move 127 = .ok (.iadd, 1) := by decide +kernel
theorem dX5_move_128 : decode cX5_move 128 = .ok (.iload 5, 2) := by decide +kernel
theorem dX5_move_130 : decode cX5_move 130 = .ok (.iastore, 1) := by decide +kernel
theorem dX5_move_131 : decode cX5_move 131 = .ok (.iinc 3 1, 3) := by decide +kernel
theorem dX5_move_134 : decode cX5_move 134 = .ok (.goto (-85), 3) := by decide +kernel
theorem dX5_move_137 : decode cX5_move 137 = .ok (.iconst 0, 1) := by decide +kernel
theorem dX5_move_138 : decode cX5_move 138 = .ok (.istore_n 3, 1) := by decide +kernel
theorem dX5_move_139 : decode cX5_move 139 = .ok (.iload_n 3, 1) := by decide +kernel
theorem dX5_move_140 : decode cX5_move 140 = .ok (.bipush 40, 2) := by decide +kernel
theorem dX5_move_142 : decode cX5_move 142 = .ok (.if_icmp .ge 91, 3) := by decide +kernel
theorem dX5_move_145 : decode cX5_move 145 = .ok (.iconst 0, 1) := by decide +kernel
theorem dX5_move_146 : decode cX5_move 146 = .ok (.istore 4, 2) := by decide +kernel
theorem dX5_move_148 : decode cX5_move 148 = .ok (.iconst 0, 1) := by decide +kernel
theorem dX5_move_149 : decode cX5_move 149 = .ok (.istore 5, 2) := by decide +kernel
theorem dX5_move_151 : decode cX5_move 151 = .ok (.iload 5, 2) := by decide +kernel
theorem dX5_move_153 : decode cX5_move 153 = .ok (.aload_n 0, 1) := by decide +kernel
theorem dX5_move_154 : decode cX5_move 154 = .ok (.getfield 19, 3) := by decide +kernel
theorem dX5_move_157 : decode cX5_move 157 = .ok (.iload_n 1, 1) := by decide +kernel
theorem dX5_move_158 : decode cX5_move 158 = .ok (.iaload, 1) := by decide +kernel
theorem dX5_move_159 : decode cX5_move 159 = .ok (.if_icmp .ge 37, 3) := by decide +kernel
theorem dX5_move_162 : decode cX5_move 162 = .ok (.iload 4, 2) := by decide +kernel
theorem dX5_move_164 : decode cX5_move 164 = .ok (.ifCond .ne 19, 3) := by decide +kernel
theorem dX5_move_167 : decode cX5_move 167 = .ok (.aload_n 0, 1) := by decide +kernel
theorem dX5_move_168 : decode cX5_move 168 = .ok (.getfield 31, 3) := by decide +kernel
theorem dX5_move_171 : decode cX5_move 171 = .ok (.bipush 8, 2) := by decide +kernel
theorem dX5_move_173 : decode cX5_move 173 = .ok (.iload_n 1, 1) := by decide +kernel
theorem dX5_move_174 : decode cX5_move 174 = .ok (.imul, 1) := by decide +kernel
theorem dX5_move_175 : decode cX5_move 175 = .ok (.iload 5, 2) := by decide +kernel
theorem dX5_move_177 : decode cX5_move 177 = .ok (.iadd, 1) := by decide +kernel
theorem dX5_move_178 : decode cX5_move 178 = .ok (.iaload, 1) := by decide +kernel
theorem dX5_move_179 : decode cX5_move 179 = .ok (.iload_n 3, 1) := by decide +kernel
theorem dX5_move_180 : decode cX5_move 180 = .ok (.if_icmp .ne 7, 3) := by decide +kernel
theorem dX5_move_183 : decode cX5_move 183 = .ok (.iconst 1, 1) := by decide +kernel
theorem dX5_move_184 : decode cX5_move 184 = .ok (.goto 4, 3) := by decide +kernel
theorem dX5_move_187 : decode cX5_move 187 = .ok (.iconst 0, 1) := by decide +kernel
theorem dX5_move_188 : decode cX5_move 188 = .ok (.istore 4, 2) := by decide +kernel
theorem dX5_move_190 : decode cX5_move 190 = .ok (.iinc 5 1, 3) := by decide +kernel
theorem dX5_move_193 : decode cX5_move 193 = .ok (.goto (-42), 3) := by decide +kernel
theorem dX5_move_196 : decode cX5_move 196 = .ok (.aload_n 0, 1) := by decide +kernel
theorem dX5_move_197 : decode cX5_move 197 = .ok (.getfield 13, 3) := by decide +kernel
theorem dX5_move_200 : decode cX5_move 200 = .ok (.iload_n 3, 1) := by decide +kernel
theorem dX5_move_201 : decode cX5_move 201 = .ok (.aload_n 0, 1) := by decide +kernel
theorem dX5_move_202 : decode cX5_move 202 = .ok (.getfield 13, 3) := by decide +kernel
theorem dX5_move_205 : decode cX5_move 205 = .ok (.iload_n 3, 1) := by decide +kernel
theorem dX5_move_206 : decode cX5_move 206 = .ok (.iaload, 1) := by decide +kernel
theorem dX5_move_207 : decode cX5_move 207 = .ok (.iload_n 1, 1) := by decide +kernel
theorem dX5_move_208 : decode cX5_move 208 = .ok (.if_icmp .ne 12, 3) := by decide +kernel
theorem dX5_move_211 : decode cX5_move 211 = .ok (.iload 4, 2) := by decide +kernel
theorem dX5_move_213 : decode cX5_move 213 = .ok (.ifCond .ne 7, 3) := by decide +kernel
theorem dX5_move_216 : decode cX5_move 216 = .ok (.iconst (-1), 1) := by decide +kernel
theorem dX5_move_217 : decode cX5_move 217 = .ok (.goto 9, 3) := by decide +kernel
theorem dX5_move_220 : decode cX5_move 220 = .ok (.aload_n 0, 1) := by decide +kernel
theorem dX5_move_221 : decode cX5_move 221 = .ok (.getfield 13, 3) := by decide +kernel
theorem dX5_move_224 : decode cX5_move 224 = .ok (.iload_n 3, 1) := by decide +kernel
theorem dX5_move_225 : decode cX5_move 225 = .ok (.iaload, 1) := by decide +kernel
theorem dX5_move_226 : decode cX5_move 226 = .ok (.iastore, 1) := by decide +kernel
theorem dX5_move_227 : decode cX5_move 227 = .ok (.iinc 3 1, 3) := by decide +kernel
theorem dX5_move_230 : decode cX5_move 230 = .ok (.goto (-91), 3) := by decide +kernel
theorem dX5_move_233 : decode cX5_move 233 = .ok (.aload_n 0, 1) := by decide +kernel
theorem dX5_move_234 : decode cX5_move 234 = .ok (.getfield 31, 3) := by decide +kernel
theorem dX5_move_237 : decode cX5_move 237 = .ok (.bipush 8, 2) := by decide +kernel
theorem dX5_move_239 : decode cX5_move 239 = .ok (.iload_n 1, 1) := by decide +kernel
theorem dX5_move_240 : decode cX5_move 240 = .ok (.imul, 1) := by decide +kernel
theorem dX5_move_241 : decode cX5_move 241 = .ok (.iaload, 1) := by decide +kernel
theorem dX5_move_242 : decode cX5_move 242 = .ok (.ireturn, 1) := by decide +kernel
set_option maxRecDepth 20000 in
theorem ggX5_checksumOf_X5_place : GoodIn wsX5_checksumOf wsX5_place := goodIn_r _ [7, 8, 9, 10, 11, 12, 13, 14, 15, 16, 17, 18, 19, 20, 21] (by decide +kernel) (by decide +kernel)
set_option maxRecDepth 20000 in
theorem gX5_checksumOf_X5_place : GoodIn wsX5_checksumOf (wsV RX5 63 RX5 yX5_place wsX5_place) := goodIn_app (goodIn_of _ (by decide +kernel)) ggX5_checksumOf_X5_place
theorem dX5_checksumOf_0 : decode cX5_checksumOf 0 = .ok (.iconst 0, 1) := by decide +kernel
theorem dX5_checksumOf_1 : decode cX5_checksumOf 1 = .ok (.istore_n 2, 1) := by decide +kernel
theorem dX5_checksumOf_2 : decode cX5_checksumOf 2 = .ok (.iconst 0, 1) := by decide +kernel
theorem dX5_checksumOf_3 : decode cX5_checksumOf 3 = .ok (.istore_n 3, 1) := by decide +kernel
theorem dX5_checksumOf_4 : decode cX5_checksumOf 4 = .ok (.iload_n 3, 1) := by decide +kernel
theorem dX5_checksumOf_5 : decode cX5_checksumOf 5 = .ok (.iconst 4, 1) := by decide +kernel
theorem dX5_checksumOf_6 : decode cX5_checksumOf 6 = .ok (.aload_n 0, 1) := by decide +kernel
theorem dX5_checksumOf_7 : decode cX5_checksumOf 7 = .ok (.getfield 19, 3) := by decide +kernel
theorem dX5_checksumOf_10 : decode cX5_checksumOf 10 = .ok (.iload_n 1, 1) := by decide +kernel
theorem dX5_checksumOf_11 : decode cX5_checksumOf 11 = .ok (.iaload, 1) := by decide +kernel
theorem dX5_checksumOf_12 : decode cX5_checksumOf 12 = .ok (.imul, 1) := by decide +kernel
theorem dX5_checksumOf_13 : decode cX5_checksumOf 13 = .ok (.if_icmp .ge 27, 3) := by decide +kernel
theorem dX5_checksumOf_16 : decode cX5_checksumOf 16 = .ok (.iload_n 2, 1) := by decide +kernel
theorem dX5_checksumOf_17 : decode cX5_checksumOf 17 = .ok (.aload_n 0, 1) := by decide +kernel
theorem dX5_checksumOf_18 : decode cX5_checksumOf 18 = .ok (.getfield 7, 3) := by decide +kernel
theorem dX5_checksumOf_21 : decode cX5_checksumOf 21 = .ok (.aload_n 0, 1) := by decide +kernel
theorem dX5_checksumOf_22 : decode cX5_checksumOf 22 = .ok (.iload_n 1, 1) := by decide +kernel
theorem dX5_checksumOf_23 : decode cX5_checksumOf 23 = .ok (.iload_n 3, 1) := by decide +kernel
theorem dX5_checksumOf_24 : decode cX5_checksumOf 24 = .ok (.invokevirtual 63, 3) := by decide +kernel
theorem dX5_checksumOf_27 : decode cX5_checksumOf 27 = .ok (.iaload, 1) := by decide +kernel
theorem dX5_checksumOf_28 : decode cX5_checksumOf 28 = .ok (.iload_n 3, 1) := by decide +kernel
theorem dX5_checksumOf_29 : decode cX5_checksumOf 29 = .ok (.iconst 1, 1) := by decide +kernel
theorem dX5_checksumOf_30 : decode cX5_checksumOf 30 = .ok (.iadd, 1) := by decide +kernel
theorem dX5_checksumOf_31 : decode cX5_checksumOf 31 = .ok (.imul, 1) := by decide +kernel
theorem dX5_checksumOf_32 : decode cX5_checksumOf 32 = .ok (.iadd, 1) := by decide +kernel
theorem dX5_checksumOf_33 : decode cX5_checksumOf 33 = .ok (.istore_n 2, 1) := by decide +kernel
theorem dX5_checksumOf_34 : decode cX5_checksumOf 34 = .ok (.iinc 3 1, 3) := by decide +kernel
theorem dX5_checksumOf_37 : decode cX5_checksumOf 37 = .ok (.goto (-33), 3) := by decide +kernel
theorem dX5_checksumOf_40 : decode cX5_checksumOf 40 = .ok (.iload_n 2, 1) := by decide +kernel
theorem dX5_checksumOf_41 : decode cX5_checksumOf 41 = .ok (.sipush 9973, 3) := by decide +kernel
theorem dX5_checksumOf_44 : decode cX5_checksumOf 44 = .ok (.irem, 1) := by decide +kernel
theorem dX5_checksumOf_45 : decode cX5_checksumOf 45 = .ok (.ireturn, 1) := by decide +kernel
set_option maxRecDepth 20000 in
theorem ggX5_throwAway_X5_isFile : GoodIn wsX5_throwAway wsX5_isFile := goodIn_r _ [11, 12, 13, 14, 10, 15, 39, 40, 41, 42, 43, 44, 45, 46, 47, 48, 49, 50, 51] (by decide +kernel) (by decide +kernel)
set_option maxRecDepth 20000 in
theorem gX5_throwAway_X5_isFile : GoodIn wsX5_throwAway (wsV RX5 70 RX5 yX5_isFile wsX5_isFile) := goodIn_app (goodIn_of _ (by decide +kernel)) ggX5_throwAway_X5_isFile
set_option maxRecDepth 20000 in
theorem ggX5_throwAway_X5_isGone : GoodIn wsX5_throwAway wsX5_isGone := goodIn_r _ [19, 5, 39, 40, 41, 42, 43, 44, 45, 46, 47, 48, 49, 50, 51] (by decide +kernel) (by decide +kernel)
set_option maxRecDepth 20000 in
theorem gX5_throwAway_X5_isGone : GoodIn wsX5_throwAway (wsV RX5 74 RX5 yX5_isGone wsX5_isGone) := goodIn_app (goodIn_of _ (by decide +kernel)) ggX5_throwAway_X5_isGone
set_option maxRecDepth 20000 in
theorem ggX5_throwAway_X5_goes : GoodIn wsX5_throwAway wsX5_goes := goodIn_r _ [23, 24, 39, 40, 41, 42, 43, 44, 45, 46, 47, 48, 49, 50, 51] (by decide +kernel) (by decide +kernel)
set_option maxRecDepth 20000 in
theorem gX5_throwAway_X5_goes : GoodIn wsX5_throwAway (wsV RX5 55 RX5 yX5_goes wsX5_goes) := goodIn_app (goodIn_of _ (by decide +kernel)) ggX5_throwAway_X5_goes
set_option maxRecDepth 20000 in
theorem ggX5_throwAway_X5_checksumOf : GoodIn wsX5_throwAway wsX5_checksumOf := goodIn_r _ [28, 29, 30, 31, 32, 33, 10, 34, 4, 39, 40, 41, 42, 43, 44, 45, 46, 47, 48, 49, 50, 51] (by decide +kernel) (by decide +kernel)
set_option maxRecDepth 20000 in
theorem gX5_throwAway_X5_checksumOf : GoodIn wsX5_throwAway (wsV RX5 80 RX5 yX5_checksumOf wsX5_checksumOf) := goodIn_app (goodIn_of _ (by decide +kernel)) ggX5_throwAway_X5_checksumOf
set_option maxRecDepth 20000 in
theorem ggX5_throwAway_X5_frees : GoodIn wsX5_throwAway wsX5_frees := goodIn_r _ [38, 6, 39, 40, 41, 42, 43, 44, 45, 46, 47, 48, 49, 50, 51] (by decide +kernel) (by decide +kernel)
set_option maxRecDepth 20000 in
theorem gX5_throwAway_X5_frees : GoodIn wsX5_throwAway (wsV RX5 51 RX5 yX5_frees wsX5_frees) := goodIn_app (goodIn_of _ (by decide +kernel)) ggX5_throwAway_X5_frees
theorem dX5_throwAway_0 : decode cX5_throwAway 0 = .ok (.aload_n 0, 1) := by decide +kernel
theorem dX5_throwAway_1 : decode cX5_throwAway 1 = .ok (.iload_n 1, 1) := by decide +kernel
theorem dX5_throwAway_2 : decode cX5_throwAway 2 = .ok (.invokevirtual 70, 3) := by decide +kernel
theorem dX5_throwAway_5 : decode cX5_throwAway 5 = .ok (.istore_n 2, 1) := by decide +kernel
theorem dX5_throwAway_6 : decode cX5_throwAway 6 = .ok (.aload_n 0, 1) := by decide +kernel
theorem dX5_throwAway_7 : decode cX5_throwAway 7 = .ok (.iload_n 2, 1) := by decide +kernel
theorem dX5_throwAway_8 : decode cX5_throwAway 8 = .ok (.iload_n 2, 1) := by decide +kernel
theorem dX5_throwAway_9 : decode cX5_throwAway 9 = .ok (.ifCond .eq 15, 3) := by decide +kernel
theorem dX5_throwAway_12 : decode cX5_throwAway 12 = .ok (.aload_n 0, 1) := by decide +kernel
theorem dX5_throwAway_13 : decode cX5_throwAway 13 = .ok (.iload_n 1, 1) := by decide +kernel
theorem dX5_throwAway_14 : decode cX5_throwAway 14 = .ok (.invokevirtual 74, 3) := by decide +kernel
theorem dX5_throwAway_17 : decode cX5_throwAway 17 = .ok (.ifCond .ne 7, 3) := by decide +kernel
theorem dX5_throwAway_20 : decode cX5_throwAway 20 = .ok (.iconst 1, 1) := by decide +kernel
theorem dX5_throwAway_21 : decode cX5_throwAway 21 = .ok (.goto 4, 3) := by decide +kernel
theorem dX5_throwAway_24 : decode cX5_throwAway 24 = .ok (.iconst 0, 1) := by decide +kernel
theorem dX5_throwAway_25 : decode cX5_throwAway 25 = .ok (.iconst 1, 1) := by decide +kernel
theorem dX5_throwAway_26 : decode cX5_throwAway 26 = .ok (.invokevirtual 55, 3) := by decide +kernel
theorem dX5_throwAway_29 : decode cX5_throwAway 29 = .ok (.ifCond .ne 5, 3) := by decide +kernel
theorem dX5_throwAway_32 : decode cX5_throwAway 32 = .ok (.iconst 0, 1) := by decide +kernel
theorem dX5_throwAway_33 : decode cX5_throwAway 33 = .ok (.ireturn, 1) := by decide +kernel
theorem dX5_throwAway_34 : decode cX5_throwAway 34 = .ok (.aload_n 0, 1) := by decide +kernel
theorem dX5_throwAway_35 : decode cX5_throwAway 35 = .ok (.dup, 1) := by decide +kernel
theorem dX5_throwAway_36 : decode cX5_throwAway 36 = .ok (.getfield 77, 3) := by decide +kernel
theorem dX5_throwAway_39 : decode cX5_throwAway 39 = .ok (.iconst 1, 1) := by decide +kernel
theorem dX5_throwAway_40 : decode cX5_throwAway 40 = .ok (.iadd, 1) := by decide +kernel
theorem dX5_throwAway_41 : decode cX5_throwAway 41 = .ok (.putfield 77, 3) := by decide +kernel
theorem dX5_throwAway_44 : decode cX5_throwAway 44 = .ok (.aload_n 0, 1) := by decide +kernel
theorem dX5_throwAway_45 : decode cX5_throwAway 45 = .ok (.getfield 28, 3) := by decide +kernel
theorem dX5_throwAway_48 : decode cX5_throwAway 48 = .ok (.iload_n 1, 1) := by decide +kernel
theorem dX5_throwAway_49 : decode cX5_throwAway 49 = .ok (.aload_n 0, 1) := by decide +kernel
theorem dX5_throwAway_50 : decode cX5_throwAway 50 = .ok (.iload_n 1, 1) := by decide +kernel
theorem dX5_throwAway_51 : decode cX5_throwAway 51 = .ok (.invokevirtual 80, 3) := by decide +kernel
theorem dX5_throwAway_54 : decode cX5_throwAway 54 = .ok (.iastore, 1) := by decide +kernel
theorem dX5_throwAway_55 : decode cX5_throwAway 55 = .ok (.aload_n 0, 1) := by decide +kernel
theorem dX5_throwAway_56 : decode cX5_throwAway 56 = .ok (.getfield 25, 3) := by decide +kernel
theorem dX5_throwAway_59 : decode cX5_throwAway 59 = .ok (.iload_n 1, 1) := by decide +kernel
theorem dX5_throwAway_60 : decode cX5_throwAway 60 = .ok (.aload_n 0, 1) := by decide +kernel
theorem dX5_throwAway_61 : decode cX5_throwAway 61 = .ok (.getfield 31, 3) := by decide +kernel
theorem dX5_throwAway_64 : decode cX5_throwAway 64 = .ok (.bipush 8, 2) := by decide +kernel
theorem dX5_throwAway_66 : decode cX5_throwAway 66 = .ok (.iload_n 1, 1) := by decide +kernel
theorem dX5_throwAway_67 : decode cX5_throwAway 67 = .ok (.imul, 1) := by decide +kernel
theorem dX5_throwAway_68 : decode cX5_throwAway 68 = .ok (.iaload, 1) := by decide +kernel
theorem dX5_throwAway_69 : decode cX5_throwAway 69 = .ok (.iastore, 1) := by decide +kernel
theorem dX5_throwAway_70 : decode cX5_throwAway 70 = .ok (.aload_n 0, 1) := by decide +kernel
theorem dX5_throwAway_71 : decode cX5_throwAway 71 = .ok (.getfield 22, 3) := by decide +kernel
theorem dX5_throwAway_74 : decode cX5_throwAway 74 = .ok (.iload_n 1, 1) := by decide +kernel
theorem dX5_throwAway_75 : decode cX5_throwAway 75 = .ok (.aload_n 0, 1) := by decide +kernel
theorem dX5_throwAway_76 : decode cX5_throwAway 76 = .ok (.getfield 77, 3) := by decide +kernel
theorem dX5_throwAway_79 : decode cX5_throwAway 79 = .ok (.iastore, 1) := by decide +kernel
theorem dX5_throwAway_80 : decode cX5_throwAway 80 = .ok (.iconst 0, 1) := by decide +kernel
theorem dX5_throwAway_81 : decode cX5_throwAway 81 = .ok (.istore_n 3, 1) := by decide +kernel
theorem dX5_throwAway_82 : decode cX5_throwAway 82 = .ok (.iload_n 3, 1) := by decide +kernel
theorem dX5_throwAway_83 : decode cX5_throwAway 83 = .ok (.bipush 40, 2) := by decide +kernel
theorem dX5_throwAway_85 : decode cX5_throwAway 85 = .ok (.if_icmp .ge 35, 3) := by decide +kernel
theorem dX5_throwAway_88 : decode cX5_throwAway 88 = .ok (.aload_n 0, 1) := by decide +kernel
theorem dX5_throwAway_89 : decode cX5_throwAway 89 = .ok (.getfield 13, 3) := by decide +kernel
theorem dX5_throwAway_92 : decode cX5_throwAway 92 = .ok (.iload_n 3, 1) := by decide +kernel
theorem dX5_throwAway_93 : decode cX5_throwAway 93 = .ok (.aload_n 0, 1) := by decide +kernel
theorem dX5_throwAway_94 : decode cX5_throwAway 94 = .ok (.getfield 13, 3) := by decide +kernel
theorem dX5_throwAway_97 : decode cX5_throwAway 97 = .ok (.iload_n 3, 1) := by decide +kernel
theorem dX5_throwAway_98 : decode cX5_throwAway 98 = .ok (.iaload, 1) := by decide +kernel
theorem dX5_throwAway_99 : decode cX5_throwAway 99 = .ok (.iload_n 1, 1) := by decide +kernel
theorem dX5_throwAway_100 : decode cX5_throwAway 100 = .ok (.if_icmp .ne 7, 3) := by decide +kernel
theorem dX5_throwAway_103 : decode cX5_throwAway 103 = .ok (.iconst (-1), 1) := by decide +kernel
theorem dX5_throwAway_104 : decode cX5_throwAway 104 = .ok (.goto 9, 3) := by decide +kernel
theorem dX5_throwAway_107 : decode cX5_throwAway 107 = .ok (.aload_n 0, 1) := by decide +kernel
theorem dX5_throwAway_108 : decode cX5_throwAway 108 = .ok (.getfield 13, 3) := by decide +kernel
theorem dX5_throwAway_111 : decode cX5_throwAway 111 = .ok (.iload_n 3, 1) := by decide +kernel
theorem dX5_throwAway_112 : decode cX5_throwAway 112 = .ok (.iaload, 1) := by decide +kernel
theorem dX5_throwAway_113 : decode cX5_throwAway 113 = .ok (.iastore, 1) := by decide +kernel
theorem dX5_throwAway_114 : decode cX5_throwAway 114 = .ok (.iinc 3 1, 3) := by decide +kernel
theorem dX5_throwAway_117 : decode cX5_throwAway 117 = .ok (.goto (-35), 3) := by decide +kernel
theorem dX5_throwAway_120 : decode cX5_throwAway 120 = .ok (.aload_n 0, 1) := by decide +kernel
theorem dX5_throwAway_121 : decode cX5_throwAway 121 = .ok (.invokevirtual 51, 3) := by decide +kernel
theorem dX5_throwAway_124 : decode cX5_throwAway 124 = .ok (.ireturn, 1) := by decide +kernel
set_option maxRecDepth 20000 in
theorem ggX5_files_X5_told : GoodIn wsX5_files wsX5_told := goodIn_r _ [6, 7, 8, 9, 10, 11, 12, 13, 14, 15, 16, 17, 18, 19, 20] (by decide +kernel) (by decide +kernel)
set_option maxRecDepth 20000 in
theorem gX5_files_X5_told : GoodIn wsX5_files (wsV RX5 83 RX5 yX5_told wsX5_told) := goodIn_app (goodIn_of _ (by decide +kernel)) ggX5_files_X5_told
theorem dX5_files_0 : decode cX5_files 0 = .ok (.aload_n 0, 1) := by decide +kernel
theorem dX5_files_1 : decode cX5_files 1 = .ok (.aload_n 0, 1) := by decide +kernel
theorem dX5_files_2 : decode cX5_files 2 = .ok (.getfield 44, 3) := by decide +kernel
theorem dX5_files_5 : decode cX5_files 5 = .ok (.invokevirtual 83, 3) := by decide +kernel
theorem dX5_files_8 : decode cX5_files 8 = .ok (.ireturn, 1) := by decide +kernel
set_option maxRecDepth 20000 in
theorem ggX5_free_X5_frees : GoodIn wsX5_free wsX5_frees := goodIn_r _ [5, 6, 12, 13, 14, 15, 16, 17, 18, 19, 20, 21, 22, 23, 24] (by decide +kernel) (by decide +kernel)
set_option maxRecDepth 20000 in
theorem gX5_free_X5_frees : GoodIn wsX5_free (wsV RX5 51 RX5 yX5_frees wsX5_frees) := goodIn_app (goodIn_of _ (by decide +kernel)) ggX5_free_X5_frees
set_option maxRecDepth 20000 in
theorem ggX5_free_X5_told : GoodIn wsX5_free wsX5_told := goodIn_r _ [10, 11, 12, 13, 14, 15, 16, 17, 18, 19, 20, 21, 22, 23, 24] (by decide +kernel) (by decide +kernel)
set_option maxRecDepth 20000 in
theorem gX5_free_X5_told : GoodIn wsX5_free (wsV RX5 83 RX5 yX5_told wsX5_told) := goodIn_app (goodIn_of _ (by decide +kernel)) ggX5_free_X5_told
theorem dX5_free_0 : decode cX5_free 0 = .ok (.aload_n 0, 1) := by decide +kernel
theorem dX5_free_1 : decode cX5_free 1 = .ok (.aload_n 0, 1) := by decide +kernel
theorem dX5_free_2 : decode cX5_free 2 = .ok (.invokevirtual 51, 3) := by decide +kernel
theorem dX5_free_5 : decode cX5_free 5 = .ok (.invokevirtual 83, 3) := by decide +kernel
theorem dX5_free_8 : decode cX5_free 8 = .ok (.ireturn, 1) := by decide +kernel
set_option maxRecDepth 20000 in
theorem ggX5_number_X5_isCluster : GoodIn wsX5_number wsX5_isCluster := goodIn_r _ [5, 6, 7, 4, 8] (by decide +kernel) (by decide +kernel)
set_option maxRecDepth 20000 in
theorem gX5_number_X5_isCluster : GoodIn wsX5_number (va_wsS RX5 86 yX5_isCluster wsX5_isCluster) := goodIn_app (goodIn_of _ (by decide +kernel)) ggX5_number_X5_isCluster
set_option maxRecDepth 20000 in
theorem ggX5_number_X5_in : GoodIn wsX5_number wsX5_in := goodIn_r _ [8] (by decide +kernel) (by decide +kernel)
set_option maxRecDepth 20000 in
theorem gX5_number_X5_in : GoodIn wsX5_number (va_wsS RX5 47 yX5_in wsX5_in) := goodIn_app (goodIn_of _ (by decide +kernel)) ggX5_number_X5_in
set_option maxRecDepth 20000 in
theorem ggX5_number_X5_goes : GoodIn wsX5_number wsX5_goes := goodIn_r _ [12, 13, 14, 15, 16, 17, 18, 19, 20, 21, 22, 23, 24, 25, 26] (by decide +kernel) (by decide +kernel)
set_option maxRecDepth 20000 in
theorem gX5_number_X5_goes : GoodIn wsX5_number (wsV RX5 55 RX5 yX5_goes wsX5_goes) := goodIn_app (goodIn_of _ (by decide +kernel)) ggX5_number_X5_goes
theorem dX5_number_0 : decode cX5_number 0 = .ok (.aload_n 0, 1) := by decide +kernel
theorem dX5_number_1 : decode cX5_number 1 = .ok (.iload_n 1, 1) := by decide +kernel
theorem dX5_number_2 : decode cX5_number 2 = .ok (.invokestatic 86, 3) := by decide +kernel
theorem dX5_number_5 : decode cX5_number 5 = .ok (.iload_n 2, 1) := by decide +kernel
theorem dX5_number_6 : decode cX5_number 6 = .ok (.iconst 0, 1) := by decide +kernel
theorem dX5_number_7 : decode cX5_number 7 = .ok (.iconst 3, 1) := by decide +kernel
theorem dX5_number_8 : decode cX5_number 8 = .ok (.invokestatic 47, 3) := by decide +kernel
theorem dX5_number_11 : decode cX5_number 11 = .ok (.iconst 1, 1) := by decide +kernel
theorem dX5_number_12 : decode cX5_number 12 = .ok (.invokevirtual 55, 3) := by decide +kernel
theorem dX5_number_15 : decode cX5_number 15 = .ok (.ifCond .eq 16, 3) := by decide +kernel
theorem dX5_number_18 : decode cX5_number 18 = .ok (.aload_n 0, 1) := by decide +kernel
theorem dX5_number_19 : decode cX5_number 19 = .ok (.getfield 7, 3) := by decide +kernel
theorem dX5_number_22 : decode cX5_number 22 = .ok (.iconst 4, 1) := by decide +kernel
theorem dX5_number_23 : decode cX5_number 23 = .ok (.iload_n 1, 1) := by decide +kernel
theorem dX5_number_24 : decode cX5_number 24 = .ok (.imul, 1) := by decide +kernel
theorem dX5_number_25 : decode cX5_number 25 = .ok (.iload_n 2, 1) := by decide +kernel
theorem dX5_number_26 : decode cX5_number 26 = .ok (.iadd, 1) := by decide +kernel
theorem dX5_number_27 : decode cX5_number 27 = .ok (.iaload, 1) := by decide +kernel
theorem dX5_number_28 : decode cX5_number 28 = .ok (.goto 4, 3) := by decide +kernel
theorem dX5_number_31 : decode cX5_number 31 = .ok (.iconst 0, 1) := by decide +kernel
theorem dX5_number_32 : decode cX5_number 32 = .ok (.ireturn, 1) := by decide +kernel
set_option maxRecDepth 20000 in
theorem ggX5_fileOf_X5_isCluster : GoodIn wsX5_fileOf wsX5_isCluster := goodIn_r _ [5, 6, 7, 4, 8] (by decide +kernel) (by decide +kernel)
set_option maxRecDepth 20000 in
theorem gX5_fileOf_X5_isCluster : GoodIn wsX5_fileOf (va_wsS RX5 86 yX5_isCluster wsX5_isCluster) := goodIn_app (goodIn_of _ (by decide +kernel)) ggX5_fileOf_X5_isCluster
set_option maxRecDepth 20000 in
theorem ggX5_fileOf_X5_goes : GoodIn wsX5_fileOf wsX5_goes := goodIn_r _ [12, 13, 14, 15, 16, 17, 18, 19, 20, 21, 22, 23, 24, 25, 26] (by decide +kernel) (by decide +kernel)
set_option maxRecDepth 20000 in
theorem gX5_fileOf_X5_goes : GoodIn wsX5_fileOf (wsV RX5 55 RX5 yX5_goes wsX5_goes) := goodIn_app (goodIn_of _ (by decide +kernel)) ggX5_fileOf_X5_goes
theorem dX5_fileOf_0 : decode cX5_fileOf 0 = .ok (.aload_n 0, 1) := by decide +kernel
theorem dX5_fileOf_1 : decode cX5_fileOf 1 = .ok (.iload_n 1, 1) := by decide +kernel
theorem dX5_fileOf_2 : decode cX5_fileOf 2 = .ok (.invokestatic 86, 3) := by decide +kernel
theorem dX5_fileOf_5 : decode cX5_fileOf 5 = .ok (.iconst 1, 1) := by decide +kernel
theorem dX5_fileOf_6 : decode cX5_fileOf 6 = .ok (.iconst 1, 1) := by decide +kernel
theorem dX5_fileOf_7 : decode cX5_fileOf 7 = .ok (.invokevirtual 55, 3) := by decide +kernel
theorem dX5_fileOf_10 : decode cX5_fileOf 10 = .ok (.ifCond .eq 12, 3) := by decide +kernel
theorem dX5_fileOf_13 : decode cX5_fileOf 13 = .ok (.aload_n 0, 1) := by decide +kernel
theorem dX5_fileOf_14 : decode cX5_fileOf 14 = .ok (.getfield 13, 3) := by decide +kernel
theorem dX5_fileOf_17 : decode cX5_fileOf 17 = .ok (.iload_n 1, 1) := by decide +kernel
theorem dX5_fileOf_18 : decode cX5_fileOf 18 = .ok (.iaload, 1) := by decide +kernel
theorem dX5_fileOf_19 : decode cX5_fileOf 19 = .ok (.goto 4, 3) := by decide +kernel
theorem dX5_fileOf_22 : decode cX5_fileOf 22 = .ok (.iconst 0, 1) := by decide +kernel
theorem dX5_fileOf_23 : decode cX5_fileOf 23 = .ok (.ireturn, 1) := by decide +kernel
set_option maxRecDepth 20000 in
theorem ggX5_clusters_X5_isFile : GoodIn wsX5_clusters wsX5_isFile := goodIn_r _ [6, 7, 8, 9, 5, 10, 16, 17, 18, 19, 20, 21, 22, 23, 24, 25, 26, 27, 28] (by decide +kernel) (by decide +kernel)
set_option maxRecDepth 20000 in
theorem gX5_clusters_X5_isFile : GoodIn wsX5_clusters (wsV RX5 70 RX5 yX5_isFile wsX5_isFile) := goodIn_app (goodIn_of _ (by decide +kernel)) ggX5_clusters_X5_isFile
set_option maxRecDepth 20000 in
theorem ggX5_clusters_X5_goes : GoodIn wsX5_clusters wsX5_goes := goodIn_r _ [14, 15, 16, 17, 18, 19, 20, 21, 22, 23, 24, 25, 26, 27, 28] (by decide +kernel) (by decide +kernel)
set_option maxRecDepth 20000 in
theorem gX5_clusters_X5_goes : GoodIn wsX5_clusters (wsV RX5 55 RX5 yX5_goes wsX5_goes) := goodIn_app (goodIn_of _ (by decide +kernel)) ggX5_clusters_X5_goes
theorem dX5_clusters_0 : decode cX5_clusters 0 = .ok (.aload_n 0, 1) := by decide +kernel
theorem dX5_clusters_1 : decode cX5_clusters 1 = .ok (.aload_n 0, 1) := by decide +kernel
theorem dX5_clusters_2 : decode cX5_clusters 2 = .ok (.iload_n 1, 1) := by decide +kernel
theorem dX5_clusters_3 : decode cX5_clusters 3 = .ok (.invokevirtual 70, 3) := by decide +kernel
theorem dX5_clusters_6 : decode cX5_clusters 6 = .ok (.iconst 1, 1) := by decide +kernel
theorem dX5_clusters_7 : decode cX5_clusters 7 = .ok (.iconst 1, 1) := by decide +kernel
theorem dX5_clusters_8 : decode cX5_clusters 8 = .ok (.invokevirtual 55, 3) := by decide +kernel
theorem dX5_clusters_11 : decode cX5_clusters 11 = .ok (.ifCond .eq 12, 3) := by decide +kernel
theorem dX5_clusters_14 : decode cX5_clusters 14 = .ok (.aload_n 0, 1) := by decide +kernel
theorem dX5_clusters_15 : decode cX5_clusters 15 = .ok (.getfield 19, 3) := by decide +kernel
theorem dX5_clusters_18 : decode cX5_clusters 18 = .ok (.iload_n 1, 1) := by decide +kernel
theorem dX5_clusters_19 : decode cX5_clusters 19 = .ok (.iaload, 1) := by decide +kernel
theorem dX5_clusters_20 : decode cX5_clusters 20 = .ok (.goto 4, 3) := by decide +kernel
theorem dX5_clusters_23 : decode cX5_clusters 23 = .ok (.iconst 0, 1) := by decide +kernel
theorem dX5_clusters_24 : decode cX5_clusters 24 = .ok (.ireturn, 1) := by decide +kernel
set_option maxRecDepth 20000 in
theorem ggX5_clusterAt_X5_isFile : GoodIn wsX5_clusterAt wsX5_isFile := goodIn_r _ [7, 8, 9, 10, 6, 11, 22, 23, 24, 25, 26, 27, 28, 29, 30, 31, 32, 33, 34] (by decide +kernel) (by decide +kernel)
set_option maxRecDepth 20000 in
theorem gX5_clusterAt_X5_isFile : GoodIn wsX5_clusterAt (wsV RX5 70 RX5 yX5_isFile wsX5_isFile) := goodIn_app (goodIn_of _ (by decide +kernel)) ggX5_clusterAt_X5_isFile
set_option maxRecDepth 20000 in
theorem ggX5_clusterAt_X5_in : GoodIn wsX5_clusterAt wsX5_in := goodIn_r _ [11] (by decide +kernel) (by decide +kernel)
set_option maxRecDepth 20000 in
theorem gX5_clusterAt_X5_in : GoodIn wsX5_clusterAt (va_wsS RX5 47 yX5_in wsX5_in) := goodIn_app (goodIn_of _ (by decide +kernel)) ggX5_clusterAt_X5_in
set_option maxRecDepth 20000 in
theorem ggX5_clusterAt_X5_isGone : GoodIn wsX5_clusterAt wsX5_isGone := goodIn_r _ [15, 16, 22, 23, 24, 25, 26, 27, 28, 29, 30, 31, 32, 33, 34] (by decide +kernel) (by decide +kernel)
set_option maxRecDepth 20000 in
theorem gX5_clusterAt_X5_isGone : GoodIn wsX5_clusterAt (wsV RX5 74 RX5 yX5_isGone wsX5_isGone) := goodIn_app (goodIn_of _ (by decide +kernel)) ggX5_clusterAt_X5_isGone
set_option maxRecDepth 20000 in
theorem ggX5_clusterAt_X5_goes : GoodIn wsX5_clusterAt wsX5_goes := goodIn_r _ [20, 21, 22, 23, 24, 25, 26, 27, 28, 29, 30, 31, 32, 33, 34] (by decide +kernel) (by decide +kernel)
set_option maxRecDepth 20000 in
theorem gX5_clusterAt_X5_goes : GoodIn wsX5_clusterAt (wsV RX5 55 RX5 yX5_goes wsX5_goes) := goodIn_app (goodIn_of _ (by decide +kernel)) ggX5_clusterAt_X5_goes
theorem dX5_clusterAt_0 : decode cX5_clusterAt 0 = .ok (.aload_n 0, 1) := by decide +kernel
theorem dX5_clusterAt_1 : decode cX5_clusterAt 1 = .ok (.iload_n 1, 1) := by decide +kernel
theorem dX5_clusterAt_2 : decode cX5_clusterAt 2 = .ok (.invokevirtual 70, 3) := by decide +kernel
theorem dX5_clusterAt_5 : decode cX5_clusterAt 5 = .ok (.istore_n 3, 1) := by decide +kernel
theorem dX5_clusterAt_6 : decode cX5_clusterAt 6 = .ok (.aload_n 0, 1) := by decide +kernel
theorem dX5_clusterAt_7 : decode cX5_clusterAt 7 = .ok (.iload_n 3, 1) := by decide +kernel
theorem dX5_clusterAt_8 : decode cX5_clusterAt 8 = .ok (.iload_n 3, 1) := by decide +kernel
theorem dX5_clusterAt_9 : decode cX5_clusterAt 9 = .ok (.ifCond .eq 31, 3) := by decide +kernel
theorem dX5_clusterAt_12 : decode cX5_clusterAt 12 = .ok (.iload_n 2, 1) := by decide +kernel
theorem dX5_clusterAt_13 : decode cX5_clusterAt 13 = .ok (.iconst 0, 1) := by decide +kernel
theorem dX5_clusterAt_14 : decode cX5_clusterAt 14 = .ok (.aload_n 0, 1) := by decide +kernel
theorem dX5_clusterAt_15 : decode cX5_clusterAt 15 = .ok (.getfield 19, 3) := by decide +kernel
theorem dX5_clusterAt_18 : decode cX5_clusterAt 18 = .ok (.iload_n 3, 1) := by decide +kernel
theorem dX5_clusterAt_19 : decode cX5_clusterAt 19 = .ok (.ifCond .eq 7, 3) := by decide +kernel
theorem dX5_clusterAt_22 : decode cX5_clusterAt 22 = .ok (.iload_n 1, 1) := by decide +kernel
theorem dX5_clusterAt_23 : decode cX5_clusterAt 23 = .ok (.goto 4, 3) := by decide +kernel
theorem dX5_clusterAt_26 : decode cX5_clusterAt 26 = .ok (.iconst 0, 1) := by decide +kernel
theorem dX5_clusterAt_27 : decode cX5_clusterAt 27 = .ok (.iaload, 1) := by decide +kernel
theorem dX5_clusterAt_28 : decode cX5_clusterAt 28 = .ok (.iconst 1, 1) := by decide +kernel
theorem dX5_clusterAt_29 : decode cX5_clusterAt 29 = .ok (.isub, 1) := by decide +kernel
theorem dX5_clusterAt_30 : decode cX5_clusterAt 30 = .ok (.invokestatic 47, 3) := by decide +kernel
theorem dX5_clusterAt_33 : decode cX5_clusterAt 33 = .ok (.ifCond .eq 7, 3) := by decide +kernel
theorem dX5_clusterAt_36 : decode cX5_clusterAt 36 = .ok (.iconst 1, 1) := by decide +kernel
theorem dX5_clusterAt_37 : decode cX5_clusterAt 37 = .ok (.goto 4, 3) := by decide +kernel
theorem dX5_clusterAt_40 : decode cX5_clusterAt 40 = .ok (.iconst 0, 1) := by decide +kernel
theorem dX5_clusterAt_41 : decode cX5_clusterAt 41 = .ok (.iload_n 3, 1) := by decide +kernel
theorem dX5_clusterAt_42 : decode cX5_clusterAt 42 = .ok (.ifCond .eq 15, 3) := by decide +kernel
theorem dX5_clusterAt_45 : decode cX5_clusterAt 45 = .ok (.aload_n 0, 1) := by decide +kernel
theorem dX5_clusterAt_46 : decode cX5_clusterAt 46 = .ok (.iload_n 1, 1) := by decide +kernel
theorem dX5_clusterAt_47 : decode cX5_clusterAt 47 = .ok (.invokevirtual 74, 3) := by decide +kernel
theorem dX5_clusterAt_50 : decode cX5_clusterAt 50 = .ok (.ifCond .ne 7, 3) := by decide +kernel
theorem dX5_clusterAt_53 : decode cX5_clusterAt 53 = .ok (.iconst 1, 1) := by decide +kernel
theorem dX5_clusterAt_54 : decode cX5_clusterAt 54 = .ok (.goto 4, 3) := by decide +kernel
theorem dX5_clusterAt_57 : decode cX5_clusterAt 57 = .ok (.iconst 0, 1) := by decide +kernel
theorem dX5_clusterAt_58 : decode cX5_clusterAt 58 = .ok (.invokevirtual 55, 3) := by decide +kernel
theorem dX5_clusterAt_61 : decode cX5_clusterAt 61 = .ok (.ifCond .eq 17, 3) := by decide +kernel
theorem dX5_clusterAt_64 : decode cX5_clusterAt 64 = .ok (.aload_n 0, 1) := by decide +kernel
theorem dX5_clusterAt_65 : decode cX5_clusterAt 65 = .ok (.getfield 31, 3) := by decide +kernel
theorem dX5_clusterAt_68 : decode cX5_clusterAt 68 = .ok (.bipush 8, 2) := by decide +kernel
theorem dX5_clusterAt_70 : decode cX5_clusterAt 70 = .ok (.iload_n 1, 1) := by decide +kernel
theorem dX5_clusterAt_71 : decode cX5_clusterAt 71 = .ok (.imul, 1) := by decide +kernel
theorem dX5_clusterAt_72 : decode cX5_clusterAt 72 = .ok (.iload_n 2, 1) := by decide +kernel
theorem dX5_clusterAt_73 : decode cX5_clusterAt 73 = .ok (.iadd, 1) := by decide +kernel
theorem dX5_clusterAt_74 : decode cX5_clusterAt 74 = .ok (.iaload, 1) := by decide +kernel
theorem dX5_clusterAt_75 : decode cX5_clusterAt 75 = .ok (.goto 4, 3) := by decide +kernel
theorem dX5_clusterAt_78 : decode cX5_clusterAt 78 = .ok (.iconst 0, 1) := by decide +kernel
theorem dX5_clusterAt_79 : decode cX5_clusterAt 79 = .ok (.ireturn, 1) := by decide +kernel
set_option maxRecDepth 20000 in
theorem ggX5_checksum_X5_isFile : GoodIn wsX5_checksum wsX5_isFile := goodIn_r _ [6, 7, 8, 9, 5, 10, 32, 33, 34, 35, 36, 37, 38, 39, 40, 41, 42, 43, 44] (by decide +kernel) (by decide +kernel)
set_option maxRecDepth 20000 in
theorem gX5_checksum_X5_isFile : GoodIn wsX5_checksum (wsV RX5 70 RX5 yX5_isFile wsX5_isFile) := goodIn_app (goodIn_of _ (by decide +kernel)) ggX5_checksum_X5_isFile
set_option maxRecDepth 20000 in
theorem ggX5_checksum_X5_goes : GoodIn wsX5_checksum wsX5_goes := goodIn_r _ [14, 15, 32, 33, 34, 35, 36, 37, 38, 39, 40, 41, 42, 43, 44] (by decide +kernel) (by decide +kernel)
set_option maxRecDepth 20000 in
theorem gX5_checksum_X5_goes : GoodIn wsX5_checksum (wsV RX5 55 RX5 yX5_goes wsX5_goes) := goodIn_app (goodIn_of _ (by decide +kernel)) ggX5_checksum_X5_goes
set_option maxRecDepth 20000 in
theorem ggX5_checksum_X5_isGone : GoodIn wsX5_checksum wsX5_isGone := goodIn_r _ [19, 20, 32, 33, 34, 35, 36, 37, 38, 39, 40, 41, 42, 43, 44] (by decide +kernel) (by decide +kernel)
set_option maxRecDepth 20000 in
theorem gX5_checksum_X5_isGone : GoodIn wsX5_checksum (wsV RX5 74 RX5 yX5_isGone wsX5_isGone) := goodIn_app (goodIn_of _ (by decide +kernel)) ggX5_checksum_X5_isGone
set_option maxRecDepth 20000 in
theorem ggX5_checksum_X5_checksumOf : GoodIn wsX5_checksum wsX5_checksumOf := goodIn_r _ [24, 25, 26, 27, 28, 29, 5, 30, 31, 32, 33, 34, 35, 36, 37, 38, 39, 40, 41, 42, 43, 44] (by decide +kernel) (by decide +kernel)
set_option maxRecDepth 20000 in
theorem gX5_checksum_X5_checksumOf : GoodIn wsX5_checksum (wsV RX5 80 RX5 yX5_checksumOf wsX5_checksumOf) := goodIn_app (goodIn_of _ (by decide +kernel)) ggX5_checksum_X5_checksumOf
theorem dX5_checksum_0 : decode cX5_checksum 0 = .ok (.aload_n 0, 1) := by decide +kernel
theorem dX5_checksum_1 : decode cX5_checksum 1 = .ok (.aload_n 0, 1) := by decide +kernel
theorem dX5_checksum_2 : decode cX5_checksum 2 = .ok (.iload_n 1, 1) := by decide +kernel
theorem dX5_checksum_3 : decode cX5_checksum 3 = .ok (.invokevirtual 70, 3) := by decide +kernel
theorem dX5_checksum_6 : decode cX5_checksum 6 = .ok (.iconst 1, 1) := by decide +kernel
theorem dX5_checksum_7 : decode cX5_checksum 7 = .ok (.iconst 1, 1) := by decide +kernel
theorem dX5_checksum_8 : decode cX5_checksum 8 = .ok (.invokevirtual 55, 3) := by decide +kernel
theorem dX5_checksum_11 : decode cX5_checksum 11 = .ok (.ifCond .eq 28, 3) := by decide +kernel
theorem dX5_checksum_14 : decode cX5_checksum 14 = .ok (.aload_n 0, 1) := by decide +kernel
theorem dX5_checksum_15 : decode cX5_checksum 15 = .ok (.iload_n 1, 1) := by decide +kernel
theorem dX5_checksum_16 : decode cX5_checksum 16 = .ok (.invokevirtual 74, 3) := by decide +kernel
theorem dX5_checksum_19 : decode cX5_checksum 19 = .ok (.ifCond .eq 12, 3) := by decide +kernel
theorem dX5_checksum_22 : decode cX5_checksum 22 = .ok (.aload_n 0, 1) := by decide +kernel
theorem dX5_checksum_23 : decode cX5_checksum 23 = .ok (.getfield 28, 3) := by decide +kernel
theorem dX5_checksum_26 : decode cX5_checksum 26 = .ok (.iload_n 1, 1) := by decide +kernel
theorem dX5_checksum_27 : decode cX5_checksum 27 = .ok (.iaload, 1) := by decide +kernel
theorem dX5_checksum_28 : decode cX5_checksum 28 = .ok (.goto 12, 3) := by decide +kernel
theorem dX5_checksum_31 : decode cX5_checksum 31 = .ok (.aload_n 0, 1) := by decide +kernel
theorem dX5_checksum_32 : decode cX5_checksum 32 = .ok (.iload_n 1, 1) := by decide +kernel
theorem dX5_checksum_33 : decode cX5_checksum 33 = .ok (.invokevirtual 80, 3) := by decide +kernel
theorem dX5_checksum_36 : decode cX5_checksum 36 = .ok (.goto 4, 3) := by decide +kernel
theorem dX5_checksum_39 : decode cX5_checksum 39 = .ok (.iconst 0, 1) := by decide +kernel
theorem dX5_checksum_40 : decode cX5_checksum 40 = .ok (.ireturn, 1) := by decide +kernel
theorem dX5_claims_0 : decode cX5_claims 0 = .ok (.iconst 0, 1) := by decide +kernel
theorem dX5_claims_1 : decode cX5_claims 1 = .ok (.istore_n 2, 1) := by decide +kernel
theorem dX5_claims_2 : decode cX5_claims 2 = .ok (.aload_n 0, 1) := by decide +kernel
theorem dX5_claims_3 : decode cX5_claims 3 = .ok (.getfield 25, 3) := by decide +kernel
theorem dX5_claims_6 : decode cX5_claims 6 = .ok (.iload_n 1, 1) := by decide +kernel
theorem dX5_claims_7 : decode cX5_claims 7 = .ok (.iaload, 1) := by decide +kernel
theorem dX5_claims_8 : decode cX5_claims 8 = .ok (.istore_n 3, 1) := by decide +kernel
theorem dX5_claims_9 : decode cX5_claims 9 = .ok (.iload_n 3, 1) := by decide +kernel
theorem dX5_claims_10 : decode cX5_claims 10 = .ok (.bipush 40, 2) := by decide +kernel
theorem dX5_claims_12 : decode cX5_claims 12 = .ok (.if_icmp .ge 54, 3) := by decide +kernel
theorem dX5_claims_15 : decode cX5_claims 15 = .ok (.iload_n 2, 1) := by decide +kernel
theorem dX5_claims_16 : decode cX5_claims 16 = .ok (.aload_n 0, 1) := by decide +kernel
theorem dX5_claims_17 : decode cX5_claims 17 = .ok (.getfield 19, 3) := by decide +kernel
theorem dX5_claims_20 : decode cX5_claims 20 = .ok (.iload_n 1, 1) := by decide +kernel
theorem dX5_claims_21 : decode cX5_claims 21 = .ok (.iaload, 1) := by decide +kernel
theorem dX5_claims_22 : decode cX5_claims 22 = .ok (.if_icmp .ge 44, 3) := by decide +kernel
theorem dX5_claims_25 : decode cX5_claims 25 = .ok (.aload_n 0, 1) := by decide +kernel
theorem dX5_claims_26 : decode cX5_claims 26 = .ok (.getfield 13, 3) := by decide +kernel
theorem dX5_claims_29 : decode cX5_claims 29 = .ok (.aload_n 0, 1) := by decide +kernel
theorem dX5_claims_30 : decode cX5_claims 30 = .ok (.getfield 25, 3) := by decide +kernel
theorem dX5_claims_33 : decode cX5_claims 33 = .ok (.iload_n 1, 1) := by decide +kernel
theorem dX5_claims_34 : decode cX5_claims 34 = .ok (.iaload, 1) := by decide +kernel
theorem dX5_claims_35 : decode cX5_claims 35 = .ok (.iaload, 1) := by decide +kernel
theorem dX5_claims_36 : decode cX5_claims 36 = .ok (.iconst (-1), 1) := by decide +kernel
theorem dX5_claims_37 : decode cX5_claims 37 = .ok (.if_icmp .ne 29, 3) := by decide +kernel
theorem dX5_claims_40 : decode cX5_claims 40 = .ok (.aload_n 0, 1) := by decide +kernel
theorem dX5_claims_41 : decode cX5_claims 41 = .ok (.getfield 13, 3) := by decide +kernel
theorem dX5_claims_44 : decode cX5_claims 44 = .ok (.iload_n 3, 1) := by decide +kernel
theorem dX5_claims_45 : decode cX5_claims 45 = .ok (.iaload, 1) := by decide +kernel
theorem dX5_claims_46 : decode cX5_claims 46 = .ok (.iconst (-1), 1) := by decide +kernel
theorem dX5_claims_47 : decode cX5_claims 47 = .ok (.if_icmp .ne 13, 3) := by decide +kernel
theorem dX5_claims_50 : decode cX5_claims 50 = .ok (.aload_n 0, 1) := by decide +kernel
theorem dX5_claims_51 : decode cX5_claims 51 = .ok (.getfield 34, 3) := by decide +kernel
theorem dX5_claims_54 : decode cX5_claims 54 = .ok (.iload_n 2, 1) := by decide +kernel
theorem dX5_claims_55 : decode cX5_claims 55 = .ok (.iload_n 3, 1) := by decide +kernel
theorem dX5_claims_56 : decode cX5_claims 56 = .ok (.iastore, 1) := by decide +kernel
theorem dX5_claims_57 : decode cX5_claims 57 = .ok (.iinc 2 1, 3) := by decide +kernel
theorem dX5_claims_60 : decode cX5_claims 60 = .ok (.iinc 3 1, 3) := by decide +kernel
theorem dX5_claims_63 : decode cX5_claims 63 = .ok (.goto (-54), 3) := by decide +kernel
theorem dX5_claims_66 : decode cX5_claims 66 = .ok (.iload_n 2, 1) := by decide +kernel
theorem dX5_claims_67 : decode cX5_claims 67 = .ok (.ireturn, 1) := by decide +kernel
set_option maxRecDepth 20000 in
theorem ggX5_confidenceOf_X5_claims : GoodIn wsX5_confidenceOf wsX5_claims := goodIn_r _ [9, 10, 3, 11, 2, 12, 13, 14, 15, 16, 17, 18, 19, 20, 21, 22, 23, 24] (by decide +kernel) (by decide +kernel)
set_option maxRecDepth 20000 in
theorem gX5_confidenceOf_X5_claims : GoodIn wsX5_confidenceOf (wsV RX5 89 RX5 yX5_claims wsX5_claims) := goodIn_app (goodIn_of _ (by decide +kernel)) ggX5_confidenceOf_X5_claims
theorem dX5_confidenceOf_0 : decode cX5_confidenceOf 0 = .ok (.aload_n 0, 1) := by decide +kernel
theorem dX5_confidenceOf_1 : decode cX5_confidenceOf 1 = .ok (.iload_n 1, 1) := by decide +kernel
theorem dX5_confidenceOf_2 : decode cX5_confidenceOf 2 = .ok (.invokevirtual 89, 3) := by decide +kernel
theorem dX5_confidenceOf_5 : decode cX5_confidenceOf 5 = .ok (.istore_n 2, 1) := by decide +kernel
theorem dX5_confidenceOf_6 : decode cX5_confidenceOf 6 = .ok (.iload_n 2, 1) := by decide +kernel
theorem dX5_confidenceOf_7 : decode cX5_confidenceOf 7 = .ok (.ifCond .ne 5, 3) := by decide +kernel
theorem dX5_confidenceOf_10 : decode cX5_confidenceOf 10 = .ok (.iconst 0, 1) := by decide +kernel
theorem dX5_confidenceOf_11 : decode cX5_confidenceOf 11 = .ok (.ireturn, 1) := by decide +kernel
theorem dX5_confidenceOf_12 : decode cX5_confidenceOf 12 = .ok (.iconst 0, 1) := by decide +kernel
theorem dX5_confidenceOf_13 : decode cX5_confidenceOf 13 = .ok (.istore_n 3, 1) := by decide +kernel
theorem dX5_confidenceOf_14 : decode cX5_confidenceOf 14 = .ok (.iconst 0, 1) := by decide +kernel
theorem dX5_confidenceOf_15 : decode cX5_confidenceOf 15 = .ok (.istore 4, 2) := by decide +kernel
theorem dX5_confidenceOf_17 : decode cX5_confidenceOf 17 = .ok (.iload 4, 2) := by decide +kernel
theorem dX5_confidenceOf_19 : decode cX5_confidenceOf 19 = .ok (.iconst 4, 1) := by decide +kernel
theorem dX5_confidenceOf_20 : decode cX5_confidenceOf 20 = .ok (.iload_n 2, 1) := by decide +kernel
theorem dX5_confidenceOf_21 : decode cX5_confidenceOf 21 = .ok (.imul, 1) := by decide +kernel
theorem dX5_confidenceOf_22 : decode cX5_confidenceOf 22 = .ok (.if_icmp .ge 38, 3) := by decide +kernel
theorem dX5_confidenceOf_25 : decode cX5_confidenceOf 25 = .ok (.iload_n 3, 1) := by decide +kernel
theorem dX5_confidenceOf_26 : decode cX5_confidenceOf 26 = .ok (.aload_n 0, 1) := by decide +kernel
theorem dX5_confidenceOf_27 : decode cX5_confidenceOf 27 = .ok (.getfield 7, 3) := by decide +kernel
theorem dX5_confidenceOf_30 : decode cX5_confidenceOf 30 = .ok (.iconst 4, 1) := by decide +kernel
theorem dX5_confidenceOf_31 : decode cX5_confidenceOf 31 = .ok (.aload_n 0, 1) := by decide +kernel
theorem dX5_confidenceOf_32 : decode cX5_confidenceOf 32 = .ok (.getfield 34, 3) := by decide +kernel
theorem dX5_confidenceOf_35 : decode cX5_confidenceOf 35 = .ok (.iload 4, 2) := by decide +kernel
theorem dX5_confidenceOf_37 : decode cX5_confidenceOf 37 = .ok (.iconst 4, 1) := by decide +kernel
theorem dX5_confidenceOf_38 : decode cX5_confidenceOf 38 = .ok (.idiv, 1) := by decide +kernel
theorem dX5_confidenceOf_39 : decode cX5_confidenceOf 39 = .ok (.iaload, 1) := by decide +kernel
theorem dX5_confidenceOf_40 : decode cX5_confidenceOf 40 = .ok (.imul, 1) := by decide +kernel
theorem dX5_confidenceOf_41 : decode cX5_confidenceOf 41 = .ok (.iload 4, 2) := by decide +kernel
theorem dX5_confidenceOf_43 : decode cX5_confidenceOf 43 = .ok (.iconst 4, 1) := by decide +kernel
theorem dX5_confidenceOf_44 : decode cX5_confidenceOf 44 = .ok (.irem, 1) := by decide +kernel
theorem dX5_confidenceOf_45 : decode cX5_confidenceOf 45 = .ok (.iadd, 1) := by decide +kernel
theorem dX5_confidenceOf_46 : decode cX5_confidenceOf 46 = .ok (.iaload, 1) := by decide +kernel
theorem dX5_confidenceOf_47 : decode cX5_confidenceOf 47 = .ok (.iload 4, 2) := by decide +kernel
theorem dX5_confidenceOf_49 : decode cX5_confidenceOf 49 = .ok (.iconst 1, 1) := by decide +kernel
theorem dX5_confidenceOf_50 : decode cX5_confidenceOf 50 = .ok (.iadd, 1) := by decide +kernel
theorem dX5_confidenceOf_51 : decode cX5_confidenceOf 51 = .ok (.imul, 1) := by decide +kernel
theorem dX5_confidenceOf_52 : decode cX5_confidenceOf 52 = .ok (.iadd, 1) := by decide +kernel
theorem dX5_confidenceOf_53 : decode cX5_confidenceOf 53 = .ok (.istore_n 3, 1) := by decide +kernel
theorem dX5_confidenceOf_54 : decode cX5_confidenceOf 54 = .ok (.iinc 4 1, 3) := by decide +kernel
theorem dX5_confidenceOf_57 : decode cX5_confidenceOf 57 = .ok (.goto (-40), 3) := by decide +kernel
theorem dX5_confidenceOf_60 : decode cX5_confidenceOf 60 = .ok (.iload_n 2, 1) := by decide +kernel
theorem dX5_confidenceOf_61 : decode cX5_confidenceOf 61 = .ok (.aload_n 0, 1) := by decide +kernel
theorem dX5_confidenceOf_62 : decode cX5_confidenceOf 62 = .ok (.getfield 19, 3) := by decide +kernel
theorem dX5_confidenceOf_65 : decode cX5_confidenceOf 65 = .ok (.iload_n 1, 1) := by decide +kernel
theorem dX5_confidenceOf_66 : decode cX5_confidenceOf 66 = .ok (.iaload, 1) := by decide +kernel
theorem dX5_confidenceOf_67 : decode cX5_confidenceOf 67 = .ok (.if_icmp .ne 7, 3) := by decide +kernel
theorem dX5_confidenceOf_70 : decode cX5_confidenceOf 70 = .ok (.iconst 1, 1) := by decide +kernel
theorem dX5_confidenceOf_71 : decode cX5_confidenceOf 71 = .ok (.goto 4, 3) := by decide +kernel
theorem dX5_confidenceOf_74 : decode cX5_confidenceOf 74 = .ok (.iconst 0, 1) := by decide +kernel
theorem dX5_confidenceOf_75 : decode cX5_confidenceOf 75 = .ok (.istore 4, 2) := by decide +kernel
theorem dX5_confidenceOf_77 : decode cX5_confidenceOf 77 = .ok (.aload_n 0, 1) := by decide +kernel
theorem dX5_confidenceOf_78 : decode cX5_confidenceOf 78 = .ok (.getfield 7, 3) := by decide +kernel
theorem dX5_confidenceOf_81 : decode cX5_confidenceOf 81 = .ok (.iconst 4, 1) := by decide +kernel
theorem dX5_confidenceOf_82 : decode cX5_confidenceOf 82 = .ok (.aload_n 0, 1) := by decide +kernel
theorem dX5_confidenceOf_83 : decode cX5_confidenceOf 83 = .ok (.getfield 34, 3) := by decide +kernel
theorem dX5_confidenceOf_86 : decode cX5_confidenceOf 86 = .ok (.iconst 0, 1) := by decide +kernel
theorem dX5_confidenceOf_87 : decode cX5_confidenceOf 87 = .ok (.iaload, 1) := by decide +kernel
theorem dX5_confidenceOf_88 : decode cX5_confidenceOf 88 = .ok (.imul, 1) := by decide +kernel
theorem dX5_confidenceOf_89 : decode cX5_confidenceOf 89 = .ok (.iaload, 1) := by decide +kernel
theorem dX5_confidenceOf_90 : decode cX5_confidenceOf 90 = .ok (.sipush 255, 3) := by decide +kernel
theorem dX5_confidenceOf_93 : decode cX5_confidenceOf 93 = .ok (.if_icmp .ne 7, 3) := by decide +kernel
theorem dX5_confidenceOf_96 : decode cX5_confidenceOf 96 = .ok (.iconst 1, 1) := by decide +kernel
theorem dX5_confidenceOf_97 : decode cX5_confidenceOf 97 = .ok (.goto 4, 3) := by decide +kernel
theorem dX5_confidenceOf_100 : decode cX5_confidenceOf 100 = .ok (.iconst 0, 1) := by decide +kernel
theorem dX5_confidenceOf_101 : decode cX5_confidenceOf 101 = .ok (.istore 5, 2) := by decide +kernel
theorem dX5_confidenceOf_103 : decode cX5_confidenceOf 103 = .ok (.aload_n 0, 1) := by decide +kernel
theorem dX5_confidenceOf_104 : decode cX5_confidenceOf 104 = .ok (.getfield 7, 3) := by decide +kernel
theorem dX5_confidenceOf_107 : decode cX5_confidenceOf 107 = .ok (.iconst 4, 1) := by decide +kernel
theorem dX5_confidenceOf_108 : decode cX5_confidenceOf 108 = .ok (.aload_n 0, 1) := by decide +kernel
theorem dX5_confidenceOf_109 : decode cX5_confidenceOf 109 = .ok (.getfield 34, 3) := by decide +kernel
theorem dX5_confidenceOf_112 : decode cX5_confidenceOf 112 = .ok (.iload_n 2, 1) := by decide +kernel
theorem dX5_confidenceOf_113 : decode cX5_confidenceOf 113 = .ok (.iconst 1, 1) := by decide +kernel
theorem dX5_confidenceOf_114 : decode cX5_confidenceOf 114 = .ok (.isub, 1) := by decide +kernel
theorem dX5_confidenceOf_115 : decode cX5_confidenceOf 115 = .ok (.iaload, 1) := by decide +kernel
theorem dX5_confidenceOf_116 : decode cX5_confidenceOf 116 = .ok (.imul, 1) := by decide +kernel
theorem dX5_confidenceOf_117 : decode cX5_confidenceOf 117 = .ok (.iconst 4, 1) := by decide +kernel
theorem dX5_confidenceOf_118 : decode cX5_confidenceOf 118 = .ok (.iadd, 1) := by decide +kernel
theorem dX5_confidenceOf_119 : decode cX5_confidenceOf 119 = .ok (.iconst 1, 1) := by decide +kernel
theorem dX5_confidenceOf_120 : decode cX5_confidenceOf 120 = .ok (.isub, 1) := by decide +kernel
theorem dX5_confidenceOf_121 : decode cX5_confidenceOf 121 = .ok (.iaload, 1) := by decide +kernel
theorem dX5_confidenceOf_122 : decode cX5_confidenceOf 122 = .ok (.sipush 254, 3) := by decide +kernel
theorem dX5_confidenceOf_125 : decode cX5_confidenceOf 125 = .ok (.if_icmp .ne 7, 3) := by decide +kernel
theorem dX5_confidenceOf_128 : decode cX5_confidenceOf 128 = .ok (.iconst 1, 1) := by decide +kernel
theorem dX5_confidenceOf_129 : decode cX5_confidenceOf 129 = .ok (.goto 4, 3) := by decide +kernel
theorem dX5_confidenceOf_132 : decode cX5_confidenceOf 132 = .ok (.iconst 0, 1) := by decide +kernel
theorem dX5_confidenceOf_133 : decode cX5_confidenceOf 133 = .ok (.istore 6, 2) := by decide +kernel
theorem dX5_confidenceOf_135 : decode cX5_confidenceOf 135 = .ok (.iload 4, 2) := by decide +kernel
theorem dX5_confidenceOf_137 : decode cX5_confidenceOf 137 = .ok (.ifCond .eq 21, 3) := by decide +kernel
theorem dX5_confidenceOf_140 : decode cX5_confidenceOf 140 = .ok (.iload_n 3, 1) := by decide +kernel
theorem dX5_confidenceOf_141 : decode cX5_confidenceOf 141 = .ok (.sipush 9973, 3) := by decide +kernel
theorem dX5_confidenceOf_144 : decode cX5_confidenceOf 144 = .ok (.irem, 1) := by decide +kernel
theorem dX5_confidenceOf_145 : decode cX5_confidenceOf 145 = .ok (.aload_n 0, 1) := by decide +kernel
theorem dX5_confidenceOf_146 : decode cX5_confidenceOf 146 = .ok (.getfield 28, 3) := by decide +kernel
theorem dX5_confidenceOf_149 : decode cX5_confidenceOf 149 = .ok (.iload_n 1, 1) := by decide +kernel
theorem dX5_confidenceOf_150 : decode cX5_confidenceOf 150 = .ok (.iaload, 1) := by decide +kernel
theorem dX5_confidenceOf_151 : decode cX5_confidenceOf 151 = .ok (.if_icmp .ne 7, 3) := by decide +kernel
theorem dX5_confidenceOf_154 : decode cX5_confidenceOf 154 = .ok (.iconst 3, 1) := by decide +kernel
theorem dX5_confidenceOf_155 : decode cX5_confidenceOf 155 = .ok (.goto 32, 3) := by decide +kernel
theorem dX5_confidenceOf_158 : decode cX5_confidenceOf 158 = .ok (.iload 5, 2) := by decide +kernel
theorem dX5_confidenceOf_160 : decode cX5_confidenceOf 160 = .ok (.ifCond .eq 17, 3) := by decide +kernel
theorem dX5_confidenceOf_163 : decode cX5_confidenceOf 163 = .ok (.iload 4, 2) := by decide +kernel
theorem dX5_confidenceOf_165 : decode cX5_confidenceOf 165 = .ok (.ifCond .eq 12, 3) := by decide +kernel
theorem dX5_confidenceOf_168 : decode cX5_confidenceOf 168 = .ok (.iload 6, 2) := by decide +kernel
theorem dX5_confidenceOf_170 : decode cX5_confidenceOf 170 = .ok (.ifCond .eq 7, 3) := by decide +kernel
theorem dX5_confidenceOf_173 : decode cX5_confidenceOf 173 = .ok (.iconst 2, 1) := by decide +kernel
theorem dX5_confidenceOf_174 : decode cX5_confidenceOf 174 = .ok (.goto 13, 3) := by decide +kernel
theorem dX5_confidenceOf_177 : decode cX5_confidenceOf 177 = .ok (.iload 5, 2) := by decide +kernel
theorem dX5_confidenceOf_179 : decode cX5_confidenceOf 179 = .ok (.ifCond .eq 7, 3) := by decide +kernel
theorem dX5_confidenceOf_182 : decode cX5_confidenceOf 182 = .ok (.iconst 1, 1) := by decide +kernel
theorem dX5_confidenceOf_183 : decode cX5_confidenceOf 183 = .ok (.goto 4, 3) := by decide +kernel
theorem dX5_confidenceOf_186 : decode cX5_confidenceOf 186 = .ok (.iconst 0, 1) := by decide +kernel
theorem dX5_confidenceOf_187 : decode cX5_confidenceOf 187 = .ok (.ireturn, 1) := by decide +kernel
set_option maxRecDepth 20000 in
theorem ggX5_claimant_X5_isGone : GoodIn wsX5_claimant wsX5_isGone := goodIn_r _ [8, 3, 22, 23, 24, 25, 26, 27, 28, 29, 30, 31, 32, 33, 34] (by decide +kernel) (by decide +kernel)
set_option maxRecDepth 20000 in
theorem gX5_claimant_X5_isGone : GoodIn wsX5_claimant (wsV RX5 74 RX5 yX5_isGone wsX5_isGone) := goodIn_app (goodIn_of _ (by decide +kernel)) ggX5_claimant_X5_isGone
set_option maxRecDepth 20000 in
theorem ggX5_claimant_X5_confidenceOf : GoodIn wsX5_claimant wsX5_confidenceOf := goodIn_r _ [12, 13, 2, 14, 15, 16, 17, 18, 7, 19, 20, 21, 22, 23, 24, 25, 26, 27, 28, 29, 30, 31, 32, 33, 34] (by decide +kernel) (by decide +kernel)
set_option maxRecDepth 20000 in
theorem gX5_claimant_X5_confidenceOf : GoodIn wsX5_claimant (wsV RX5 92 RX5 yX5_confidenceOf wsX5_confidenceOf) := goodIn_app (goodIn_of _ (by decide +kernel)) ggX5_claimant_X5_confidenceOf
set_option maxRecDepth 20000 in
theorem ggX5_claimant_X5_claims : GoodIn wsX5_claimant wsX5_claims := goodIn_r _ [19, 20, 14, 21, 2, 22, 23, 24, 25, 26, 27, 28, 29, 30, 31, 32, 33, 34] (by decide +kernel) (by decide +kernel)
set_option maxRecDepth 20000 in
theorem gX5_claimant_X5_claims : GoodIn wsX5_claimant (wsV RX5 89 RX5 yX5_claims wsX5_claims) := goodIn_app (goodIn_of _ (by decide +kernel)) ggX5_claimant_X5_claims
theorem dX5_claimant_0 : decode cX5_claimant 0 = .ok (.iconst (-1), 1) := by decide +kernel
theorem dX5_claimant_1 : decode cX5_claimant 1 = .ok (.istore_n 2, 1) := by decide +kernel
theorem dX5_claimant_2 : decode cX5_claimant 2 = .ok (.iconst 0, 1) := by decide +kernel
theorem dX5_claimant_3 : decode cX5_claimant 3 = .ok (.istore_n 3, 1) := by decide +kernel
theorem dX5_claimant_4 : decode cX5_claimant 4 = .ok (.iconst 0, 1) := by decide +kernel
theorem dX5_claimant_5 : decode cX5_claimant 5 = .ok (.istore 4, 2) := by decide +kernel
theorem dX5_claimant_7 : decode cX5_claimant 7 = .ok (.iload 4, 2) := by decide +kernel
theorem dX5_claimant_9 : decode cX5_claimant 9 = .ok (.aload_n 0, 1) := by decide +kernel
theorem dX5_claimant_10 : decode cX5_claimant 10 = .ok (.getfield 44, 3) := by decide +kernel
theorem dX5_claimant_13 : decode cX5_claimant 13 = .ok (.if_icmp .ge 128, 3) := by decide +kernel
theorem dX5_claimant_16 : decode cX5_claimant 16 = .ok (.aload_n 0, 1) := by decide +kernel
theorem dX5_claimant_17 : decode cX5_claimant 17 = .ok (.iload 4, 2) := by decide +kernel
theorem dX5_claimant_19 : decode cX5_claimant 19 = .ok (.invokevirtual 74, 3) := by decide +kernel
theorem dX5_claimant_22 : decode cX5_claimant 22 = .ok (.ifCond .eq 12, 3) := by decide +kernel
theorem dX5_claimant_25 : decode cX5_claimant 25 = .ok (.aload_n 0, 1) := by decide +kernel
theorem dX5_claimant_26 : decode cX5_claimant 26 = .ok (.iload 4, 2) := by decide +kernel
theorem dX5_claimant_28 : decode cX5_claimant 28 = .ok (.invokevirtual 92, 3) := by decide +kernel
theorem dX5_claimant_31 : decode cX5_claimant 31 = .ok (.goto 4, 3) := by decide +kernel
theorem dX5_claimant_34 : decode cX5_claimant 34 = .ok (.iconst 0, 1) := by decide +kernel
theorem dX5_claimant_35 : decode cX5_claimant 35 = .ok (.istore 5, 2) := by decide +kernel
theorem dX5_claimant_37 : decode cX5_claimant 37 = .ok (.iload 5, 2) := by decide +kernel
theorem dX5_claimant_39 : decode cX5_claimant 39 = .ok (.ifCond .le 12, 3) := by decide +kernel
theorem dX5_claimant_42 : decode cX5_claimant 42 = .ok (.aload_n 0, 1) := by decide +kernel
theorem dX5_claimant_43 : decode cX5_claimant 43 = .ok (.iload 4, 2) := by decide +kernel
theorem dX5_claimant_45 : decode cX5_claimant 45 = .ok (.invokevirtual 89, 3) := by decide +kernel
theorem dX5_claimant_48 : decode cX5_claimant 48 = .ok (.goto 4, 3) := by decide +kernel
theorem dX5_claimant_51 : decode cX5_claimant 51 = .ok (.iconst 0, 1) := by decide +kernel
theorem dX5_claimant_52 : decode cX5_claimant 52 = .ok (.istore 6, 2) := by decide +kernel
theorem dX5_claimant_54 : decode cX5_claimant 54 = .ok (.iconst 0, 1) := by decide +kernel
theorem dX5_claimant_55 : decode cX5_claimant 55 = .ok (.istore 7, 2) := by decide +kernel
theorem dX5_claimant_57 : decode cX5_claimant 57 = .ok (.iconst 0, 1) := by decide +kernel
theorem dX5_claimant_58 : decode cX5_claimant 58 = .ok (.istore 8, 2) := by decide +kernel
theorem dX5_claimant_60 : decode cX5_claimant 60 = .ok (.iload 8, 2) := by decide +kernel
theorem dX5_claimant_62 : decode cX5_claimant 62 = .ok (.iload 6, 2) := by decide +kernel
theorem dX5_claimant_64 : decode cX5_claimant 64 = .ok (.if_icmp .ge 32, 3) := by decide +kernel
theorem dX5_claimant_67 : decode cX5_claimant 67 = .ok (.iload 7, 2) := by decide +kernel
theorem dX5_claimant_69 : decode cX5_claimant 69 = .ok (.ifCond .ne 14, 3) := by decide +kernel
theorem dX5_claimant_72 : decode cX5_claimant 72 = .ok (.aload_n 0, 1) := by decide +kernel
theorem dX5_claimant_73 : decode cX5_claimant 73 = .ok (.getfield 34, 3) := by decide +kernel
theorem dX5_claimant_76 : decode cX5_claimant 76 = .ok (.iload 8, 2) := by decide +kernel
theorem dX5_claimant_78 : decode cX5_claimant 78 = .ok (.iaload, 1) := by decide +kernel
theorem dX5_claimant_79 : decode cX5_claimant 79 = .ok (.iload_n 1, 1) := by decide +kernel
theorem dX5_claimant_80 : decode cX5_claimant 80 = .ok (.if_icmp .ne 7, 3) := by decide +kernel
theorem dX5_claimant_83 : decode cX5_claimant 83 = .ok (.iconst 1, 1) := by decide +kernel
theorem dX5_claimant_84 : decode cX5_claimant 84 = .ok (.goto 4, 3) := by decide +kernel
theorem dX5_claimant_87 : decode cX5_claimant 87 = .ok (.iconst 0, 1) := by decide +kernel
theorem dX5_claimant_88 : decode cX5_claimant 88 = .ok (.istore 7, 2) := by decide +kernel
theorem dX5_claimant_90 : decode cX5_claimant 90 = .ok (.iinc 8 1, 3) := by decide +kernel
theorem dX5_claimant_93 : decode cX5_claimant 93 = .ok (.goto (-33), 3) := by decide +kernel
theorem dX5_claimant_96 : decode cX5_claimant 96 = .ok (.iload 7, 2) := by decide +kernel
theorem dX5_claimant_98 : decode cX5_claimant 98 = .ok (.ifCond .eq 37, 3) := by decide +kernel
theorem dX5_claimant_101 : decode cX5_claimant 101 = .ok (.iload 5, 2) := by decide +kernel
theorem dX5_claimant_103 : decode cX5_claimant 103 = .ok (.iload_n 3, 1) := by decide +kernel
theorem dX5_claimant_104 : decode cX5_claimant 104 = .ok (.if_icmp .gt 25, 3) := by decide +kernel
theorem dX5_claimant_107 : decode cX5_claimant 107 = .ok (.iload 5, 2) := by decide +kernel
theorem dX5_claimant_109 : decode cX5_claimant 109 = .ok (.iload_n 3, 1) := by decide +kernel
theorem dX5_claimant_110 : decode cX5_claimant 110 = .ok (.if_icmp .ne 25, 3) := by decide +kernel
theorem dX5_claimant_113 : decode cX5_claimant 113 = .ok (.aload_n 0, 1) := by decide +kernel
theorem dX5_claimant_114 : decode cX5_claimant 114 = .ok (.getfield 22, 3) := by decide +kernel
theorem dX5_claimant_117 : decode cX5_claimant 117 = .ok (.iload 4, 2) := by decide +kernel
theorem dX5_claimant_119 : decode cX5_claimant 119 = .ok (.iaload, 1) := by decide +kernel
theorem dX5_claimant_120 : decode cX5_claimant 120 = .ok (.aload_n 0, 1) := by decide +kernel
theorem dX5_claimant_121 : decode cX5_claimant 121 = .ok (.getfield 22, 3) := by decide +kernel
theorem dX5_claimant_124 : decode cX5_claimant 124 = .ok (.iload_n 2, 1) := by decide +kernel
theorem dX5_claimant_125 : decode cX5_claimant 125 = .ok (.iaload, 1) := by decide +kernel
theorem dX5_claimant_126 : decode cX5_claimant 126 = .ok (.if_icmp .le 9, 3) := by decide +kernel
theorem dX5_claimant_129 : decode cX5_claimant 129 = .ok (.iload 4, 2) := by decide +kernel
theorem dX5_claimant_131 : decode cX5_claimant 131 = .ok (.istore_n 2, 1) := by decide +kernel
theorem dX5_claimant_132 : decode cX5_claimant 132 = .ok (.iload 5, 2) := by decide +kernel
theorem dX5_claimant_134 : decode cX5_claimant 134 = .ok (.istore_n 3, 1) := by decide +kernel
theorem dX5_claimant_135 : decode cX5_claimant 135 = .ok (.iinc 4 1, 3) := by decide +kernel
theorem dX5_claimant_138 : decode cX5_claimant 138 = .ok (.goto (-131), 3) := by decide +kernel
theorem dX5_claimant_141 : decode cX5_claimant 141 = .ok (.iload_n 2, 1) := by decide +kernel
theorem dX5_claimant_142 : decode cX5_claimant 142 = .ok (.ireturn, 1) := by decide +kernel
set_option maxRecDepth 20000 in
theorem ggX5_asks_X5_isFile : GoodIn wsX5_asks wsX5_isFile := goodIn_r _ [5, 6, 7, 8, 4, 9, 20, 21, 22, 23, 24, 25, 26, 27, 28, 29, 30, 31, 32] (by decide +kernel) (by decide +kernel)
set_option maxRecDepth 20000 in
theorem gX5_asks_X5_isFile : GoodIn wsX5_asks (wsV RX5 70 RX5 yX5_isFile wsX5_isFile) := goodIn_app (goodIn_of _ (by decide +kernel)) ggX5_asks_X5_isFile
set_option maxRecDepth 20000 in
theorem ggX5_asks_X5_isGone : GoodIn wsX5_asks wsX5_isGone := goodIn_r _ [13, 14, 20, 21, 22, 23, 24, 25, 26, 27, 28, 29, 30, 31, 32] (by decide +kernel) (by decide +kernel)
set_option maxRecDepth 20000 in
theorem gX5_asks_X5_isGone : GoodIn wsX5_asks (wsV RX5 74 RX5 yX5_isGone wsX5_isGone) := goodIn_app (goodIn_of _ (by decide +kernel)) ggX5_asks_X5_isGone
set_option maxRecDepth 20000 in
theorem ggX5_asks_X5_goes : GoodIn wsX5_asks wsX5_goes := goodIn_r _ [18, 19, 20, 21, 22, 23, 24, 25, 26, 27, 28, 29, 30, 31, 32] (by decide +kernel) (by decide +kernel)
set_option maxRecDepth 20000 in
theorem gX5_asks_X5_goes : GoodIn wsX5_asks (wsV RX5 55 RX5 yX5_goes wsX5_goes) := goodIn_app (goodIn_of _ (by decide +kernel)) ggX5_asks_X5_goes
theorem dX5_asks_0 : decode cX5_asks 0 = .ok (.aload_n 0, 1) := by decide +kernel
theorem dX5_asks_1 : decode cX5_asks 1 = .ok (.iload_n 1, 1) := by decide +kernel
theorem dX5_asks_2 : decode cX5_asks 2 = .ok (.invokevirtual 70, 3) := by decide +kernel
theorem dX5_asks_5 : decode cX5_asks 5 = .ok (.istore_n 3, 1) := by decide +kernel
theorem dX5_asks_6 : decode cX5_asks 6 = .ok (.aload_n 0, 1) := by decide +kernel
theorem dX5_asks_7 : decode cX5_asks 7 = .ok (.iload_n 3, 1) := by decide +kernel
theorem dX5_asks_8 : decode cX5_asks 8 = .ok (.iload_n 2, 1) := by decide +kernel
theorem dX5_asks_9 : decode cX5_asks 9 = .ok (.iload_n 3, 1) := by decide +kernel
theorem dX5_asks_10 : decode cX5_asks 10 = .ok (.ifCond .eq 15, 3) := by decide +kernel
theorem dX5_asks_13 : decode cX5_asks 13 = .ok (.aload_n 0, 1) := by decide +kernel
theorem dX5_asks_14 : decode cX5_asks 14 = .ok (.iload_n 1, 1) := by decide +kernel
theorem dX5_asks_15 : decode cX5_asks 15 = .ok (.invokevirtual 74, 3) := by decide +kernel
theorem dX5_asks_18 : decode cX5_asks 18 = .ok (.ifCond .eq 7, 3) := by decide +kernel
theorem dX5_asks_21 : decode cX5_asks 21 = .ok (.iconst 1, 1) := by decide +kernel
theorem dX5_asks_22 : decode cX5_asks 22 = .ok (.goto 4, 3) := by decide +kernel
theorem dX5_asks_25 : decode cX5_asks 25 = .ok (.iconst 0, 1) := by decide +kernel
theorem dX5_asks_26 : decode cX5_asks 26 = .ok (.invokevirtual 55, 3) := by decide +kernel
theorem dX5_asks_29 : decode cX5_asks 29 = .ok (.ireturn, 1) := by decide +kernel
set_option maxRecDepth 20000 in
theorem ggX5_asks__X5_isFile : GoodIn wsX5_asks_ wsX5_isFile := goodIn_r _ [5, 6, 7, 8, 4, 9, 20, 21, 22, 23, 24, 25, 26, 27, 28, 29, 30, 31, 32] (by decide +kernel) (by decide +kernel)
set_option maxRecDepth 20000 in
theorem gX5_asks__X5_isFile : GoodIn wsX5_asks_ (wsV RX5 70 RX5 yX5_isFile wsX5_isFile) := goodIn_app (goodIn_of _ (by decide +kernel)) ggX5_asks__X5_isFile
set_option maxRecDepth 20000 in
theorem ggX5_asks__X5_isGone : GoodIn wsX5_asks_ wsX5_isGone := goodIn_r _ [13, 14, 20, 21, 22, 23, 24, 25, 26, 27, 28, 29, 30, 31, 32] (by decide +kernel) (by decide +kernel)
set_option maxRecDepth 20000 in
theorem gX5_asks__X5_isGone : GoodIn wsX5_asks_ (wsV RX5 74 RX5 yX5_isGone wsX5_isGone) := goodIn_app (goodIn_of _ (by decide +kernel)) ggX5_asks__X5_isGone
set_option maxRecDepth 20000 in
theorem ggX5_asks__X5_goes : GoodIn wsX5_asks_ wsX5_goes := goodIn_r _ [18, 19, 20, 21, 22, 23, 24, 25, 26, 27, 28, 29, 30, 31, 32] (by decide +kernel) (by decide +kernel)
set_option maxRecDepth 20000 in
theorem gX5_asks__X5_goes : GoodIn wsX5_asks_ (wsV RX5 55 RX5 yX5_goes wsX5_goes) := goodIn_app (goodIn_of _ (by decide +kernel)) ggX5_asks__X5_goes
theorem dX5_asks__0 : decode cX5_asks_ 0 = .ok (.aload_n 0, 1) := by decide +kernel
theorem dX5_asks__1 : decode cX5_asks_ 1 = .ok (.iload_n 1, 1) := by decide +kernel
theorem dX5_asks__2 : decode cX5_asks_ 2 = .ok (.invokevirtual 70, 3) := by decide +kernel
theorem dX5_asks__5 : decode cX5_asks_ 5 = .ok (.istore_n 2, 1) := by decide +kernel
theorem dX5_asks__6 : decode cX5_asks_ 6 = .ok (.aload_n 0, 1) := by decide +kernel
theorem dX5_asks__7 : decode cX5_asks_ 7 = .ok (.iload_n 2, 1) := by decide +kernel
theorem dX5_asks__8 : decode cX5_asks_ 8 = .ok (.iload_n 2, 1) := by decide +kernel
theorem dX5_asks__9 : decode cX5_asks_ 9 = .ok (.ifCond .eq 15, 3) := by decide +kernel
theorem dX5_asks__12 : decode cX5_asks_ 12 = .ok (.aload_n 0, 1) := by decide +kernel
theorem dX5_asks__13 : decode cX5_asks_ 13 = .ok (.iload_n 1, 1) := by decide +kernel
theorem dX5_asks__14 : decode cX5_asks_ 14 = .ok (.invokevirtual 74, 3) := by decide +kernel
theorem dX5_asks__17 : decode cX5_asks_ 17 = .ok (.ifCond .eq 7, 3) := by decide +kernel
theorem dX5_asks__20 : decode cX5_asks_ 20 = .ok (.iconst 1, 1) := by decide +kernel
theorem dX5_asks__21 : decode cX5_asks_ 21 = .ok (.goto 4, 3) := by decide +kernel
theorem dX5_asks__24 : decode cX5_asks_ 24 = .ok (.iconst 0, 1) := by decide +kernel
theorem dX5_asks__25 : decode cX5_asks_ 25 = .ok (.iconst 1, 1) := by decide +kernel
theorem dX5_asks__26 : decode cX5_asks_ 26 = .ok (.invokevirtual 55, 3) := by decide +kernel
theorem dX5_asks__29 : decode cX5_asks_ 29 = .ok (.ireturn, 1) := by decide +kernel
set_option maxRecDepth 20000 in
theorem ggX5_claimed_X5_asks_ : GoodIn wsX5_claimed wsX5_asks_ := goodIn_r _ [5, 6, 7, 8, 4, 9, 10, 11, 12, 13, 14, 15, 16, 17, 18, 19, 20, 21, 22, 23, 32, 33, 34, 35, 36, 37, 38, 39, 40, 41, 42, 43, 44] (by decide +kernel) (by decide +kernel)
set_option maxRecDepth 20000 in
theorem gX5_claimed_X5_asks_ : GoodIn wsX5_claimed (wsV RX5 95 RX5 yX5_asks_ wsX5_asks_) := goodIn_app (goodIn_of _ (by decide +kernel)) ggX5_claimed_X5_asks_
set_option maxRecDepth 20000 in
theorem ggX5_claimed_X5_claims : GoodIn wsX5_claimed wsX5_claims := goodIn_r _ [27, 28, 29, 30, 31, 32, 33, 34, 35, 36, 37, 38, 39, 40, 41, 42, 43, 44] (by decide +kernel) (by decide +kernel)
set_option maxRecDepth 20000 in
theorem gX5_claimed_X5_claims : GoodIn wsX5_claimed (wsV RX5 89 RX5 yX5_claims wsX5_claims) := goodIn_app (goodIn_of _ (by decide +kernel)) ggX5_claimed_X5_claims
theorem dX5_claimed_0 : decode cX5_claimed 0 = .ok (.aload_n 0, 1) := by decide +kernel
theorem dX5_claimed_1 : decode cX5_claimed 1 = .ok (.iload_n 1, 1) := by decide +kernel
theorem dX5_claimed_2 : decode cX5_claimed 2 = .ok (.invokevirtual 95, 3) := by decide +kernel
theorem dX5_claimed_5 : decode cX5_claimed 5 = .ok (.ifCond .eq 11, 3) := by decide +kernel
theorem dX5_claimed_8 : decode cX5_claimed 8 = .ok (.aload_n 0, 1) := by decide +kernel
theorem dX5_claimed_9 : decode cX5_claimed 9 = .ok (.iload_n 1, 1) := by decide +kernel
theorem dX5_claimed_10 : decode cX5_claimed 10 = .ok (.invokevirtual 89, 3) := by decide +kernel
theorem dX5_claimed_13 : decode cX5_claimed 13 = .ok (.goto 4, 3) := by decide +kernel
theorem dX5_claimed_16 : decode cX5_claimed 16 = .ok (.iconst 0, 1) := by decide +kernel
theorem dX5_claimed_17 : decode cX5_claimed 17 = .ok (.ireturn, 1) := by decide +kernel
set_option maxRecDepth 20000 in
theorem ggX5_claimAt_X5_in : GoodIn wsX5_claimAt wsX5_in := goodIn_r _ [5] (by decide +kernel) (by decide +kernel)
set_option maxRecDepth 20000 in
theorem gX5_claimAt_X5_in : GoodIn wsX5_claimAt (va_wsS RX5 47 yX5_in wsX5_in) := goodIn_app (goodIn_of _ (by decide +kernel)) ggX5_claimAt_X5_in
set_option maxRecDepth 20000 in
theorem ggX5_claimAt_X5_asks : GoodIn wsX5_claimAt wsX5_asks := goodIn_r _ [9, 10, 11, 12, 4, 13, 14, 2, 3, 5, 15, 16, 17, 18, 19, 20, 21, 22, 23, 24, 32, 33, 34, 35, 36, 37, 38, 39, 40, 41, 42, 43, 44] (by decide +kernel) (by decide +kernel)
set_option maxRecDepth 20000 in
theorem gX5_claimAt_X5_asks : GoodIn wsX5_claimAt (wsV RX5 98 RX5 yX5_asks wsX5_asks) := goodIn_app (goodIn_of _ (by decide +kernel)) ggX5_claimAt_X5_asks
set_option maxRecDepth 20000 in
theorem ggX5_claimAt_X5_claims : GoodIn wsX5_claimAt wsX5_claims := goodIn_r _ [28, 29, 30, 31, 1, 32, 33, 34, 35, 36, 37, 38, 39, 40, 41, 42, 43, 44] (by decide +kernel) (by decide +kernel)
set_option maxRecDepth 20000 in
theorem gX5_claimAt_X5_claims : GoodIn wsX5_claimAt (wsV RX5 89 RX5 yX5_claims wsX5_claims) := goodIn_app (goodIn_of _ (by decide +kernel)) ggX5_claimAt_X5_claims
theorem dX5_claimAt_0 : decode cX5_claimAt 0 = .ok (.aload_n 0, 1) := by decide +kernel
theorem dX5_claimAt_1 : decode cX5_claimAt 1 = .ok (.iload_n 1, 1) := by decide +kernel
theorem dX5_claimAt_2 : decode cX5_claimAt 2 = .ok (.iload_n 2, 1) := by decide +kernel
theorem dX5_claimAt_3 : decode cX5_claimAt 3 = .ok (.iconst 0, 1) := by decide +kernel
theorem dX5_claimAt_4 : decode cX5_claimAt 4 = .ok (.bipush 7, 2) := by decide +kernel
theorem dX5_claimAt_6 : decode cX5_claimAt 6 = .ok (.invokestatic 47, 3) := by decide +kernel
theorem dX5_claimAt_9 : decode cX5_claimAt 9 = .ok (.invokevirtual 98, 3) := by decide +kernel
theorem dX5_claimAt_12 : decode cX5_claimAt 12 = .ok (.ifCond .ne 5, 3) := by decide +kernel
theorem dX5_claimAt_15 : decode cX5_claimAt 15 = .ok (.iconst 0, 1) := by decide +kernel
theorem dX5_claimAt_16 : decode cX5_claimAt 16 = .ok (.ireturn, 1) := by decide +kernel
theorem dX5_claimAt_17 : decode cX5_claimAt 17 = .ok (.iload_n 2, 1) := by decide +kernel
theorem dX5_claimAt_18 : decode cX5_claimAt 18 = .ok (.aload_n 0, 1) := by decide +kernel
theorem dX5_claimAt_19 : decode cX5_claimAt 19 = .ok (.iload_n 1, 1) := by decide +kernel
theorem dX5_claimAt_20 : decode cX5_claimAt 20 = .ok (.invokevirtual 89, 3) := by decide +kernel
theorem dX5_claimAt_23 : decode cX5_claimAt 23 = .ok (.if_icmp .ge 12, 3) := by decide +kernel
theorem dX5_claimAt_26 : decode cX5_claimAt 26 = .ok (.aload_n 0, 1) := by decide +kernel
theorem dX5_claimAt_27 : decode cX5_claimAt 27 = .ok (.getfield 34, 3) := by decide +kernel
theorem dX5_claimAt_30 : decode cX5_claimAt 30 = .ok (.iload_n 2, 1) := by decide +kernel
theorem dX5_claimAt_31 : decode cX5_claimAt 31 = .ok (.iaload, 1) := by decide +kernel
theorem dX5_claimAt_32 : decode cX5_claimAt 32 = .ok (.goto 4, 3) := by decide +kernel
theorem dX5_claimAt_35 : decode cX5_claimAt 35 = .ok (.iconst (-1), 1) := by decide +kernel
theorem dX5_claimAt_36 : decode cX5_claimAt 36 = .ok (.ireturn, 1) := by decide +kernel
set_option maxRecDepth 20000 in
theorem ggX5_confidence_X5_asks_ : GoodIn wsX5_confidence wsX5_asks_ := goodIn_r _ [5, 6, 7, 8, 4, 9, 10, 11, 12, 13, 14, 15, 16, 17, 18, 19, 20, 21, 22, 23, 38, 39, 40, 41, 42, 43, 44, 45, 46, 47, 48, 49, 50] (by decide +kernel) (by decide +kernel)
set_option maxRecDepth 20000 in
theorem gX5_confidence_X5_asks_ : GoodIn wsX5_confidence (wsV RX5 95 RX5 yX5_asks_ wsX5_asks_) := goodIn_app (goodIn_of _ (by decide +kernel)) ggX5_confidence_X5_asks_
set_option maxRecDepth 20000 in
theorem ggX5_confidence_X5_confidenceOf : GoodIn wsX5_confidence wsX5_confidenceOf := goodIn_r _ [27, 28, 29, 30, 31, 32, 33, 34, 4, 35, 36, 37, 38, 39, 40, 41, 42, 43, 44, 45, 46, 47, 48, 49, 50] (by decide +kernel) (by decide +kernel)
set_option maxRecDepth 20000 in
theorem gX5_confidence_X5_confidenceOf : GoodIn wsX5_confidence (wsV RX5 92 RX5 yX5_confidenceOf wsX5_confidenceOf) := goodIn_app (goodIn_of _ (by decide +kernel)) ggX5_confidence_X5_confidenceOf
theorem dX5_confidence_0 : decode cX5_confidence 0 = .ok (.aload_n 0, 1) := by decide +kernel
theorem dX5_confidence_1 : decode cX5_confidence 1 = .ok (.iload_n 1, 1) := by decide +kernel
theorem dX5_confidence_2 : decode cX5_confidence 2 = .ok (.invokevirtual 95, 3) := by decide +kernel
theorem dX5_confidence_5 : decode cX5_confidence 5 = .ok (.ifCond .eq 11, 3) := by decide +kernel
theorem dX5_confidence_8 : decode cX5_confidence 8 = .ok (.aload_n 0, 1) := by decide +kernel
theorem dX5_confidence_9 : decode cX5_confidence 9 = .ok (.iload_n 1, 1) := by decide +kernel
theorem dX5_confidence_10 : decode cX5_confidence 10 = .ok (.invokevirtual 92, 3) := by decide +kernel
theorem dX5_confidence_13 : decode cX5_confidence 13 = .ok (.goto 4, 3) := by decide +kernel
theorem dX5_confidence_16 : decode cX5_confidence 16 = .ok (.iconst 0, 1) := by decide +kernel
theorem dX5_confidence_17 : decode cX5_confidence 17 = .ok (.ireturn, 1) := by decide +kernel
set_option maxRecDepth 20000 in
theorem ggX5_ownerOf_X5_isCluster : GoodIn wsX5_ownerOf wsX5_isCluster := goodIn_r _ [4, 5, 6, 3, 7] (by decide +kernel) (by decide +kernel)
set_option maxRecDepth 20000 in
theorem gX5_ownerOf_X5_isCluster : GoodIn wsX5_ownerOf (va_wsS RX5 86 yX5_isCluster wsX5_isCluster) := goodIn_app (goodIn_of _ (by decide +kernel)) ggX5_ownerOf_X5_isCluster
set_option maxRecDepth 20000 in
theorem ggX5_ownerOf_X5_goes : GoodIn wsX5_ownerOf wsX5_goes := goodIn_r _ [11, 12, 37, 38, 39, 40, 41, 42, 43, 44, 45, 46, 47, 48, 49] (by decide +kernel) (by decide +kernel)
set_option maxRecDepth 20000 in
theorem gX5_ownerOf_X5_goes : GoodIn wsX5_ownerOf (wsV RX5 55 RX5 yX5_goes wsX5_goes) := goodIn_app (goodIn_of _ (by decide +kernel)) ggX5_ownerOf_X5_goes
set_option maxRecDepth 20000 in
theorem ggX5_ownerOf_X5_claimant : GoodIn wsX5_ownerOf wsX5_claimant := goodIn_r _ [16, 17, 18, 19, 20, 21, 22, 3, 23, 24, 25, 26, 27, 28, 29, 30, 31, 32, 33, 34, 35, 36, 37, 38, 39, 40, 41, 42, 43, 44, 45, 46, 47, 48, 49] (by decide +kernel) (by decide +kernel)
set_option maxRecDepth 20000 in
theorem gX5_ownerOf_X5_claimant : GoodIn wsX5_ownerOf (wsV RX5 101 RX5 yX5_claimant wsX5_claimant) := goodIn_app (goodIn_of _ (by decide +kernel)) ggX5_ownerOf_X5_claimant
theorem dX5_ownerOf_0 : decode cX5_ownerOf 0 = .ok (.aload_n 0, 1) := by decide +kernel
theorem dX5_ownerOf_1 : decode cX5_ownerOf 1 = .ok (.iload_n 1, 1) := by decide +kernel
theorem dX5_ownerOf_2 : decode cX5_ownerOf 2 = .ok (.invokestatic 86, 3) := by decide +kernel
theorem dX5_ownerOf_5 : decode cX5_ownerOf 5 = .ok (.iconst 1, 1) := by decide +kernel
theorem dX5_ownerOf_6 : decode cX5_ownerOf 6 = .ok (.iconst 1, 1) := by decide +kernel
theorem dX5_ownerOf_7 : decode cX5_ownerOf 7 = .ok (.invokevirtual 55, 3) := by decide +kernel
theorem dX5_ownerOf_10 : decode cX5_ownerOf 10 = .ok (.ifCond .eq 11, 3) := by decide +kernel
theorem dX5_ownerOf_13 : decode cX5_ownerOf 13 = .ok (.aload_n 0, 1) := by decide +kernel
theorem dX5_ownerOf_14 : decode cX5_ownerOf 14 = .ok (.iload_n 1, 1) := by decide +kernel
theorem dX5_ownerOf_15 : decode cX5_ownerOf 15 = .ok (.invokevirtual 101, 3) := by decide +kernel
theorem dX5_ownerOf_18 : decode cX5_ownerOf 18 = .ok (.goto 4, 3) := by decide +kernel
theorem dX5_ownerOf_21 : decode cX5_ownerOf 21 = .ok (.iconst 0, 1) := by decide +kernel
theorem dX5_ownerOf_22 : decode cX5_ownerOf 22 = .ok (.ireturn, 1) := by decide +kernel
set_option maxRecDepth 20000 in
theorem ggX5_owned_X5_asks_ : GoodIn wsX5_owned wsX5_asks_ := goodIn_r _ [5, 6, 7, 8, 4, 9, 10, 11, 12, 13, 14, 15, 16, 17, 18, 19, 20, 21, 22, 23, 42, 43, 44, 45, 46, 47, 48, 49, 50, 51, 52, 53, 54] (by decide +kernel) (by decide +kernel)
set_option maxRecDepth 20000 in
theorem gX5_owned_X5_asks_ : GoodIn wsX5_owned (wsV RX5 95 RX5 yX5_asks_ wsX5_asks_) := goodIn_app (goodIn_of _ (by decide +kernel)) ggX5_owned_X5_asks_
set_option maxRecDepth 20000 in
theorem ggX5_owned_X5_claimant : GoodIn wsX5_owned wsX5_claimant := goodIn_r _ [27, 10, 28, 18, 14, 15, 16, 4, 17, 29, 30, 31, 32, 33, 34, 35, 36, 37, 38, 39, 40, 41, 42, 43, 44, 45, 46, 47, 48, 49, 50, 51, 52, 53, 54] (by decide +kernel) (by decide +kernel)
set_option maxRecDepth 20000 in
theorem gX5_owned_X5_claimant : GoodIn wsX5_owned (wsV RX5 101 RX5 yX5_claimant wsX5_claimant) := goodIn_app (goodIn_of _ (by decide +kernel)) ggX5_owned_X5_claimant
theorem dX5_owned_0 : decode cX5_owned 0 = .ok (.aload_n 0, 1) := by decide +kernel
theorem dX5_owned_1 : decode cX5_owned 1 = .ok (.iload_n 1, 1) := by decide +kernel
theorem dX5_owned_2 : decode cX5_owned 2 = .ok (.invokevirtual 95, 3) := by decide +kernel
theorem dX5_owned_5 : decode cX5_owned 5 = .ok (.ifCond .ne 5, 3) := by decide +kernel
theorem dX5_owned_8 : decode cX5_owned 8 = .ok (.iconst 0, 1) := by decide +kernel
theorem dX5_owned_9 : decode cX5_owned 9 = .ok (.ireturn, 1) := by decide +kernel
theorem dX5_owned_10 : decode cX5_owned 10 = .ok (.iconst 0, 1) := by decide +kernel
theorem dX5_owned_11 : decode cX5_owned 11 = .ok (.istore_n 2, 1) := by decide +kernel
theorem dX5_owned_12 : decode cX5_owned 12 = .ok (.iconst 0, 1) := by decide +kernel
theorem dX5_owned_13 : decode cX5_owned 13 = .ok (.istore_n 3, 1) := by decide +kernel
theorem dX5_owned_14 : decode cX5_owned 14 = .ok (.iload_n 3, 1) := by decide +kernel
theorem dX5_owned_15 : decode cX5_owned 15 = .ok (.bipush 40, 2) := by decide +kernel
theorem dX5_owned_17 : decode cX5_owned 17 = .ok (.if_icmp .ge 26, 3) := by decide +kernel
theorem dX5_owned_20 : decode cX5_owned 20 = .ok (.iload_n 2, 1) := by decide +kernel
theorem dX5_owned_21 : decode cX5_owned 21 = .ok (.aload_n 0, 1) := by decide +kernel
theorem dX5_owned_22 : decode cX5_owned 22 = .ok (.iload_n 3, 1) := by decide +kernel
theorem dX5_owned_23 : decode cX5_owned 23 = .ok (.invokevirtual 101, 3) := by decide +kernel
theorem dX5_owned_26 : decode cX5_owned 26 = .ok (.iload_n 1, 1) := by decide +kernel
theorem dX5_owned_27 : decode cX5_owned 27 = .ok (.if_icmp .ne 7, 3) := by decide +kernel
theorem dX5_owned_30 : decode cX5_owned 30 = .ok (.iconst 1, 1) := by decide +kernel
theorem dX5_owned_31 : decode cX5_owned 31 = .ok (.goto 4, 3) := by decide +kernel
theorem dX5_owned_34 : decode cX5_owned 34 = .ok (.iconst 0, 1) := by decide +kernel
theorem dX5_owned_35 : decode cX5_owned 35 = .ok (.iadd, 1) := by decide +kernel
theorem dX5_owned_36 : decode cX5_owned 36 = .ok (.istore_n 2, 1) := by decide +kernel
theorem dX5_owned_37 : decode cX5_owned 37 = .ok (.iinc 3 1, 3) := by decide +kernel
theorem dX5_owned_40 : decode cX5_owned 40 = .ok (.goto (-26), 3) := by decide +kernel
theorem dX5_owned_43 : decode cX5_owned 43 = .ok (.iload_n 2, 1) := by decide +kernel
theorem dX5_owned_44 : decode cX5_owned 44 = .ok (.ireturn, 1) := by decide +kernel
set_option maxRecDepth 20000 in
theorem ggX5_sure_X5_isGone : GoodIn wsX5_sure wsX5_isGone := goodIn_r _ [6, 7, 27, 28, 29, 30, 31, 32, 33, 34, 35, 36, 37, 38, 39] (by decide +kernel) (by decide +kernel)
set_option maxRecDepth 20000 in
theorem gX5_sure_X5_isGone : GoodIn wsX5_sure (wsV RX5 74 RX5 yX5_isGone wsX5_isGone) := goodIn_app (goodIn_of _ (by decide +kernel)) ggX5_sure_X5_isGone
set_option maxRecDepth 20000 in
theorem ggX5_sure_X5_confidenceOf : GoodIn wsX5_sure wsX5_confidenceOf := goodIn_r _ [11, 12, 13, 14, 15, 16, 17, 18, 5, 19, 20, 21, 27, 28, 29, 30, 31, 32, 33, 34, 35, 36, 37, 38, 39] (by decide +kernel) (by decide +kernel)
set_option maxRecDepth 20000 in
theorem gX5_sure_X5_confidenceOf : GoodIn wsX5_sure (wsV RX5 92 RX5 yX5_confidenceOf wsX5_confidenceOf) := goodIn_app (goodIn_of _ (by decide +kernel)) ggX5_sure_X5_confidenceOf
set_option maxRecDepth 20000 in
theorem ggX5_sure_X5_told : GoodIn wsX5_sure wsX5_told := goodIn_r _ [25, 26, 27, 28, 29, 30, 31, 32, 33, 34, 35, 36, 37, 38, 39] (by decide +kernel) (by decide +kernel)
set_option maxRecDepth 20000 in
theorem gX5_sure_X5_told : GoodIn wsX5_sure (wsV RX5 83 RX5 yX5_told wsX5_told) := goodIn_app (goodIn_of _ (by decide +kernel)) ggX5_sure_X5_told
theorem dX5_sure_0 : decode cX5_sure 0 = .ok (.iconst 0, 1) := by decide +kernel
theorem dX5_sure_1 : decode cX5_sure 1 = .ok (.istore_n 1, 1) := by decide +kernel
theorem dX5_sure_2 : decode cX5_sure 2 = .ok (.iconst 0, 1) := by decide +kernel
theorem dX5_sure_3 : decode cX5_sure 3 = .ok (.istore_n 2, 1) := by decide +kernel
theorem dX5_sure_4 : decode cX5_sure 4 = .ok (.iload_n 2, 1) := by decide +kernel
theorem dX5_sure_5 : decode cX5_sure 5 = .ok (.aload_n 0, 1) := by decide +kernel
theorem dX5_sure_6 : decode cX5_sure 6 = .ok (.getfield 44, 3) := by decide +kernel
theorem dX5_sure_9 : decode cX5_sure 9 = .ok (.if_icmp .ge 34, 3) := by decide +kernel
theorem dX5_sure_12 : decode cX5_sure 12 = .ok (.iload_n 1, 1) := by decide +kernel
theorem dX5_sure_13 : decode cX5_sure 13 = .ok (.aload_n 0, 1) := by decide +kernel
theorem dX5_sure_14 : decode cX5_sure 14 = .ok (.iload_n 2, 1) := by decide +kernel
theorem dX5_sure_15 : decode cX5_sure 15 = .ok (.invokevirtual 74, 3) := by decide +kernel
theorem dX5_sure_18 : decode cX5_sure 18 = .ok (.ifCond .eq 16, 3) := by decide +kernel
theorem dX5_sure_21 : decode cX5_sure 21 = .ok (.aload_n 0, 1) := by decide +kernel
theorem dX5_sure_22 : decode cX5_sure 22 = .ok (.iload_n 2, 1) := by decide +kernel
theorem dX5_sure_23 : decode cX5_sure 23 = .ok (.invokevirtual 92, 3) := by decide +kernel
theorem dX5_sure_26 : decode cX5_sure 26 = .ok (.iconst 3, 1) := by decide +kernel
theorem dX5_sure_27 : decode cX5_sure 27 = .ok (.if_icmp .ne 7, 3) := by decide +kernel
theorem dX5_sure_30 : decode cX5_sure 30 = .ok (.iconst 1, 1) := by decide +kernel
theorem dX5_sure_31 : decode cX5_sure 31 = .ok (.goto 4, 3) := by decide +kernel
theorem dX5_sure_34 : decode cX5_sure 34 = .ok (.iconst 0, 1) := by decide +kernel
theorem dX5_sure_35 : decode cX5_sure 35 = .ok (.iadd, 1) := by decide +kernel
theorem dX5_sure_36 : decode cX5_sure 36 = .ok (.istore_n 1, 1) := by decide +kernel
theorem dX5_sure_37 : decode cX5_sure 37 = .ok (.iinc 2 1, 3) := by decide +kernel
theorem dX5_sure_40 : decode cX5_sure 40 = .ok (.goto (-36), 3) := by decide +kernel
theorem dX5_sure_43 : decode cX5_sure 43 = .ok (.aload_n 0, 1) := by decide +kernel
theorem dX5_sure_44 : decode cX5_sure 44 = .ok (.iload_n 1, 1) := by decide +kernel
theorem dX5_sure_45 : decode cX5_sure 45 = .ok (.invokevirtual 83, 3) := by decide +kernel
theorem dX5_sure_48 : decode cX5_sure 48 = .ok (.ireturn, 1) := by decide +kernel
theorem dX5_part_0 : decode cX5_part 0 = .ok (.iconst 0, 1) := by decide +kernel
theorem dX5_part_1 : decode cX5_part 1 = .ok (.istore_n 3, 1) := by decide +kernel
theorem dX5_part_2 : decode cX5_part 2 = .ok (.iconst 0, 1) := by decide +kernel
theorem dX5_part_3 : decode cX5_part 3 = .ok (.istore 4, 2) := by decide +kernel
theorem dX5_part_5 : decode cX5_part 5 = .ok (.iload 4, 2) := by decide +kernel
theorem dX5_part_7 : decode cX5_part 7 = .ok (.iconst 4, 1) := by decide +kernel
theorem dX5_part_8 : decode cX5_part 8 = .ok (.if_icmp .ge 32, 3) := by decide +kernel
theorem dX5_part_11 : decode cX5_part 11 = .ok (.iload_n 3, 1) := by decide +kernel
theorem dX5_part_12 : decode cX5_part 12 = .ok (.aload_n 0, 1) := by decide +kernel
theorem dX5_part_13 : decode cX5_part 13 = .ok (.getfield 7, 3) := by decide +kernel
theorem dX5_part_16 : decode cX5_part 16 = .ok (.iconst 4, 1) := by decide +kernel
theorem dX5_part_17 : decode cX5_part 17 = .ok (.iload_n 1, 1) := by decide +kernel
theorem dX5_part_18 : decode cX5_part 18 = .ok (.imul, 1) := by decide +kernel
theorem dX5_part_19 : decode cX5_part 19 = .ok (.iload 4, 2) := by decide +kernel
theorem dX5_part_21 : decode cX5_part 21 = .ok (.iadd, 1) := by decide +kernel
theorem dX5_part_22 : decode cX5_part 22 = .ok (.iaload, 1) := by decide +kernel
theorem dX5_part_23 : decode cX5_part 23 = .ok (.iconst 4, 1) := by decide +kernel
theorem dX5_part_24 : decode cX5_part 24 = .ok (.iload_n 2, 1) := by decide +kernel
theorem dX5_part_25 : decode cX5_part 25 = .ok (.imul, 1) := by decide +kernel
theorem dX5_part_26 : decode cX5_part 26 = .ok (.iload 4, 2) := by decide +kernel
theorem dX5_part_28 : decode cX5_part 28 = .ok (.iadd, 1) := by decide +kernel
theorem dX5_part_29 : decode cX5_part 29 = .ok (.iconst 1, 1) := by decide +kernel
theorem dX5_part_30 : decode cX5_part 30 = .ok (.iadd, 1) := by decide +kernel
theorem dX5_part_31 : decode cX5_part 31 = .ok (.imul, 1) := by decide +kernel
theorem dX5_part_32 : decode cX5_part 32 = .ok (.iadd, 1) := by decide +kernel
theorem dX5_part_33 : decode cX5_part 33 = .ok (.istore_n 3, 1) := by decide +kernel
theorem dX5_part_34 : decode cX5_part 34 = .ok (.iinc 4 1, 3) := by decide +kernel
theorem dX5_part_37 : decode cX5_part 37 = .ok (.goto (-32), 3) := by decide +kernel
theorem dX5_part_40 : decode cX5_part 40 = .ok (.iload_n 3, 1) := by decide +kernel
theorem dX5_part_41 : decode cX5_part 41 = .ok (.ireturn, 1) := by decide +kernel
set_option maxRecDepth 20000 in
theorem ggX5_joins_X5_isJoin : GoodIn wsX5_joins wsX5_isJoin := goodIn_r _ [9, 1, 4, 10, 11, 12, 13, 14, 8, 15, 20, 21, 22, 23, 24, 25, 26, 27, 28, 29, 30, 31, 32] (by decide +kernel) (by decide +kernel)
set_option maxRecDepth 20000 in
theorem gX5_joins_X5_isJoin : GoodIn wsX5_joins (wsV RX5 104 RX5 yX5_isJoin wsX5_isJoin) := goodIn_app (goodIn_of _ (by decide +kernel)) ggX5_joins_X5_isJoin
set_option maxRecDepth 20000 in
theorem ggX5_joins_X5_fits : GoodIn wsX5_joins wsX5_fits := goodIn_r _ [19, 2, 4, 20, 21, 22, 23, 24, 25, 26, 27, 28, 29, 30, 31, 32] (by decide +kernel) (by decide +kernel)
set_option maxRecDepth 20000 in
theorem gX5_joins_X5_fits : GoodIn wsX5_joins (wsV RX5 107 RX5 yX5_fits wsX5_fits) := goodIn_app (goodIn_of _ (by decide +kernel)) ggX5_joins_X5_fits
theorem dX5_joins_0 : decode cX5_joins 0 = .ok (.aload_n 0, 1) := by decide +kernel
theorem dX5_joins_1 : decode cX5_joins 1 = .ok (.getfield 19, 3) := by decide +kernel
theorem dX5_joins_4 : decode cX5_joins 4 = .ok (.iload_n 1, 1) := by decide +kernel
theorem dX5_joins_5 : decode cX5_joins 5 = .ok (.iaload, 1) := by decide +kernel
theorem dX5_joins_6 : decode cX5_joins 6 = .ok (.istore_n 2, 1) := by decide +kernel
theorem dX5_joins_7 : decode cX5_joins 7 = .ok (.iload_n 2, 1) := by decide +kernel
theorem dX5_joins_8 : decode cX5_joins 8 = .ok (.iconst 4, 1) := by decide +kernel
theorem dX5_joins_9 : decode cX5_joins 9 = .ok (.if_icmp .gt 18, 3) := by decide +kernel
theorem dX5_joins_12 : decode cX5_joins 12 = .ok (.aload_n 0, 1) := by decide +kernel
theorem dX5_joins_13 : decode cX5_joins 13 = .ok (.getfield 13, 3) := by decide +kernel
theorem dX5_joins_16 : decode cX5_joins 16 = .ok (.aload_n 0, 1) := by decide +kernel
theorem dX5_joins_17 : decode cX5_joins 17 = .ok (.getfield 25, 3) := by decide +kernel
theorem dX5_joins_20 : decode cX5_joins 20 = .ok (.iload_n 1, 1) := by decide +kernel
theorem dX5_joins_21 : decode cX5_joins 21 = .ok (.iaload, 1) := by decide +kernel
theorem dX5_joins_22 : decode cX5_joins 22 = .ok (.iaload, 1) := by decide +kernel
theorem dX5_joins_23 : decode cX5_joins 23 = .ok (.iconst (-1), 1) := by decide +kernel
theorem dX5_joins_24 : decode cX5_joins 24 = .ok (.if_icmp .eq 5, 3) := by decide +kernel
theorem dX5_joins_27 : decode cX5_joins 27 = .ok (.iconst 0, 1) := by decide +kernel
theorem dX5_joins_28 : decode cX5_joins 28 = .ok (.ireturn, 1) := by decide +kernel
theorem dX5_joins_29 : decode cX5_joins 29 = .ok (.aload_n 0, 1) := by decide +kernel
theorem dX5_joins_30 : decode cX5_joins 30 = .ok (.getfield 37, 3) := by decide +kernel
theorem dX5_joins_33 : decode cX5_joins 33 = .ok (.iconst 0, 1) := by decide +kernel
theorem dX5_joins_34 : decode cX5_joins 34 = .ok (.aload_n 0, 1) := by decide +kernel
theorem dX5_joins_35 : decode cX5_joins 35 = .ok (.getfield 25, 3) := by decide +kernel
theorem dX5_joins_38 : decode cX5_joins 38 = .ok (.iload_n 1, 1) := by decide +kernel
theorem dX5_joins_39 : decode cX5_joins 39 = .ok (.iaload, 1) := by decide +kernel
theorem dX5_joins_40 : decode cX5_joins 40 = .ok (.iastore, 1) := by decide +kernel
theorem dX5_joins_41 : decode cX5_joins 41 = .ok (.iconst 1, 1) := by decide +kernel
theorem dX5_joins_42 : decode cX5_joins 42 = .ok (.istore_n 3, 1) := by decide +kernel
theorem dX5_joins_43 : decode cX5_joins 43 = .ok (.iload_n 2, 1) := by decide +kernel
theorem dX5_joins_44 : decode cX5_joins 44 = .ok (.iconst 1, 1) := by decide +kernel
theorem dX5_joins_45 : decode cX5_joins 45 = .ok (.if_icmp .le 10, 3) := by decide +kernel
theorem dX5_joins_48 : decode cX5_joins 48 = .ok (.aload_n 0, 1) := by decide +kernel
theorem dX5_joins_49 : decode cX5_joins 49 = .ok (.getfield 37, 3) := by decide +kernel
theorem dX5_joins_52 : decode cX5_joins 52 = .ok (.iconst 1, 1) := by decide +kernel
theorem dX5_joins_53 : decode cX5_joins 53 = .ok (.iconst (-1), 1) := by decide +kernel
theorem dX5_joins_54 : decode cX5_joins 54 = .ok (.iastore, 1) := by decide +kernel
theorem dX5_joins_55 : decode cX5_joins 55 = .ok (.iload_n 2, 1) := by decide +kernel
theorem dX5_joins_56 : decode cX5_joins 56 = .ok (.iconst 1, 1) := by decide +kernel
theorem dX5_joins_57 : decode cX5_joins 57 = .ok (.if_icmp .ne 9, 3) := by decide +kernel
theorem dX5_joins_60 : decode cX5_joins 60 = .ok (.aload_n 0, 1) := by decide +kernel
theorem dX5_joins_61 : decode cX5_joins 61 = .ok (.iload_n 1, 1) := by decide +kernel
theorem dX5_joins_62 : decode cX5_joins 62 = .ok (.invokevirtual 104, 3) := by decide +kernel
theorem dX5_joins_65 : decode cX5_joins 65 = .ok (.ireturn, 1) := by decide +kernel
theorem dX5_joins_66 : decode cX5_joins 66 = .ok (.iload_n 3, 1) := by decide +kernel
theorem dX5_joins_67 : decode cX5_joins 67 = .ok (.ifCond .le 68, 3) := by decide +kernel
theorem dX5_joins_70 : decode cX5_joins 70 = .ok (.aload_n 0, 1) := by decide +kernel
theorem dX5_joins_71 : decode cX5_joins 71 = .ok (.getfield 37, 3) := by decide +kernel
theorem dX5_joins_74 : decode cX5_joins 74 = .ok (.iload_n 3, 1) := by decide +kernel
theorem dX5_joins_75 : decode cX5_joins 75 = .ok (.dup2, 1) := by decide +kernel
theorem dX5_joins_76 : decode cX5_joins 76 = .ok (.iaload, 1) := by decide +kernel
theorem dX5_joins_77 : decode cX5_joins 77 = .ok (.iconst 1, 1) := by decide +kernel
theorem dX5_joins_78 : decode cX5_joins 78 = .ok (.iadd, 1) := by decide +kernel
theorem dX5_joins_79 : decode cX5_joins 79 = .ok (.iastore, 1) := by decide +kernel
theorem dX5_joins_80 : decode cX5_joins 80 = .ok (.aload_n 0, 1) := by decide +kernel
theorem dX5_joins_81 : decode cX5_joins 81 = .ok (.getfield 37, 3) := by decide +kernel
theorem dX5_joins_84 : decode cX5_joins 84 = .ok (.iload_n 3, 1) := by decide +kernel
theorem dX5_joins_85 : decode cX5_joins 85 = .ok (.iaload, 1) := by decide +kernel
theorem dX5_joins_86 : decode cX5_joins 86 = .ok (.bipush 40, 2) := by decide +kernel
theorem dX5_joins_88 : decode cX5_joins 88 = .ok (.if_icmp .ne 9, 3) := by decide +kernel
theorem dX5_joins_91 : decode cX5_joins 91 = .ok (.iinc 3 (-1), 3) := by decide +kernel
theorem dX5_joins_94 : decode cX5_joins 94 = .ok (.goto (-28), 3) := by decide +kernel
theorem dX5_joins_97 : decode cX5_joins 97 = .ok (.aload_n 0, 1) := by decide +kernel
theorem dX5_joins_98 : decode cX5_joins 98 = .ok (.iload_n 3, 1) := by decide +kernel
theorem dX5_joins_99 : decode cX5_joins 99 = .ok (.invokevirtual 107, 3) := by decide +kernel
theorem dX5_joins_102 : decode cX5_joins 102 = .ok (.ifCond .eq (-36), 3) := by decide +kernel
theorem dX5_joins_105 : decode cX5_joins 105 = .ok (.iload_n 3, 1) := by decide +kernel
theorem dX5_joins_106 : decode cX5_joins 106 = .ok (.iload_n 2, 1) := by decide +kernel
theorem dX5_joins_107 : decode cX5_joins 107 = .ok (.iconst 1, 1) := by decide +kernel
theorem dX5_joins_108 : decode cX5_joins 108 = .ok (.isub, 1) := by decide +kernel
theorem dX5_joins_109 : decode cX5_joins 109 = .ok (.if_icmp .ne 13, 3) := by decide +kernel
theorem dX5_joins_112 : decode cX5_joins 112 = .ok (.aload_n 0, 1) := by decide +kernel
theorem dX5_joins_113 : decode cX5_joins 113 = .ok (.iload_n 1, 1) := by decide +kernel
theorem dX5_joins_114 : decode cX5_joins 114 = .ok (.invokevirtual 104, 3) := by decide +kernel
theorem dX5_joins_117 : decode cX5_joins 117 = .ok (.ifCond .eq (-51), 3) := by decide +kernel
theorem dX5_joins_120 : decode cX5_joins 120 = .ok (.iconst 1, 1) := by decide +kernel
theorem dX5_joins_121 : decode cX5_joins 121 = .ok (.ireturn, 1) := by decide +kernel
theorem dX5_joins_122 : decode cX5_joins 122 = .ok (.iinc 3 1, 3) := by decide +kernel
theorem dX5_joins_125 : decode cX5_joins 125 = .ok (.aload_n 0, 1) := by decide +kernel
theorem dX5_joins_126 : decode cX5_joins 126 = .ok (.getfield 37, 3) := by decide +kernel
theorem dX5_joins_129 : decode cX5_joins 129 = .ok (.iload_n 3, 1) := by decide +kernel
theorem dX5_joins_130 : decode cX5_joins 130 = .ok (.iconst (-1), 1) := by decide +kernel
theorem dX5_joins_131 : decode cX5_joins 131 = .ok (.iastore, 1) := by decide +kernel
theorem dX5_joins_132 : decode cX5_joins 132 = .ok (.goto (-66), 3) := by decide +kernel
theorem dX5_joins_135 : decode cX5_joins 135 = .ok (.iconst 0, 1) := by decide +kernel
theorem dX5_joins_136 : decode cX5_joins 136 = .ok (.ireturn, 1) := by decide +kernel
theorem dX5_fits_0 : decode cX5_fits 0 = .ok (.aload_n 0, 1) := by decide +kernel
theorem dX5_fits_1 : decode cX5_fits 1 = .ok (.getfield 13, 3) := by decide +kernel
theorem dX5_fits_4 : decode cX5_fits 4 = .ok (.aload_n 0, 1) := by decide +kernel
theorem dX5_fits_5 : decode cX5_fits 5 = .ok (.getfield 37, 3) := by decide +kernel
theorem dX5_fits_8 : decode cX5_fits 8 = .ok (.iload_n 1, 1) := by decide +kernel
theorem dX5_fits_9 : decode cX5_fits 9 = .ok (.iaload, 1) := by decide +kernel
theorem dX5_fits_10 : decode cX5_fits 10 = .ok (.iaload, 1) := by decide +kernel
theorem dX5_fits_11 : decode cX5_fits 11 = .ok (.iconst (-1), 1) := by decide +kernel
theorem dX5_fits_12 : decode cX5_fits 12 = .ok (.if_icmp .ne 7, 3) := by decide +kernel
theorem dX5_fits_15 : decode cX5_fits 15 = .ok (.iconst 1, 1) := by decide +kernel
theorem dX5_fits_16 : decode cX5_fits 16 = .ok (.goto 4, 3) := by decide +kernel
theorem dX5_fits_19 : decode cX5_fits 19 = .ok (.iconst 0, 1) := by decide +kernel
theorem dX5_fits_20 : decode cX5_fits 20 = .ok (.istore_n 2, 1) := by decide +kernel
theorem dX5_fits_21 : decode cX5_fits 21 = .ok (.iconst 0, 1) := by decide +kernel
theorem dX5_fits_22 : decode cX5_fits 22 = .ok (.istore_n 3, 1) := by decide +kernel
theorem dX5_fits_23 : decode cX5_fits 23 = .ok (.iload_n 3, 1) := by decide +kernel
theorem dX5_fits_24 : decode cX5_fits 24 = .ok (.iload_n 1, 1) := by decide +kernel
theorem dX5_fits_25 : decode cX5_fits 25 = .ok (.if_icmp .ge 34, 3) := by decide +kernel
theorem dX5_fits_28 : decode cX5_fits 28 = .ok (.iload_n 2, 1) := by decide +kernel
theorem dX5_fits_29 : decode cX5_fits 29 = .ok (.ifCond .eq 22, 3) := by decide +kernel
theorem dX5_fits_32 : decode cX5_fits 32 = .ok (.aload_n 0, 1) := by decide +kernel
theorem dX5_fits_33 : decode cX5_fits 33 = .ok (.getfield 37, 3) := by decide +kernel
theorem dX5_fits_36 : decode cX5_fits 36 = .ok (.iload_n 3, 1) := by decide +kernel
theorem dX5_fits_37 : decode cX5_fits 37 = .ok (.iaload, 1) := by decide +kernel
theorem dX5_fits_38 : decode cX5_fits 38 = .ok (.aload_n 0, 1) := by decide +kernel
theorem dX5_fits_39 : decode cX5_fits 39 = .ok (.getfield 37, 3) := by decide +kernel
theorem dX5_fits_42 : decode cX5_fits 42 = .ok (.iload_n 1, 1) := by decide +kernel
theorem dX5_fits_43 : decode cX5_fits 43 = .ok (.iaload, 1) := by decide +kernel
theorem dX5_fits_44 : decode cX5_fits 44 = .ok (.if_icmp .eq 7, 3) := by decide +kernel
theorem dX5_fits_47 : decode cX5_fits 47 = .ok (.iconst 1, 1) := by decide +kernel
theorem dX5_fits_48 : decode cX5_fits 48 = .ok (.goto 4, 3) := by decide +kernel
theorem dX5_fits_51 : decode cX5_fits 51 = .ok (.iconst 0, 1) := by decide +kernel
theorem dX5_fits_52 : decode cX5_fits 52 = .ok (.istore_n 2, 1) := by decide +kernel
theorem dX5_fits_53 : decode cX5_fits 53 = .ok (.iinc 3 1, 3) := by decide +kernel
theorem dX5_fits_56 : decode cX5_fits 56 = .ok (.goto (-33), 3) := by decide +kernel
theorem dX5_fits_59 : decode cX5_fits 59 = .ok (.iload_n 2, 1) := by decide +kernel
theorem dX5_fits_60 : decode cX5_fits 60 = .ok (.ireturn, 1) := by decide +kernel
set_option maxRecDepth 20000 in
theorem ggX5_isJoin_X5_part : GoodIn wsX5_isJoin wsX5_part := goodIn_r _ [9, 4, 10, 11, 12, 13, 14, 15, 16, 17, 18, 19, 20, 21, 22] (by decide +kernel) (by decide +kernel)
set_option maxRecDepth 20000 in
theorem gX5_isJoin_X5_part : GoodIn wsX5_isJoin (wsV RX5 110 RX5 yX5_part wsX5_part) := goodIn_app (goodIn_of _ (by decide +kernel)) ggX5_isJoin_X5_part
theorem dX5_isJoin_0 : decode cX5_isJoin 0 = .ok (.aload_n 0, 1) := by decide +kernel
theorem dX5_isJoin_1 : decode cX5_isJoin 1 = .ok (.getfield 19, 3) := by decide +kernel
theorem dX5_isJoin_4 : decode cX5_isJoin 4 = .ok (.iload_n 1, 1) := by decide +kernel
theorem dX5_isJoin_5 : decode cX5_isJoin 5 = .ok (.iaload, 1) := by decide +kernel
theorem dX5_isJoin_6 : decode cX5_isJoin 6 = .ok (.iconst 1, 1) := by decide +kernel
theorem dX5_isJoin_7 : decode cX5_isJoin 7 = .ok (.isub, 1) := by decide +kernel
theorem dX5_isJoin_8 : decode cX5_isJoin 8 = .ok (.istore_n 2, 1) := by decide +kernel
theorem dX5_isJoin_9 : decode cX5_isJoin 9 = .ok (.iconst 0, 1) := by decide +kernel
theorem dX5_isJoin_10 : decode cX5_isJoin 10 = .ok (.istore_n 3, 1) := by decide +kernel
theorem dX5_isJoin_11 : decode cX5_isJoin 11 = .ok (.iconst 0, 1) := by decide +kernel
theorem dX5_isJoin_12 : decode cX5_isJoin 12 = .ok (.istore 4, 2) := by decide +kernel
theorem dX5_isJoin_14 : decode cX5_isJoin 14 = .ok (.iload 4, 2) := by decide +kernel
theorem dX5_isJoin_16 : decode cX5_isJoin 16 = .ok (.iload_n 2, 1) := by decide +kernel
theorem dX5_isJoin_17 : decode cX5_isJoin 17 = .ok (.if_icmp .gt 25, 3) := by decide +kernel
theorem dX5_isJoin_20 : decode cX5_isJoin 20 = .ok (.iload_n 3, 1) := by decide +kernel
theorem dX5_isJoin_21 : decode cX5_isJoin 21 = .ok (.aload_n 0, 1) := by decide +kernel
theorem dX5_isJoin_22 : decode cX5_isJoin 22 = .ok (.aload_n 0, 1) := by decide +kernel
theorem dX5_isJoin_23 : decode cX5_isJoin 23 = .ok (.getfield 37, 3) := by decide +kernel
theorem dX5_isJoin_26 : decode cX5_isJoin 26 = .ok (.iload 4, 2) := by decide +kernel
theorem dX5_isJoin_28 : decode cX5_isJoin 28 = .ok (.iaload, 1) := by decide +kernel
theorem dX5_isJoin_29 : decode cX5_isJoin 29 = .ok (.iload 4, 2) := by decide +kernel
theorem dX5_isJoin_31 : decode cX5_isJoin 31 = .ok (.invokevirtual 110, 3) := by decide +kernel
theorem dX5_isJoin_34 : decode cX5_isJoin 34 = .ok (.iadd, 1) := by decide +kernel
theorem dX5_isJoin_35 : decode cX5_isJoin 35 = .ok (.istore_n 3, 1) := by decide +kernel
theorem dX5_isJoin_36 : decode cX5_isJoin 36 = .ok (.iinc 4 1, 3) := by decide +kernel
theorem dX5_isJoin_39 : decode cX5_isJoin 39 = .ok (.goto (-25), 3) := by decide +kernel
theorem dX5_isJoin_42 : decode cX5_isJoin 42 = .ok (.iload_n 3, 1) := by decide +kernel
theorem dX5_isJoin_43 : decode cX5_isJoin 43 = .ok (.sipush 9973, 3) := by decide +kernel
theorem dX5_isJoin_46 : decode cX5_isJoin 46 = .ok (.irem, 1) := by decide +kernel
theorem dX5_isJoin_47 : decode cX5_isJoin 47 = .ok (.aload_n 0, 1) := by decide +kernel
theorem dX5_isJoin_48 : decode cX5_isJoin 48 = .ok (.getfield 28, 3) := by decide +kernel
theorem dX5_isJoin_51 : decode cX5_isJoin 51 = .ok (.iload_n 1, 1) := by decide +kernel
theorem dX5_isJoin_52 : decode cX5_isJoin 52 = .ok (.iaload, 1) := by decide +kernel
theorem dX5_isJoin_53 : decode cX5_isJoin 53 = .ok (.if_icmp .ne 30, 3) := by decide +kernel
theorem dX5_isJoin_56 : decode cX5_isJoin 56 = .ok (.aload_n 0, 1) := by decide +kernel
theorem dX5_isJoin_57 : decode cX5_isJoin 57 = .ok (.getfield 7, 3) := by decide +kernel
theorem dX5_isJoin_60 : decode cX5_isJoin 60 = .ok (.iconst 4, 1) := by decide +kernel
theorem dX5_isJoin_61 : decode cX5_isJoin 61 = .ok (.aload_n 0, 1) := by decide +kernel
theorem dX5_isJoin_62 : decode cX5_isJoin 62 = .ok (.getfield 37, 3) := by decide +kernel
theorem dX5_isJoin_65 : decode cX5_isJoin 65 = .ok (.iload_n 2, 1) := by decide +kernel
theorem dX5_isJoin_66 : decode cX5_isJoin 66 = .ok (.iaload, 1) := by decide +kernel
theorem dX5_isJoin_67 : decode cX5_isJoin 67 = .ok (.imul, 1) := by decide +kernel
theorem dX5_isJoin_68 : decode cX5_isJoin 68 = .ok (.iconst 4, 1) := by decide +kernel
theorem dX5_isJoin_69 : decode cX5_isJoin 69 = .ok (.iadd, 1) := by decide +kernel
theorem dX5_isJoin_70 : decode cX5_isJoin 70 = .ok (.iconst 1, 1) := by decide +kernel
theorem dX5_isJoin_71 : decode cX5_isJoin 71 = .ok (.isub, 1) := by decide +kernel
theorem dX5_isJoin_72 : decode cX5_isJoin 72 = .ok (.iaload, 1) := by decide +kernel
theorem dX5_isJoin_73 : decode cX5_isJoin 73 = .ok (.sipush 254, 3) := by decide +kernel
theorem dX5_isJoin_76 : decode cX5_isJoin 76 = .ok (.if_icmp .ne 7, 3) := by decide +kernel
theorem dX5_isJoin_79 : decode cX5_isJoin 79 = .ok (.iconst 1, 1) := by decide +kernel
theorem dX5_isJoin_80 : decode cX5_isJoin 80 = .ok (.goto 4, 3) := by decide +kernel
theorem dX5_isJoin_83 : decode cX5_isJoin 83 = .ok (.iconst 0, 1) := by decide +kernel
theorem dX5_isJoin_84 : decode cX5_isJoin 84 = .ok (.ireturn, 1) := by decide +kernel
set_option maxRecDepth 20000 in
theorem ggX5_hasJoin_X5_asks_ : GoodIn wsX5_hasJoin wsX5_asks_ := goodIn_r _ [5, 6, 7, 8, 4, 9, 10, 11, 12, 13, 14, 15, 16, 17, 18, 19, 20, 21, 22, 23, 46, 47, 48, 49, 50, 51, 52, 53, 54, 55, 56, 57, 58] (by decide +kernel) (by decide +kernel)
set_option maxRecDepth 20000 in
theorem gX5_hasJoin_X5_asks_ : GoodIn wsX5_hasJoin (wsV RX5 95 RX5 yX5_asks_ wsX5_asks_) := goodIn_app (goodIn_of _ (by decide +kernel)) ggX5_hasJoin_X5_asks_
set_option maxRecDepth 20000 in
theorem ggX5_hasJoin_X5_joins : GoodIn wsX5_hasJoin wsX5_joins := goodIn_r _ [27, 28, 29, 30, 31, 32, 33, 34, 4, 35, 36, 37, 38, 39, 40, 41, 42, 43, 44, 45, 46, 47, 48, 49, 50, 51, 52, 53, 54, 55, 56, 57, 58] (by decide +kernel) (by decide +kernel)
set_option maxRecDepth 20000 in
theorem gX5_hasJoin_X5_joins : GoodIn wsX5_hasJoin (wsV RX5 113 RX5 yX5_joins wsX5_joins) := goodIn_app (goodIn_of _ (by decide +kernel)) ggX5_hasJoin_X5_joins
theorem dX5_hasJoin_0 : decode cX5_hasJoin 0 = .ok (.aload_n 0, 1) := by decide +kernel
theorem dX5_hasJoin_1 : decode cX5_hasJoin 1 = .ok (.iload_n 1, 1) := by decide +kernel
theorem dX5_hasJoin_2 : decode cX5_hasJoin 2 = .ok (.invokevirtual 95, 3) := by decide +kernel
theorem dX5_hasJoin_5 : decode cX5_hasJoin 5 = .ok (.ifCond .eq 15, 3) := by decide +kernel
theorem dX5_hasJoin_8 : decode cX5_hasJoin 8 = .ok (.aload_n 0, 1) := by decide +kernel
theorem dX5_hasJoin_9 : decode cX5_hasJoin 9 = .ok (.iload_n 1, 1) := by decide +kernel
theorem dX5_hasJoin_10 : decode cX5_hasJoin 10 = .ok (.invokevirtual 113, 3) := by decide +kernel
theorem dX5_hasJoin_13 : decode cX5_hasJoin 13 = .ok (.ifCond .eq 7, 3) := by decide +kernel
theorem dX5_hasJoin_16 : decode cX5_hasJoin 16 = .ok (.iconst 1, 1) := by decide +kernel
theorem dX5_hasJoin_17 : decode cX5_hasJoin 17 = .ok (.goto 4, 3) := by decide +kernel
theorem dX5_hasJoin_20 : decode cX5_hasJoin 20 = .ok (.iconst 0, 1) := by decide +kernel
theorem dX5_hasJoin_21 : decode cX5_hasJoin 21 = .ok (.ireturn, 1) := by decide +kernel
set_option maxRecDepth 20000 in
theorem ggX5_joinAt_X5_isFile : GoodIn wsX5_joinAt wsX5_isFile := goodIn_r _ [7, 8, 9, 10, 6, 11, 42, 43, 44, 45, 46, 47, 48, 49, 50, 51, 52, 53, 54] (by decide +kernel) (by decide +kernel)
set_option maxRecDepth 20000 in
theorem gX5_joinAt_X5_isFile : GoodIn wsX5_joinAt (wsV RX5 70 RX5 yX5_isFile wsX5_isFile) := goodIn_app (goodIn_of _ (by decide +kernel)) ggX5_joinAt_X5_isFile
set_option maxRecDepth 20000 in
theorem ggX5_joinAt_X5_in : GoodIn wsX5_joinAt wsX5_in := goodIn_r _ [11] (by decide +kernel) (by decide +kernel)
set_option maxRecDepth 20000 in
theorem gX5_joinAt_X5_in : GoodIn wsX5_joinAt (va_wsS RX5 47 yX5_in wsX5_in) := goodIn_app (goodIn_of _ (by decide +kernel)) ggX5_joinAt_X5_in
set_option maxRecDepth 20000 in
theorem ggX5_joinAt_X5_isGone : GoodIn wsX5_joinAt wsX5_isGone := goodIn_r _ [15, 16, 42, 43, 44, 45, 46, 47, 48, 49, 50, 51, 52, 53, 54] (by decide +kernel) (by decide +kernel)
set_option maxRecDepth 20000 in
theorem gX5_joinAt_X5_isGone : GoodIn wsX5_joinAt (wsV RX5 74 RX5 yX5_isGone wsX5_isGone) := goodIn_app (goodIn_of _ (by decide +kernel)) ggX5_joinAt_X5_isGone
set_option maxRecDepth 20000 in
theorem ggX5_joinAt_X5_joins : GoodIn wsX5_joinAt wsX5_joins := goodIn_r _ [20, 1, 21, 22, 2, 23, 24, 25, 6, 26, 27, 28, 29, 30, 31, 32, 33, 34, 35, 36, 42, 43, 44, 45, 46, 47, 48, 49, 50, 51, 52, 53, 54] (by decide +kernel) (by decide +kernel)
set_option maxRecDepth 20000 in
theorem gX5_joinAt_X5_joins : GoodIn wsX5_joinAt (wsV RX5 113 RX5 yX5_joins wsX5_joins) := goodIn_app (goodIn_of _ (by decide +kernel)) ggX5_joinAt_X5_joins
set_option maxRecDepth 20000 in
theorem ggX5_joinAt_X5_goes : GoodIn wsX5_joinAt wsX5_goes := goodIn_r _ [40, 41, 42, 43, 44, 45, 46, 47, 48, 49, 50, 51, 52, 53, 54] (by decide +kernel) (by decide +kernel)
set_option maxRecDepth 20000 in
theorem gX5_joinAt_X5_goes : GoodIn wsX5_joinAt (wsV RX5 55 RX5 yX5_goes wsX5_goes) := goodIn_app (goodIn_of _ (by decide +kernel)) ggX5_joinAt_X5_goes
theorem dX5_joinAt_0 : decode cX5_joinAt 0 = .ok (.aload_n 0, 1) := by decide +kernel
theorem dX5_joinAt_1 : decode cX5_joinAt 1 = .ok (.iload_n 1, 1) := by decide +kernel
theorem dX5_joinAt_2 : decode cX5_joinAt 2 = .ok (.invokevirtual 70, 3) := by decide +kernel
theorem dX5_joinAt_5 : decode cX5_joinAt 5 = .ok (.istore_n 3, 1) := by decide +kernel
theorem dX5_joinAt_6 : decode cX5_joinAt 6 = .ok (.iload_n 3, 1) := by decide +kernel
theorem dX5_joinAt_7 : decode cX5_joinAt 7 = .ok (.ifCond .eq 31, 3) := by decide +kernel
theorem dX5_joinAt_10 : decode cX5_joinAt 10 = .ok (.iload_n 2, 1) := by decide +kernel
theorem dX5_joinAt_11 : decode cX5_joinAt 11 = .ok (.iconst 0, 1) := by decide +kernel
theorem dX5_joinAt_12 : decode cX5_joinAt 12 = .ok (.aload_n 0, 1) := by decide +kernel
theorem dX5_joinAt_13 : decode cX5_joinAt 13 = .ok (.getfield 19, 3) := by decide +kernel
theorem dX5_joinAt_16 : decode cX5_joinAt 16 = .ok (.iload_n 3, 1) := by decide +kernel
theorem dX5_joinAt_17 : decode cX5_joinAt 17 = .ok (.ifCond .eq 7, 3) := by decide +kernel
theorem dX5_joinAt_20 : decode cX5_joinAt 20 = .ok (.iload_n 1, 1) := by decide +kernel
theorem dX5_joinAt_21 : decode cX5_joinAt 21 = .ok (.goto 4, 3) := by decide +kernel
theorem dX5_joinAt_24 : decode cX5_joinAt 24 = .ok (.iconst 0, 1) := by decide +kernel
theorem dX5_joinAt_25 : decode cX5_joinAt 25 = .ok (.iaload, 1) := by decide +kernel
theorem dX5_joinAt_26 : decode cX5_joinAt 26 = .ok (.iconst 1, 1) := by decide +kernel
theorem dX5_joinAt_27 : decode cX5_joinAt 27 = .ok (.isub, 1) := by decide +kernel
theorem dX5_joinAt_28 : decode cX5_joinAt 28 = .ok (.invokestatic 47, 3) := by decide +kernel
theorem dX5_joinAt_31 : decode cX5_joinAt 31 = .ok (.ifCond .eq 7, 3) := by decide +kernel
theorem dX5_joinAt_34 : decode cX5_joinAt 34 = .ok (.iconst 1, 1) := by decide +kernel
theorem dX5_joinAt_35 : decode cX5_joinAt 35 = .ok (.goto 4, 3) := by decide +kernel
theorem dX5_joinAt_38 : decode cX5_joinAt 38 = .ok (.iconst 0, 1) := by decide +kernel
theorem dX5_joinAt_39 : decode cX5_joinAt 39 = .ok (.istore 4, 2) := by decide +kernel
theorem dX5_joinAt_41 : decode cX5_joinAt 41 = .ok (.aload_n 0, 1) := by decide +kernel
theorem dX5_joinAt_42 : decode cX5_joinAt 42 = .ok (.iload_n 3, 1) := by decide +kernel
theorem dX5_joinAt_43 : decode cX5_joinAt 43 = .ok (.iload 4, 2) := by decide +kernel
theorem dX5_joinAt_45 : decode cX5_joinAt 45 = .ok (.iload 4, 2) := by decide +kernel
theorem dX5_joinAt_47 : decode cX5_joinAt 47 = .ok (.ifCond .eq 23, 3) := by decide +kernel
theorem dX5_joinAt_50 : decode cX5_joinAt 50 = .ok (.aload_n 0, 1) := by decide +kernel
theorem dX5_joinAt_51 : decode cX5_joinAt 51 = .ok (.iload_n 1, 1) := by decide +kernel
theorem dX5_joinAt_52 : decode cX5_joinAt 52 = .ok (.invokevirtual 74, 3) := by decide +kernel
theorem dX5_joinAt_55 : decode cX5_joinAt 55 = .ok (.ifCond .eq 15, 3) := by decide +kernel
theorem dX5_joinAt_58 : decode cX5_joinAt 58 = .ok (.aload_n 0, 1) := by decide +kernel
theorem dX5_joinAt_59 : decode cX5_joinAt 59 = .ok (.iload_n 1, 1) := by decide +kernel
theorem dX5_joinAt_60 : decode cX5_joinAt 60 = .ok (.invokevirtual 113, 3) := by decide +kernel
theorem dX5_joinAt_63 : decode cX5_joinAt 63 = .ok (.ifCond .eq 7, 3) := by decide +kernel
theorem dX5_joinAt_66 : decode cX5_joinAt 66 = .ok (.iconst 1, 1) := by decide +kernel
theorem dX5_joinAt_67 : decode cX5_joinAt 67 = .ok (.goto 4, 3) := by decide +kernel
theorem dX5_joinAt_70 : decode cX5_joinAt 70 = .ok (.iconst 0, 1) := by decide +kernel
theorem dX5_joinAt_71 : decode cX5_joinAt 71 = .ok (.invokevirtual 55, 3) := by decide +kernel
theorem dX5_joinAt_74 : decode cX5_joinAt 74 = .ok (.ifCond .eq 12, 3) := by decide +kernel
theorem dX5_joinAt_77 : decode cX5_joinAt 77 = .ok (.aload_n 0, 1) := by decide +kernel
theorem dX5_joinAt_78 : decode cX5_joinAt 78 = .ok (.getfield 37, 3) := by decide +kernel
theorem dX5_joinAt_81 : decode cX5_joinAt 81 = .ok (.iload_n 2, 1) := by decide +kernel
theorem dX5_joinAt_82 : decode cX5_joinAt 82 = .ok (.iaload, 1) := by decide +kernel
theorem dX5_joinAt_83 : decode cX5_joinAt 83 = .ok (.goto 4, 3) := by decide +kernel
theorem dX5_joinAt_86 : decode cX5_joinAt 86 = .ok (.iconst 0, 1) := by decide +kernel
theorem dX5_joinAt_87 : decode cX5_joinAt 87 = .ok (.ireturn, 1) := by decide +kernel
theorem dJ9_max_7cf53_0 : decode cJ9_max_7cf53 0 = .ok (.iload_n 0, 1) := by decide +kernel
theorem dJ9_max_7cf53_1 : decode cJ9_max_7cf53 1 = .ok (.iload_n 1, 1) := by decide +kernel
theorem dJ9_max_7cf53_2 : decode cJ9_max_7cf53 2 = .ok (.if_icmp .lt 7, 3) := by decide +kernel
theorem dJ9_max_7cf53_5 : decode cJ9_max_7cf53 5 = .ok (.iload_n 0, 1) := by decide +kernel
theorem dJ9_max_7cf53_6 : decode cJ9_max_7cf53 6 = .ok (.goto 4, 3) := by decide +kernel
theorem dJ9_max_7cf53_9 : decode cJ9_max_7cf53 9 = .ok (.iload_n 1, 1) := by decide +kernel
theorem dJ9_max_7cf53_10 : decode cJ9_max_7cf53 10 = .ok (.ireturn, 1) := by decide +kernel
theorem dJ9_min_7cf53_0 : decode cJ9_min_7cf53 0 = .ok (.iload_n 0, 1) := by decide +kernel
theorem dJ9_min_7cf53_1 : decode cJ9_min_7cf53 1 = .ok (.iload_n 1, 1) := by decide +kernel
theorem dJ9_min_7cf53_2 : decode cJ9_min_7cf53 2 = .ok (.if_icmp .gt 7, 3) := by decide +kernel
theorem dJ9_min_7cf53_5 : decode cJ9_min_7cf53 5 = .ok (.iload_n 0, 1) := by decide +kernel
theorem dJ9_min_7cf53_6 : decode cJ9_min_7cf53 6 = .ok (.goto 4, 3) := by decide +kernel
theorem dJ9_min_7cf53_9 : decode cJ9_min_7cf53 9 = .ok (.iload_n 1, 1) := by decide +kernel
theorem dJ9_min_7cf53_10 : decode cJ9_min_7cf53 10 = .ok (.ireturn, 1) := by decide +kernel
theorem dJxa1e45_init_da8c8_0 : decode cJxa1e45_init_da8c8 0 = .ok (.aload_n 0, 1) := by decide +kernel
theorem dJxa1e45_init_da8c8_1 : decode cJxa1e45_init_da8c8 1 = .ok (.invokespecial 1, 3) := by decide +kernel
theorem dJxa1e45_init_da8c8_4 : decode cJxa1e45_init_da8c8 4 = .ok (.return_, 1) := by decide +kernel
set_option maxRecDepth 20000 in
theorem ggJxc12de_init_da8c8_Jxa1e45_init_da8c8 : GoodIn wsJxc12de_init_da8c8 wsJxa1e45_init_da8c8 := goodIn_r _ [5, 6, 7, 8] (by decide +kernel) (by decide +kernel)
set_option maxRecDepth 20000 in
theorem gJxc12de_init_da8c8_Jxa1e45_init_da8c8 : GoodIn wsJxc12de_init_da8c8 (wsJxa1e45_init_da8c8) := ggJxc12de_init_da8c8_Jxa1e45_init_da8c8
theorem dJxc12de_init_da8c8_0 : decode cJxc12de_init_da8c8 0 = .ok (.aload_n 0, 1) := by decide +kernel
theorem dJxc12de_init_da8c8_1 : decode cJxc12de_init_da8c8 1 = .ok (.invokespecial 1, 3) := by decide +kernel
theorem dJxc12de_init_da8c8_4 : decode cJxc12de_init_da8c8 4 = .ok (.aload_n 0, 1) := by decide +kernel
theorem dJxc12de_init_da8c8_5 : decode cJxc12de_init_da8c8 5 = .ok (.iconst 0, 1) := by decide +kernel
theorem dJxc12de_init_da8c8_6 : decode cJxc12de_init_da8c8 6 = .ok (.putfield 7, 3) := by decide +kernel
theorem dJxc12de_init_da8c8_9 : decode cJxc12de_init_da8c8 9 = .ok (.return_, 1) := by decide +kernel
set_option maxRecDepth 20000 in
theorem ggJx4a65c_init_da8c8_Jxc12de_init_da8c8 : GoodIn wsJx4a65c_init_da8c8 wsJxc12de_init_da8c8 := goodIn_r _ [6, 7, 8, 9, 10, 11, 12, 13, 14, 15, 16, 17] (by decide +kernel) (by decide +kernel)
set_option maxRecDepth 20000 in
theorem gJx4a65c_init_da8c8_Jxc12de_init_da8c8 : GoodIn wsJx4a65c_init_da8c8 (wsJxc12de_init_da8c8) := ggJx4a65c_init_da8c8_Jxc12de_init_da8c8
theorem dJx4a65c_init_da8c8_0 : decode cJx4a65c_init_da8c8 0 = .ok (.aload_n 0, 1) := by decide +kernel
theorem dJx4a65c_init_da8c8_1 : decode cJx4a65c_init_da8c8 1 = .ok (.invokespecial 1, 3) := by decide +kernel
theorem dJx4a65c_init_da8c8_4 : decode cJx4a65c_init_da8c8 4 = .ok (.aload_n 0, 1) := by decide +kernel
theorem dJx4a65c_init_da8c8_5 : decode cJx4a65c_init_da8c8 5 = .ok (.getstatic 39, 3) := by decide +kernel
theorem dJx4a65c_init_da8c8_8 : decode cJx4a65c_init_da8c8 8 = .ok (.putfield 9, 3) := by decide +kernel
theorem dJx4a65c_init_da8c8_11 : decode cJx4a65c_init_da8c8 11 = .ok (.return_, 1) := by decide +kernel
set_option maxRecDepth 20000 in
theorem ggJx4a65c_grow_92f84_J8_newLength_cabcc : GoodIn wsJx4a65c_grow_92f84 wsJ8_newLength_cabcc := goodIn_r _ [11, 12, 4, 5, 6, 13, 14, 15, 10, 16] (by decide +kernel) (by decide +kernel)
set_option maxRecDepth 20000 in
theorem gJx4a65c_grow_92f84_J8_newLength_cabcc : GoodIn wsJx4a65c_grow_92f84 (va_wsS RJx4a65c 73 yJ8_newLength_cabcc wsJ8_newLength_cabcc) := goodIn_app (goodIn_of _ (by decide +kernel)) ggJx4a65c_grow_92f84_J8_newLength_cabcc
set_option maxRecDepth 20000 in
theorem ggJx4a65c_grow_92f84_J7_copyOf_1904c : GoodIn wsJx4a65c_grow_92f84 wsJ7_copyOf_1904c := goodIn_r _ [20, 21, 22, 23, 24, 25, 26, 19, 27, 28, 29, 30, 31, 5, 32, 33, 34, 35, 36] (by decide +kernel) (by decide +kernel)
set_option maxRecDepth 20000 in
theorem gJx4a65c_grow_92f84_J7_copyOf_1904c : GoodIn wsJx4a65c_grow_92f84 (va_wsS RJx4a65c 66 yJ7_copyOf_1904c wsJ7_copyOf_1904c) := goodIn_app (goodIn_of _ (by decide +kernel)) ggJx4a65c_grow_92f84_J7_copyOf_1904c
theorem dJx4a65c_grow_92f84_0 : decode cJx4a65c_grow_92f84 0 = .ok (.aload_n 0, 1) := by decide +kernel
theorem dJx4a65c_grow_92f84_1 : decode cJx4a65c_grow_92f84 1 = .ok (.getfield 9, 3) := by decide +kernel
theorem dJx4a65c_grow_92f84_4 : decode cJx4a65c_grow_92f84 4 = .ok (.arraylength, 1) := by decide +kernel
theorem dJx4a65c_grow_92f84_5 : decode cJx4a65c_grow_92f84 5 = .ok (.istore_n 2, 1) := by decide +kernel
theorem dJx4a65c_grow_92f84_6 : decode cJx4a65c_grow_92f84 6 = .ok (.iload_n 2, 1) := by decide +kernel
theorem dJx4a65c_grow_92f84_7 : decode cJx4a65c_grow_92f84 7 = .ok (.ifCond .gt 13, 3) := by decide +kernel
theorem dJx4a65c_grow_92f84_10 : decode cJx4a65c_grow_92f84 10 = .ok (.aload_n 0, 1) := by decide +kernel
theorem dJx4a65c_grow_92f84_11 : decode cJx4a65c_grow_92f84 11 = .ok (.getfield 9, 3) := by decide +kernel
theorem dJx4a65c_grow_92f84_14 : decode cJx4a65c_grow_92f84 14 = .ok (.getstatic 39, 3) := by decide +kernel
theorem dJx4a65c_grow_92f84_17 : decode cJx4a65c_grow_92f84 17 = .ok (.if_acmp .eq 28, 3) := by decide +kernel
theorem dJx4a65c_grow_92f84_20 : decode cJx4a65c_grow_92f84 20 = .ok (.iload_n 2, 1) := by decide +kernel
theorem dJx4a65c_grow_92f84_21 : decode cJx4a65c_grow_92f84 21 = .ok (.iload_n 1, 1) := by decide +kernel
theorem dJx4a65c_grow_92f84_22 : decode cJx4a65c_grow_92f84 22 = .ok (.iload_n 2, 1) := by decide +kernel
theorem dJx4a65c_grow_92f84_23 : decode cJx4a65c_grow_92f84 23 = .ok (.isub, 1) := by decide +kernel
theorem dJx4a65c_grow_92f84_24 : decode cJx4a65c_grow_92f84 24 = .ok (.iload_n 2, 1) := by decide +kernel
theorem dJx4a65c_grow_92f84_25 : decode cJx4a65c_grow_92f84 25 = .ok (.iconst 1, 1) := by decide +kernel
theorem dJx4a65c_grow_92f84_26 : decode cJx4a65c_grow_92f84 26 = .ok (.ishr, 1) := by decide +kernel
theorem dJx4a65c_grow_92f84_27 : decode cJx4a65c_grow_92f84 27 = .ok (.invokestatic 73, 3) := by decide +kernel
theorem dJx4a65c_grow_92f84_30 : decode cJx4a65c_grow_92f84 30 = .ok (.istore_n 3, 1) := by decide +kernel
theorem dJx4a65c_grow_92f84_31 : decode cJx4a65c_grow_92f84 31 = .ok (.aload_n 0, 1) := by decide +kernel
theorem dJx4a65c_grow_92f84_32 : decode cJx4a65c_grow_92f84 32 = .ok (.aload_n 0, 1) := by decide +kernel
theorem dJx4a65c_grow_92f84_33 : decode cJx4a65c_grow_92f84 33 = .ok (.getfield 9, 3) := by decide +kernel
theorem dJx4a65c_grow_92f84_36 : decode cJx4a65c_grow_92f84 36 = .ok (.iload_n 3, 1) := by decide +kernel
theorem dJx4a65c_grow_92f84_37 : decode cJx4a65c_grow_92f84 37 = .ok (.invokestatic 66, 3) := by decide +kernel
theorem dJx4a65c_grow_92f84_40 : decode cJx4a65c_grow_92f84 40 = .ok (.dup_x1, 1) := by decide +kernel
theorem dJx4a65c_grow_92f84_41 : decode cJx4a65c_grow_92f84 41 = .ok (.putfield 9, 3) := by decide +kernel
theorem dJx4a65c_grow_92f84_44 : decode cJx4a65c_grow_92f84 44 = .ok (.areturn, 1) := by decide +kernel
theorem dJx4a65c_grow_92f84_45 : decode cJx4a65c_grow_92f84 45 = .ok (.aload_n 0, 1) := by decide +kernel
theorem dJx4a65c_grow_92f84_46 : decode cJx4a65c_grow_92f84 46 = .ok (.bipush 10, 2) := by decide +kernel
theorem dJx4a65c_grow_92f84_48 : decode cJx4a65c_grow_92f84 48 = .ok (.iload_n 1, 1) := by decide +kernel
theorem dJx4a65c_grow_92f84_49 : decode cJx4a65c_grow_92f84 49 = .ok (.invokestatic 79, 3) := by decide +kernel
theorem dJx4a65c_grow_92f84_52 : decode cJx4a65c_grow_92f84 52 = .ok (.anewarray 7, 3) := by decide +kernel
theorem dJx4a65c_grow_92f84_55 : decode cJx4a65c_grow_92f84 55 = .ok (.dup_x1, 1) := by decide +kernel
theorem dJx4a65c_grow_92f84_56 : decode cJx4a65c_grow_92f84 56 = .ok (.putfield 9, 3) := by decide +kernel
theorem dJx4a65c_grow_92f84_59 : decode cJx4a65c_grow_92f84 59 = .ok (.areturn, 1) := by decide +kernel
set_option maxRecDepth 20000 in
theorem ggJx4a65c_grow_d5877_Jx4a65c_grow_92f84 : GoodIn wsJx4a65c_grow_d5877 wsJx4a65c_grow_92f84 := goodIn_r _ [6, 7, 8, 9, 10, 11, 12, 13, 14, 15, 16, 17, 18, 19, 20, 21, 22, 23, 24, 25, 26, 27, 28, 29, 30, 31, 32, 33, 34, 35, 36, 37, 38, 39, 40, 41, 42, 43, 44, 45] (by decide +kernel) (by decide +kernel)
set_option maxRecDepth 20000 in
theorem gJx4a65c_grow_d5877_Jx4a65c_grow_92f84 : GoodIn wsJx4a65c_grow_d5877 (wsV RJx4a65c 69 RJx4a65c yJx4a65c_grow_92f84 wsJx4a65c_grow_92f84) := goodIn_app (goodIn_of _ (by decide +kernel)) ggJx4a65c_grow_d5877_Jx4a65c_grow_92f84
theorem dJx4a65c_grow_d5877_0 : decode cJx4a65c_grow_d5877 0 = .ok (.aload_n 0, 1) := by decide +kernel
theorem dJx4a65c_grow_d5877_1 : decode cJx4a65c_grow_d5877 1 = .ok (.aload_n 0, 1) := by decide +kernel
theorem dJx4a65c_grow_d5877_2 : decode cJx4a65c_grow_d5877 2 = .ok (.getfield 48, 3) := by decide +kernel
theorem dJx4a65c_grow_d5877_5 : decode cJx4a65c_grow_d5877 5 = .ok (.iconst 1, 1) := by decide +kernel
theorem dJx4a65c_grow_d5877_6 : decode cJx4a65c_grow_d5877 6 = .ok (.iadd, 1) := by decide +kernel
theorem dJx4a65c_grow_d5877_7 : decode cJx4a65c_grow_d5877 7 = .ok (.invokevirtual 69, 3) := by decide +kernel
theorem dJx4a65c_grow_d5877_10 : decode cJx4a65c_grow_d5877 10 = .ok (.areturn, 1) := by decide +kernel
theorem dJx4a65c_size_8abf5_0 : decode cJx4a65c_size_8abf5 0 = .ok (.aload_n 0, 1) := by decide +kernel
theorem dJx4a65c_size_8abf5_1 : decode cJx4a65c_size_8abf5 1 = .ok (.getfield 48, 3) := by decide +kernel
theorem dJx4a65c_size_8abf5_4 : decode cJx4a65c_size_8abf5 4 = .ok (.ireturn, 1) := by decide +kernel
theorem dJx4a65c_elementData_915e3_0 : decode cJx4a65c_elementData_915e3 0 = .ok (.aload_n 0, 1) := by decide +kernel
theorem dJx4a65c_elementData_915e3_1 : decode cJx4a65c_elementData_915e3 1 = .ok (.getfield 9, 3) := by decide +kernel
theorem dJx4a65c_elementData_915e3_4 : decode cJx4a65c_elementData_915e3 4 = .ok (.iload_n 1, 1) := by decide +kernel
theorem dJx4a65c_elementData_915e3_5 : decode cJx4a65c_elementData_915e3 5 = .ok (.aaload, 1) := by decide +kernel
theorem dJx4a65c_elementData_915e3_6 : decode cJx4a65c_elementData_915e3 6 = .ok (.areturn, 1) := by decide +kernel
set_option maxRecDepth 20000 in
theorem ggJx4a65c_get_915e3_J15_checkIndex_7cf53 : GoodIn wsJx4a65c_get_915e3 wsJ15_checkIndex_7cf53 := goodIn_r _ [5, 6, 7, 8, 9] (by decide +kernel) (by decide +kernel)
set_option maxRecDepth 20000 in
theorem gJx4a65c_get_915e3_J15_checkIndex_7cf53 : GoodIn wsJx4a65c_get_915e3 (va_wsS RJx4a65c 118 yJ15_checkIndex_7cf53 wsJ15_checkIndex_7cf53) := goodIn_app (goodIn_of _ (by decide +kernel)) ggJx4a65c_get_915e3_J15_checkIndex_7cf53
set_option maxRecDepth 20000 in
theorem ggJx4a65c_get_915e3_Jx4a65c_elementData_915e3 : GoodIn wsJx4a65c_get_915e3 wsJx4a65c_elementData_915e3 := goodIn_r _ [14, 15, 16, 17, 18] (by decide +kernel) (by decide +kernel)
set_option maxRecDepth 20000 in
theorem gJx4a65c_get_915e3_Jx4a65c_elementData_915e3 : GoodIn wsJx4a65c_get_915e3 (wsV RJx4a65c 123 RJx4a65c yJx4a65c_elementData_915e3 wsJx4a65c_elementData_915e3) := goodIn_app (goodIn_of _ (by decide +kernel)) ggJx4a65c_get_915e3_Jx4a65c_elementData_915e3
theorem dJx4a65c_get_915e3_0 : decode cJx4a65c_get_915e3 0 = .ok (.iload_n 1, 1) := by decide +kernel
theorem dJx4a65c_get_915e3_1 : decode cJx4a65c_get_915e3 1 = .ok (.aload_n 0, 1) := by decide +kernel
theorem dJx4a65c_get_915e3_2 : decode cJx4a65c_get_915e3 2 = .ok (.getfield 48, 3) := by decide +kernel
theorem dJx4a65c_get_915e3_5 : decode cJx4a65c_get_915e3 5 = .ok (.invokestatic 118, 3) := by decide +kernel
theorem dJx4a65c_get_915e3_8 : decode cJx4a65c_get_915e3 8 = .ok (.pop, 1) := by decide +kernel
theorem dJx4a65c_get_915e3_9 : decode cJx4a65c_get_915e3 9 = .ok (.aload_n 0, 1) := by decide +kernel
theorem dJx4a65c_get_915e3_10 : decode cJx4a65c_get_915e3 10 = .ok (.iload_n 1, 1) := by decide +kernel
theorem dJx4a65c_get_915e3_11 : decode cJx4a65c_get_915e3 11 = .ok (.invokevirtual 123, 3) := by decide +kernel
theorem dJx4a65c_get_915e3_14 : decode cJx4a65c_get_915e3 14 = .ok (.areturn, 1) := by decide +kernel
set_option maxRecDepth 20000 in
theorem ggJx4a65c_add_72be8_Jx4a65c_grow_d5877 : GoodIn wsJx4a65c_add_72be8 wsJx4a65c_grow_d5877 := goodIn_r _ [6, 1, 7, 8, 9, 5, 10, 11, 12, 13, 14, 15, 16, 17, 18, 19, 20, 21, 22, 23, 24, 25, 26, 27, 28, 29, 30, 31, 32, 33, 34, 35, 36, 37, 38, 39, 40, 41, 42, 43, 44, 45, 46, 47, 48, 49] (by decide +kernel) (by decide +kernel)
set_option maxRecDepth 20000 in
theorem gJx4a65c_add_72be8_Jx4a65c_grow_d5877 : GoodIn wsJx4a65c_add_72be8 (wsV RJx4a65c 129 RJx4a65c yJx4a65c_grow_d5877 wsJx4a65c_grow_d5877) := goodIn_app (goodIn_of _ (by decide +kernel)) ggJx4a65c_add_72be8_Jx4a65c_grow_d5877
theorem dJx4a65c_add_72be8_0 : decode cJx4a65c_add_72be8 0 = .ok (.iload_n 3, 1) := by decide +kernel
theorem dJx4a65c_add_72be8_1 : decode cJx4a65c_add_72be8 1 = .ok (.aload_n 2, 1) := by decide +kernel
theorem dJx4a65c_add_72be8_2 : decode cJx4a65c_add_72be8 2 = .ok (.arraylength, 1) := by decide +kernel
theorem dJx4a65c_add_72be8_3 : decode cJx4a65c_add_72be8 3 = .ok (.if_icmp .ne 8, 3) := by decide +kernel
theorem dJx4a65c_add_72be8_6 : decode cJx4a65c_add_72be8 6 = .ok (.aload_n 0, 1) := by decide +kernel
theorem dJx4a65c_add_72be8_7 : decode cJx4a65c_add_72be8 7 = .ok (.invokevirtual 129, 3) := by decide +kernel
theorem dJx4a65c_add_72be8_10 : decode cJx4a65c_add_72be8 10 = .ok (.astore_n 2, 1) := by decide +kernel
theorem dJx4a65c_add_72be8_11 : decode cJx4a65c_add_72be8 11 = .ok (.aload_n 2, 1) := by decide +kernel
theorem dJx4a65c_add_72be8_12 : decode cJx4a65c_add_72be8 12 = .ok (.iload_n 3, 1) := by decide +kernel
theorem dJx4a65c_add_72be8_13 : decode cJx4a65c_add_72be8 13 = .ok (.aload_n 1, 1) := by decide +kernel
theorem dJx4a65c_add_72be8_14 : decode cJx4a65c_add_72be8 14 = .ok (.aastore, 1) := by decide +kernel
theorem dJx4a65c_add_72be8_15 : decode cJx4a65c_add_72be8 15 = .ok (.aload_n 0, 1) := by decide +kernel
theorem dJx4a65c_add_72be8_16 : decode cJx4a65c_add_72be8 16 = .ok (.iload_n 3, 1) := by decide +kernel
theorem dJx4a65c_add_72be8_17 : decode cJx4a65c_add_72be8 17 = .ok (.iconst 1, 1) := by decide +kernel
theorem dJx4a65c_add_72be8_18 : decode cJx4a65c_add_72be8 18 = .ok (.iadd, 1) := by decide +kernel
theorem dJx4a65c_add_72be8_19 : decode cJx4a65c_add_72be8 19 = .ok (.putfield 48, 3) := by decide +kernel
theorem dJx4a65c_add_72be8_22 : decode cJx4a65c_add_72be8 22 = .ok (.return_, 1) := by decide +kernel
set_option maxRecDepth 20000 in
theorem ggJx4a65c_add_9ea2d_Jx4a65c_add_72be8 : GoodIn wsJx4a65c_add_9ea2d wsJx4a65c_add_72be8 := goodIn_r _ [9, 4, 10, 11, 12, 8, 13, 14, 15, 16, 17, 3, 18, 19, 20, 21, 22, 23, 24, 25, 26, 27, 28, 29, 30, 31, 32, 33, 34, 35, 36, 37, 38, 39, 40, 41, 42, 43, 44, 45, 46, 47, 48, 49, 50, 51, 52, 53, 54, 55] (by decide +kernel) (by decide +kernel)
set_option maxRecDepth 20000 in
theorem gJx4a65c_add_9ea2d_Jx4a65c_add_72be8 : GoodIn wsJx4a65c_add_9ea2d (wsV RJx4a65c 131 RJx4a65c yJx4a65c_add_72be8 wsJx4a65c_add_72be8) := goodIn_app (goodIn_of _ (by decide +kernel)) ggJx4a65c_add_9ea2d_Jx4a65c_add_72be8
theorem dJx4a65c_add_9ea2d_0 : decode cJx4a65c_add_9ea2d 0 = .ok (.aload_n 0, 1) := by decide +kernel
theorem dJx4a65c_add_9ea2d_1 : decode cJx4a65c_add_9ea2d 1 = .ok (.dup, 1) := by decide +kernel
theorem dJx4a65c_add_9ea2d_2 : decode cJx4a65c_add_9ea2d 2 = .ok (.getfield 63, 3) := by decide +kernel
theorem dJx4a65c_add_9ea2d_5 : decode cJx4a65c_add_9ea2d 5 = .ok (.iconst 1, 1) := by decide +kernel
theorem dJx4a65c_add_9ea2d_6 : decode cJx4a65c_add_9ea2d 6 = .ok (.iadd, 1) := by decide +kernel
theorem dJx4a65c_add_9ea2d_7 : decode cJx4a65c_add_9ea2d 7 = .ok (.putfield 63, 3) := by decide +kernel
theorem dJx4a65c_add_9ea2d_10 : decode cJx4a65c_add_9ea2d 10 = .ok (.aload_n 0, 1) := by decide +kernel
theorem dJx4a65c_add_9ea2d_11 : decode cJx4a65c_add_9ea2d 11 = .ok (.aload_n 1, 1) := by decide +kernel
theorem dJx4a65c_add_9ea2d_12 : decode cJx4a65c_add_9ea2d 12 = .ok (.aload_n 0, 1) := by decide +kernel
theorem dJx4a65c_add_9ea2d_13 : decode cJx4a65c_add_9ea2d 13 = .ok (.getfield 9, 3) := by decide +kernel
theorem dJx4a65c_add_9ea2d_16 : decode cJx4a65c_add_9ea2d 16 = .ok (.aload_n 0, 1) := by decide +kernel
theorem dJx4a65c_add_9ea2d_17 : decode cJx4a65c_add_9ea2d 17 = .ok (.getfield 48, 3) := by decide +kernel
theorem dJx4a65c_add_9ea2d_20 : decode cJx4a65c_add_9ea2d 20 = .ok (.invokevirtual 131, 3) := by decide +kernel
theorem dJx4a65c_add_9ea2d_23 : decode cJx4a65c_add_9ea2d 23 = .ok (.iconst 1, 1) := by decide +kernel
theorem dJx4a65c_add_9ea2d_24 : decode cJx4a65c_add_9ea2d 24 = .ok (.ireturn, 1) := by decide +kernel
theorem dJ7_fill_53178_0 : decode cJ7_fill_53178 0 = .ok (.iconst 0, 1) := by decide +kernel
theorem dJ7_fill_53178_1 : decode cJ7_fill_53178 1 = .ok (.istore_n 2, 1) := by decide +kernel
theorem dJ7_fill_53178_2 : decode cJ7_fill_53178 2 = .ok (.aload_n 0, 1) := by decide +kernel
theorem dJ7_fill_53178_3 : decode cJ7_fill_53178 3 = .ok (.arraylength, 1) := by decide +kernel
theorem dJ7_fill_53178_4 : decode cJ7_fill_53178 4 = .ok (.istore_n 3, 1) := by decide +kernel
theorem dJ7_fill_53178_5 : decode cJ7_fill_53178 5 = .ok (.iload_n 2, 1) := by decide +kernel
theorem dJ7_fill_53178_6 : decode cJ7_fill_53178 6 = .ok (.iload_n 3, 1) := by decide +kernel
theorem dJ7_fill_53178_7 : decode cJ7_fill_53178 7 = .ok (.if_icmp .ge 13, 3) := by decide +kernel
theorem dJ7_fill_53178_10 : decode cJ7_fill_53178 10 = .ok (.aload_n 0, 1) := by decide +kernel
theorem dJ7_fill_53178_11 : decode cJ7_fill_53178 11 = .ok (.iload_n 2, 1) := by decide +kernel
theorem dJ7_fill_53178_12 : decode cJ7_fill_53178 12 = .ok (.iload_n 1, 1) := by decide +kernel
theorem dJ7_fill_53178_13 : decode cJ7_fill_53178 13 = .ok (.iastore, 1) := by decide +kernel
theorem dJ7_fill_53178_14 : decode cJ7_fill_53178 14 = .ok (.iinc 2 1, 3) := by decide +kernel
theorem dJ7_fill_53178_17 : decode cJ7_fill_53178 17 = .ok (.goto (-12), 3) := by decide +kernel
theorem dJ7_fill_53178_20 : decode cJ7_fill_53178 20 = .ok (.return_, 1) := by decide +kernel
set_option maxRecDepth 20000 in
theorem ggJ7_copyOf_1904c_J7_copyOf_6403c : GoodIn wsJ7_copyOf_1904c wsJ7_copyOf_6403c := goodIn_r _ [8, 9, 10, 11, 12, 13, 14, 15, 16, 17, 18] (by decide +kernel) (by decide +kernel)
set_option maxRecDepth 20000 in
theorem gJ7_copyOf_1904c_J7_copyOf_6403c : GoodIn wsJ7_copyOf_1904c (va_wsS RJ7 300 yJ7_copyOf_6403c wsJ7_copyOf_6403c) := goodIn_app (goodIn_of _ (by decide +kernel)) ggJ7_copyOf_1904c_J7_copyOf_6403c
theorem dJ7_copyOf_1904c_0 : decode cJ7_copyOf_1904c 0 = .ok (.aload_n 0, 1) := by decide +kernel
theorem dJ7_copyOf_1904c_1 : decode cJ7_copyOf_1904c 1 = .ok (.iload_n 1, 1) := by decide +kernel
theorem dJ7_copyOf_1904c_2 : decode cJ7_copyOf_1904c 2 = .ok (.aload_n 0, 1) := by decide +kernel
theorem dJ7_copyOf_1904c_3 : decode cJ7_copyOf_1904c 3 = .ok (.invokevirtual 86, 3) := by decide +kernel
theorem dJ7_copyOf_1904c_6 : decode cJ7_copyOf_1904c 6 = .ok (.invokestatic 300, 3) := by decide +kernel
theorem dJ7_copyOf_1904c_9 : decode cJ7_copyOf_1904c 9 = .ok (.areturn, 1) := by decide +kernel
theorem dJ7_copyOf_6403c_0 : decode cJ7_copyOf_6403c 0 = .ok (.aload_n 2, 1) := by decide +kernel
theorem dJ7_copyOf_6403c_1 : decode cJ7_copyOf_6403c 1 = .ok (.ldc 110, 2) := by decide +kernel
theorem dJ7_copyOf_6403c_3 : decode cJ7_copyOf_6403c 3 = .ok (.if_acmp .ne 10, 3) := by decide +kernel
theorem dJ7_copyOf_6403c_6 : decode cJ7_copyOf_6403c 6 = .ok (.iload_n 1, 1) := by decide +kernel
theorem dJ7_copyOf_6403c_7 : decode cJ7_copyOf_6403c 7 = .ok (.anewarray 2, 3) := by decide +kernel
theorem dJ7_copyOf_6403c_10 : decode cJ7_copyOf_6403c 10 = .ok (.goto 14, 3) := by decide +kernel
theorem dJ7_copyOf_6403c_13 : decode cJ7_copyOf_6403c 13 = .ok (.aload_n 2, 1) := by decide +kernel
theorem dJ7_copyOf_6403c_14 : decode cJ7_copyOf_6403c 14 = .ok (.invokevirtual 90, 3) := by decide +kernel
theorem dJ7_copyOf_6403c_17 : decode cJ7_copyOf_6403c 17 = .ok (.iload_n 1, 1) := by decide +kernel
theorem dJ7_copyOf_6403c_18 : decode cJ7_copyOf_6403c 18 = .ok (.invokestatic 95, 3) := by decide +kernel
theorem dJ7_copyOf_6403c_21 : decode cJ7_copyOf_6403c 21 = .ok (.checkcast 110, 3) := by decide +kernel
theorem dJ7_copyOf_6403c_24 : decode cJ7_copyOf_6403c 24 = .ok (.astore_n 3, 1) := by decide +kernel
theorem dJ7_copyOf_6403c_25 : decode cJ7_copyOf_6403c 25 = .ok (.aload_n 0, 1) := by decide +kernel
theorem dJ7_copyOf_6403c_26 : decode cJ7_copyOf_6403c 26 = .ok (.iconst 0, 1) := by decide +kernel
theorem dJ7_copyOf_6403c_27 : decode cJ7_copyOf_6403c 27 = .ok (.aload_n 3, 1) := by decide +kernel
theorem dJ7_copyOf_6403c_28 : decode cJ7_copyOf_6403c 28 = .ok (.iconst 0, 1) := by decide +kernel
theorem dJ7_copyOf_6403c_29 : decode cJ7_copyOf_6403c 29 = .ok (.aload_n 0, 1) := by decide +kernel
theorem dJ7_copyOf_6403c_30 : decode cJ7_copyOf_6403c 30 = .ok (.arraylength, 1) := by decide +kernel
theorem dJ7_copyOf_6403c_31 : decode cJ7_copyOf_6403c 31 = .ok (.iload_n 1, 1) := by decide +kernel
theorem dJ7_copyOf_6403c_32 : decode cJ7_copyOf_6403c 32 = .ok (.invokestatic 304, 3) := by decide +kernel
theorem dJ7_copyOf_6403c_35 : decode cJ7_copyOf_6403c 35 = .ok (.invokestatic 150, 3) := by decide +kernel
theorem dJ7_copyOf_6403c_38 : decode cJ7_copyOf_6403c 38 = .ok (.aload_n 3, 1) := by decide +kernel
theorem dJ7_copyOf_6403c_39 : decode cJ7_copyOf_6403c 39 = .ok (.areturn, 1) := by decide +kernel
set_option maxRecDepth 20000 in
theorem ggJ15_checkIndex_7cf53_J3_checkIndex_8e157 : GoodIn wsJ15_checkIndex_7cf53 wsJ3_checkIndex_8e157 := goodIn_r _ [4] (by decide +kernel) (by decide +kernel)
set_option maxRecDepth 20000 in
theorem gJ15_checkIndex_7cf53_J3_checkIndex_8e157 : GoodIn wsJ15_checkIndex_7cf53 (va_wsS RJ15 105 yJ3_checkIndex_8e157 wsJ3_checkIndex_8e157) := goodIn_app (goodIn_of _ (by decide +kernel)) ggJ15_checkIndex_7cf53_J3_checkIndex_8e157
theorem dJ15_checkIndex_7cf53_0 : decode cJ15_checkIndex_7cf53 0 = .ok (.iload_n 0, 1) := by decide +kernel
