theorem dX3_fill_21 : decode cX3_fill 21 = .ok (.getfield 28, 3) := by decide +kernel
theorem dX3_fill_24 : decode cX3_fill 24 = .ok (.iconst 1, 1) := by decide +kernel
theorem dX3_fill_25 : decode cX3_fill 25 = .ok (.isub, 1) := by decide +kernel
theorem dX3_fill_26 : decode cX3_fill 26 = .ok (.if_icmp .ne 7, 3) := by decide +kernel
theorem dX3_fill_29 : decode cX3_fill 29 = .ok (.iconst 1, 1) := by decide +kernel
theorem dX3_fill_30 : decode cX3_fill 30 = .ok (.goto 4, 3) := by decide +kernel
theorem dX3_fill_33 : decode cX3_fill 33 = .ok (.iconst 0, 1) := by decide +kernel
theorem dX3_fill_34 : decode cX3_fill 34 = .ok (.istore_n 3, 1) := by decide +kernel
theorem dX3_fill_35 : decode cX3_fill 35 = .ok (.iconst 0, 1) := by decide +kernel
theorem dX3_fill_36 : decode cX3_fill 36 = .ok (.istore 4, 2) := by decide +kernel
theorem dX3_fill_38 : decode cX3_fill 38 = .ok (.iload 4, 2) := by decide +kernel
theorem dX3_fill_40 : decode cX3_fill 40 = .ok (.bipush 40, 2) := by decide +kernel
theorem dX3_fill_42 : decode cX3_fill 42 = .ok (.if_icmp .ge 114, 3) := by decide +kernel
theorem dX3_fill_45 : decode cX3_fill 45 = .ok (.aload_n 0, 1) := by decide +kernel
theorem dX3_fill_46 : decode cX3_fill 46 = .ok (.getfield 18, 3) := by decide +kernel
theorem dX3_fill_49 : decode cX3_fill 49 = .ok (.iload 4, 2) := by decide +kernel
theorem dX3_fill_51 : decode cX3_fill 51 = .ok (.baload, 1) := by decide +kernel
theorem dX3_fill_52 : decode cX3_fill 52 = .ok (.ifCond .eq 98, 3) := by decide +kernel
theorem dX3_fill_55 : decode cX3_fill 55 = .ok (.iload_n 1, 1) := by decide +kernel
theorem dX3_fill_56 : decode cX3_fill 56 = .ok (.ifCond .ne 12, 3) := by decide +kernel
theorem dX3_fill_59 : decode cX3_fill 59 = .ok (.iload 4, 2) := by decide +kernel
theorem dX3_fill_61 : decode cX3_fill 61 = .ok (.aload_n 0, 1) := by decide +kernel
theorem dX3_fill_62 : decode cX3_fill 62 = .ok (.getfield 32, 3) := by decide +kernel
theorem dX3_fill_65 : decode cX3_fill 65 = .ok (.if_icmp .ne 85, 3) := by decide +kernel
theorem dX3_fill_68 : decode cX3_fill 68 = .ok (.iload_n 3, 1) := by decide +kernel
theorem dX3_fill_69 : decode cX3_fill 69 = .ok (.ifCond .eq 16, 3) := by decide +kernel
theorem dX3_fill_72 : decode cX3_fill 72 = .ok (.aload_n 0, 1) := by decide +kernel
theorem dX3_fill_73 : decode cX3_fill 73 = .ok (.getfield 22, 3) := by decide +kernel
theorem dX3_fill_76 : decode cX3_fill 76 = .ok (.iload 4, 2) := by decide +kernel
theorem dX3_fill_78 : decode cX3_fill 78 = .ok (.baload, 1) := by decide +kernel
theorem dX3_fill_79 : decode cX3_fill 79 = .ok (.ifCond .ne 6, 3) := by decide +kernel
theorem dX3_fill_82 : decode cX3_fill 82 = .ok (.goto 68, 3) := by decide +kernel
theorem dX3_fill_85 : decode cX3_fill 85 = .ok (.aload_n 0, 1) := by decide +kernel
theorem dX3_fill_86 : decode cX3_fill 86 = .ok (.getfield 25, 3) := by decide +kernel
theorem dX3_fill_89 : decode cX3_fill 89 = .ok (.iload_n 1, 1) := by decide +kernel
theorem dX3_fill_90 : decode cX3_fill 90 = .ok (.iload 4, 2) := by decide +kernel
theorem dX3_fill_92 : decode cX3_fill 92 = .ok (.iastore, 1) := by decide +kernel
theorem dX3_fill_93 : decode cX3_fill 93 = .ok (.iload_n 2, 1) := by decide +kernel
theorem dX3_fill_94 : decode cX3_fill 94 = .ok (.aload_n 0, 1) := by decide +kernel
theorem dX3_fill_95 : decode cX3_fill 95 = .ok (.getfield 15, 3) := by decide +kernel
theorem dX3_fill_98 : decode cX3_fill 98 = .ok (.iload 4, 2) := by decide +kernel
theorem dX3_fill_100 : decode cX3_fill 100 = .ok (.iaload, 1) := by decide +kernel
theorem dX3_fill_101 : decode cX3_fill 101 = .ok (.iadd, 1) := by decide +kernel
theorem dX3_fill_102 : decode cX3_fill 102 = .ok (.iconst 4, 1) := by decide +kernel
theorem dX3_fill_103 : decode cX3_fill 103 = .ok (.iload_n 1, 1) := by decide +kernel
theorem dX3_fill_104 : decode cX3_fill 104 = .ok (.imul, 1) := by decide +kernel
theorem dX3_fill_105 : decode cX3_fill 105 = .ok (.aload_n 0, 1) := by decide +kernel
theorem dX3_fill_106 : decode cX3_fill 106 = .ok (.getfield 9, 3) := by decide +kernel
theorem dX3_fill_109 : decode cX3_fill 109 = .ok (.iload 4, 2) := by decide +kernel
theorem dX3_fill_111 : decode cX3_fill 111 = .ok (.iaload, 1) := by decide +kernel
theorem dX3_fill_112 : decode cX3_fill 112 = .ok (.imul, 1) := by decide +kernel
theorem dX3_fill_113 : decode cX3_fill 113 = .ok (.iadd, 1) := by decide +kernel
theorem dX3_fill_114 : decode cX3_fill 114 = .ok (.istore 5, 2) := by decide +kernel
theorem dX3_fill_116 : decode cX3_fill 116 = .ok (.iload_n 3, 1) := by decide +kernel
theorem dX3_fill_117 : decode cX3_fill 117 = .ok (.ifCond .eq 19, 3) := by decide +kernel
theorem dX3_fill_120 : decode cX3_fill 120 = .ok (.iload 5, 2) := by decide +kernel
theorem dX3_fill_122 : decode cX3_fill 122 = .ok (.sipush 9973, 3) := by decide +kernel
theorem dX3_fill_125 : decode cX3_fill 125 = .ok (.irem, 1) := by decide +kernel
theorem dX3_fill_126 : decode cX3_fill 126 = .ok (.aload_n 0, 1) := by decide +kernel
theorem dX3_fill_127 : decode cX3_fill 127 = .ok (.getfield 35, 3) := by decide +kernel
theorem dX3_fill_130 : decode cX3_fill 130 = .ok (.if_icmp .ne 20, 3) := by decide +kernel
theorem dX3_fill_133 : decode cX3_fill 133 = .ok (.goto 15, 3) := by decide +kernel
theorem dX3_fill_136 : decode cX3_fill 136 = .ok (.aload_n 0, 1) := by decide +kernel
theorem dX3_fill_137 : decode cX3_fill 137 = .ok (.iload_n 1, 1) := by decide +kernel
theorem dX3_fill_138 : decode cX3_fill 138 = .ok (.iload 4, 2) := by decide +kernel
theorem dX3_fill_140 : decode cX3_fill 140 = .ok (.iload 5, 2) := by decide +kernel
theorem dX3_fill_142 : decode cX3_fill 142 = .ok (.invokevirtual 74, 3) := by decide +kernel
theorem dX3_fill_145 : decode cX3_fill 145 = .ok (.ifCond .eq 5, 3) := by decide +kernel
theorem dX3_fill_148 : decode cX3_fill 148 = .ok (.iconst 1, 1) := by decide +kernel
theorem dX3_fill_149 : decode cX3_fill 149 = .ok (.ireturn, 1) := by decide +kernel
theorem dX3_fill_150 : decode cX3_fill 150 = .ok (.iinc 4 1, 3) := by decide +kernel
theorem dX3_fill_153 : decode cX3_fill 153 = .ok (.goto (-115), 3) := by decide +kernel
theorem dX3_fill_156 : decode cX3_fill 156 = .ok (.iconst 0, 1) := by decide +kernel
theorem dX3_fill_157 : decode cX3_fill 157 = .ok (.ireturn, 1) := by decide +kernel
set_option maxRecDepth 20000 in
theorem ggX3_goesOn_X3_fill : GoodIn wsX3_goesOn wsX3_fill := goodIn_r _ [6, 7, 1, 8, 9, 10, 11, 12, 13, 14, 15, 16, 5, 0, 2, 3, 4, 17, 18, 19, 20, 21, 22, 23, 24] (by decide +kernel) (by decide +kernel)
set_option maxRecDepth 20000 in
theorem gX3_goesOn_X3_fill : GoodIn wsX3_goesOn (wsV RX3 66 RX3 yX3_fill wsX3_fill) := goodIn_app (goodIn_of _ (by decide +kernel)) ggX3_goesOn_X3_fill
theorem dX3_goesOn_0 : decode cX3_goesOn 0 = .ok (.iload_n 2, 1) := by decide +kernel
theorem dX3_goesOn_1 : decode cX3_goesOn 1 = .ok (.ifCond .lt 9, 3) := by decide +kernel
theorem dX3_goesOn_4 : decode cX3_goesOn 4 = .ok (.iload_n 2, 1) := by decide +kernel
theorem dX3_goesOn_5 : decode cX3_goesOn 5 = .ok (.bipush 40, 2) := by decide +kernel
theorem dX3_goesOn_7 : decode cX3_goesOn 7 = .ok (.if_icmp .lt 5, 3) := by decide +kernel
theorem dX3_goesOn_10 : decode cX3_goesOn 10 = .ok (.iconst 0, 1) := by decide +kernel
theorem dX3_goesOn_11 : decode cX3_goesOn 11 = .ok (.ireturn, 1) := by decide +kernel
theorem dX3_goesOn_12 : decode cX3_goesOn 12 = .ok (.aload_n 0, 1) := by decide +kernel
theorem dX3_goesOn_13 : decode cX3_goesOn 13 = .ok (.getfield 18, 3) := by decide +kernel
theorem dX3_goesOn_16 : decode cX3_goesOn 16 = .ok (.iload_n 2, 1) := by decide +kernel
theorem dX3_goesOn_17 : decode cX3_goesOn 17 = .ok (.iconst 0, 1) := by decide +kernel
theorem dX3_goesOn_18 : decode cX3_goesOn 18 = .ok (.bastore, 1) := by decide +kernel
theorem dX3_goesOn_19 : decode cX3_goesOn 19 = .ok (.aload_n 0, 1) := by decide +kernel
theorem dX3_goesOn_20 : decode cX3_goesOn 20 = .ok (.iload_n 1, 1) := by decide +kernel
theorem dX3_goesOn_21 : decode cX3_goesOn 21 = .ok (.iconst 1, 1) := by decide +kernel
theorem dX3_goesOn_22 : decode cX3_goesOn 22 = .ok (.iadd, 1) := by decide +kernel
theorem dX3_goesOn_23 : decode cX3_goesOn 23 = .ok (.iload_n 3, 1) := by decide +kernel
theorem dX3_goesOn_24 : decode cX3_goesOn 24 = .ok (.invokevirtual 66, 3) := by decide +kernel
theorem dX3_goesOn_27 : decode cX3_goesOn 27 = .ok (.istore 4, 2) := by decide +kernel
theorem dX3_goesOn_29 : decode cX3_goesOn 29 = .ok (.aload_n 0, 1) := by decide +kernel
theorem dX3_goesOn_30 : decode cX3_goesOn 30 = .ok (.getfield 18, 3) := by decide +kernel
theorem dX3_goesOn_33 : decode cX3_goesOn 33 = .ok (.iload_n 2, 1) := by decide +kernel
theorem dX3_goesOn_34 : decode cX3_goesOn 34 = .ok (.iconst 1, 1) := by decide +kernel
theorem dX3_goesOn_35 : decode cX3_goesOn 35 = .ok (.bastore, 1) := by decide +kernel
theorem dX3_goesOn_36 : decode cX3_goesOn 36 = .ok (.iload 4, 2) := by decide +kernel
theorem dX3_goesOn_38 : decode cX3_goesOn 38 = .ok (.ireturn, 1) := by decide +kernel
set_option maxRecDepth 20000 in
theorem ggX4_init_X1_init : GoodIn wsX4_init wsX1_init := goodIn_r _ [23, 24, 2, 3, 25, 26, 27, 28, 29, 30, 31, 64, 65] (by decide +kernel) (by decide +kernel)
set_option maxRecDepth 20000 in
theorem gX4_init_X1_init : GoodIn wsX4_init (wsX1_init) := ggX4_init_X1_init
set_option maxRecDepth 20000 in
theorem ggX4_init_Jx4a65c_init_da8c8 : GoodIn wsX4_init wsJx4a65c_init_da8c8 := goodIn_r _ [34, 35, 36, 37, 38, 39, 40, 41, 42, 43, 44, 45, 46, 2, 3, 71, 72, 73] (by decide +kernel) (by decide +kernel)
set_option maxRecDepth 20000 in
theorem gX4_init_Jx4a65c_init_da8c8 : GoodIn wsX4_init (wsJx4a65c_init_da8c8) := ggX4_init_Jx4a65c_init_da8c8
set_option maxRecDepth 20000 in
theorem ggX4_init_X3_init : GoodIn wsX4_init wsX3_init := goodIn_r _ [48, 49, 2, 3, 25, 50, 51, 52, 53, 54, 55, 56, 57, 58, 74, 75, 76, 77, 78, 79, 80, 81] (by decide +kernel) (by decide +kernel)
set_option maxRecDepth 20000 in
theorem gX4_init_X3_init_n25 : GoodIn wsX4_init (wsX3_init) := ggX4_init_X3_init
set_option maxRecDepth 20000 in
theorem ggX4_init_X0_init : GoodIn wsX4_init wsX0_init := goodIn_r _ [60, 61, 2, 3, 25, 62, 63, 82, 83] (by decide +kernel) (by decide +kernel)
set_option maxRecDepth 20000 in
theorem gX4_init_X0_init_n32 : GoodIn wsX4_init (wsX0_init) := ggX4_init_X0_init
theorem dX4_init_0 : decode cX4_init 0 = .ok (.aload_n 0, 1) := by decide +kernel
theorem dX4_init_1 : decode cX4_init 1 = .ok (.invokespecial 1, 3) := by decide +kernel
theorem dX4_init_4 : decode cX4_init 4 = .ok (.aload_n 0, 1) := by decide +kernel
theorem dX4_init_5 : decode cX4_init 5 = .ok (.new 7, 3) := by decide +kernel
theorem dX4_init_8 : decode cX4_init 8 = .ok (.dup, 1) := by decide +kernel
theorem dX4_init_9 : decode cX4_init 9 = .ok (.invokespecial 9, 3) := by decide +kernel
theorem dX4_init_12 : decode cX4_init 12 = .ok (.putfield 10, 3) := by decide +kernel
theorem dX4_init_15 : decode cX4_init 15 = .ok (.aload_n 0, 1) := by decide +kernel
theorem dX4_init_16 : decode cX4_init 16 = .ok (.new 16, 3) := by decide +kernel
theorem dX4_init_19 : decode cX4_init 19 = .ok (.dup, 1) := by decide +kernel
theorem dX4_init_20 : decode cX4_init 20 = .ok (.invokespecial 18, 3) := by decide +kernel
theorem dX4_init_23 : decode cX4_init 23 = .ok (.putfield 19, 3) := by decide +kernel
theorem dX4_init_26 : decode cX4_init 26 = .ok (.aload_n 0, 1) := by decide +kernel
theorem dX4_init_27 : decode cX4_init 27 = .ok (.new 23, 3) := by decide +kernel
theorem dX4_init_30 : decode cX4_init 30 = .ok (.dup, 1) := by decide +kernel
theorem dX4_init_31 : decode cX4_init 31 = .ok (.invokespecial 25, 3) := by decide +kernel
theorem dX4_init_34 : decode cX4_init 34 = .ok (.putfield 26, 3) := by decide +kernel
theorem dX4_init_37 : decode cX4_init 37 = .ok (.aload_n 0, 1) := by decide +kernel
theorem dX4_init_38 : decode cX4_init 38 = .ok (.new 30, 3) := by decide +kernel
theorem dX4_init_41 : decode cX4_init 41 = .ok (.dup, 1) := by decide +kernel
theorem dX4_init_42 : decode cX4_init 42 = .ok (.invokespecial 32, 3) := by decide +kernel
theorem dX4_init_45 : decode cX4_init 45 = .ok (.putfield 33, 3) := by decide +kernel
theorem dX4_init_48 : decode cX4_init 48 = .ok (.aload_n 0, 1) := by decide +kernel
theorem dX4_init_49 : decode cX4_init 49 = .ok (.iconst 0, 1) := by decide +kernel
theorem dX4_init_50 : decode cX4_init 50 = .ok (.putfield 37, 3) := by decide +kernel
theorem dX4_init_53 : decode cX4_init 53 = .ok (.return_, 1) := by decide +kernel
set_option maxRecDepth 20000 in
theorem ggX4_make_Jx4a65c_size_8abf5 : GoodIn wsX4_make wsJx4a65c_size_8abf5 := goodIn_r _ [14, 15, 196, 197, 198] (by decide +kernel) (by decide +kernel)
set_option maxRecDepth 20000 in
theorem gX4_make_Jx4a65c_size_8abf5 : GoodIn wsX4_make (wsV RX4 50 RJx4a65c yJx4a65c_size_8abf5 wsJx4a65c_size_8abf5) := goodIn_app (goodIn_of _ (by decide +kernel)) ggX4_make_Jx4a65c_size_8abf5
set_option maxRecDepth 20000 in
theorem ggX4_make_X1_countFree : GoodIn wsX4_make wsX1_countFree := goodIn_r _ [20, 21, 199, 200] (by decide +kernel) (by decide +kernel)
set_option maxRecDepth 20000 in
theorem gX4_make_X1_countFree : GoodIn wsX4_make (wsV RX4 59 RX1 yX1_countFree wsX1_countFree) := goodIn_app (goodIn_of _ (by decide +kernel)) ggX4_make_X1_countFree
set_option maxRecDepth 20000 in
theorem ggX4_make_X2_init : GoodIn wsX4_make wsX2_init := goodIn_r _ [24, 25, 26, 27, 28, 29, 30, 31, 32, 33, 34, 35, 36, 37, 38, 39, 40, 41, 42, 201, 202, 190, 191, 192, 193, 194, 195] (by decide +kernel) (by decide +kernel)
set_option maxRecDepth 20000 in
theorem gX4_make_X2_init : GoodIn wsX4_make (wsX2_init) := ggX4_make_X2_init
set_option maxRecDepth 20000 in
theorem ggX4_make_Jx4a65c_add_9ea2d : GoodIn wsX4_make wsJx4a65c_add_9ea2d := goodIn_r _ [46, 47, 48, 49, 15, 50, 51, 52, 13, 53, 54, 55, 56, 57, 58, 59, 60, 61, 62, 63, 64, 65, 66, 67, 68, 69, 70, 71, 72, 73, 74, 75, 76, 77, 78, 79, 80, 81, 82, 83, 84, 85, 86, 87, 88, 89, 90, 91, 92, 93, 94, 95, 96, 196, 197, 198] (by decide +kernel) (by decide +kernel)
set_option maxRecDepth 20000 in
theorem gX4_make_Jx4a65c_add_9ea2d : GoodIn wsX4_make (wsV RX4 69 RJx4a65c yJx4a65c_add_9ea2d wsJx4a65c_add_9ea2d) := goodIn_app (goodIn_of _ (by decide +kernel)) ggX4_make_Jx4a65c_add_9ea2d
set_option maxRecDepth 20000 in
theorem ggX4_make_X4_takeClusters : GoodIn wsX4_make wsX4_takeClusters := goodIn_r _ [101, 6, 102, 103, 104, 19, 105, 21, 106, 107, 108, 30, 109, 42, 41, 185, 186, 187, 188, 189, 199, 200, 201, 202] (by decide +kernel) (by decide +kernel)
set_option maxRecDepth 20000 in
theorem gX4_make_X4_takeClusters : GoodIn wsX4_make (wsV RX4 76 RX4 yX4_takeClusters wsX4_takeClusters) := goodIn_app (goodIn_of _ (by decide +kernel)) ggX4_make_X4_takeClusters
set_option maxRecDepth 20000 in
theorem ggX4_make_X4_writeByRule : GoodIn wsX4_make wsX4_writeByRule := goodIn_r _ [113, 6, 114, 115, 100, 116, 117, 118, 119, 9, 120, 36, 121, 122, 123, 19, 124, 125, 126, 127, 128, 30, 129, 42, 41, 185, 186, 187, 188, 189, 190, 191, 192, 193, 194, 195, 201, 202, 199, 200] (by decide +kernel) (by decide +kernel)
set_option maxRecDepth 20000 in
theorem gX4_make_X4_writeByRule : GoodIn wsX4_make (wsV RX4 80 RX4 yX4_writeByRule wsX4_writeByRule) := goodIn_app (goodIn_of _ (by decide +kernel)) ggX4_make_X4_writeByRule
set_option maxRecDepth 20000 in
theorem ggX4_make_X1_writeAlong : GoodIn wsX4_make wsX1_writeAlong := goodIn_r _ [124, 125, 126, 127, 128, 30, 129, 42, 41, 199, 200, 201, 202] (by decide +kernel) (by decide +kernel)
set_option maxRecDepth 20000 in
theorem gX4_make_X1_writeAlong : GoodIn wsX4_make (wsV RX4 84 RX1 yX1_writeAlong wsX1_writeAlong) := goodIn_app (goodIn_of _ (by decide +kernel)) ggX4_make_X1_writeAlong
set_option maxRecDepth 20000 in
theorem ggX4_make_X4_lastPlace : GoodIn wsX4_make wsX4_lastPlace := goodIn_r _ [116, 190, 191, 192, 193, 194, 195, 201, 202] (by decide +kernel) (by decide +kernel)
set_option maxRecDepth 20000 in
theorem gX4_make_X4_lastPlace : GoodIn wsX4_make (va_wsS RX4 87 yX4_lastPlace wsX4_lastPlace) := goodIn_app (goodIn_of _ (by decide +kernel)) ggX4_make_X4_lastPlace
set_option maxRecDepth 20000 in
theorem ggX4_make_X4_readClaims : GoodIn wsX4_make wsX4_readClaims := goodIn_r _ [133, 5, 134, 10, 11, 12, 13, 14, 15, 135, 136, 137, 138, 139, 140, 141, 142, 143, 144, 145, 146, 147, 148, 149, 150, 49, 151, 152, 153, 9, 154, 33, 155, 156, 157, 100, 158, 6, 159, 127, 128, 30, 129, 42, 41, 160, 161, 162, 163, 164, 165, 166, 19, 167, 21, 106, 107, 108, 109, 168, 169, 170, 171, 172, 173, 174, 175, 176, 177, 178, 179, 126, 180, 181, 182, 183, 125, 184, 185, 186, 187, 188, 189, 196, 197, 198, 190, 191, 192, 193, 194, 195, 201, 202, 199, 200] (by decide +kernel) (by decide +kernel)
set_option maxRecDepth 20000 in
theorem gX4_make_X4_readClaims : GoodIn wsX4_make (wsV RX4 91 RX4 yX4_readClaims wsX4_readClaims) := goodIn_app (goodIn_of _ (by decide +kernel)) ggX4_make_X4_readClaims
theorem dX4_make_0 : decode cX4_make 0 = .ok (.iload_n 1, 1) := by decide +kernel
theorem dX4_make_1 : decode cX4_make 1 = .ok (.iconst 1, 1) := by decide +kernel
theorem dX4_make_2 : decode cX4_make 2 = .ok (.if_icmp .lt 9, 3) := by decide +kernel
theorem dX4_make_5 : decode cX4_make 5 = .ok (.iload_n 1, 1) := by decide +kernel
theorem dX4_make_6 : decode cX4_make 6 = .ok (.bipush 8, 2) := by decide +kernel
theorem dX4_make_8 : decode cX4_make 8 = .ok (.if_icmp .le 13, 3) := by decide +kernel
theorem dX4_make_11 : decode cX4_make 11 = .ok (.new 41, 3) := by decide +kernel
theorem dX4_make_14 : decode cX4_make 14 = .ok (.dup, 1) := by decide +kernel
theorem dX4_make_15 : decode cX4_make 15 = .ok (.ldc 43, 2) := by decide +kernel
theorem dX4_make_17 : decode cX4_make 17 = .ok (.invokespecial 45, 3) := by decide +kernel
theorem dX4_make_20 : decode cX4_make 20 = .ok (.athrow, 1) := by decide +kernel
theorem dX4_make_21 : decode cX4_make 21 = .ok (.iload_n 2, 1) := by decide +kernel
theorem dX4_make_22 : decode cX4_make 22 = .ok (.ifCond .lt 10, 3) := by decide +kernel
theorem dX4_make_25 : decode cX4_make 25 = .ok (.iload_n 2, 1) := by decide +kernel
theorem dX4_make_26 : decode cX4_make 26 = .ok (.sipush 10000, 3) := by decide +kernel
theorem dX4_make_29 : decode cX4_make 29 = .ok (.if_icmp .le 13, 3) := by decide +kernel
theorem dX4_make_32 : decode cX4_make 32 = .ok (.new 41, 3) := by decide +kernel
theorem dX4_make_35 : decode cX4_make 35 = .ok (.dup, 1) := by decide +kernel
theorem dX4_make_36 : decode cX4_make 36 = .ok (.ldc 48, 2) := by decide +kernel
theorem dX4_make_38 : decode cX4_make 38 = .ok (.invokespecial 45, 3) := by decide +kernel
theorem dX4_make_41 : decode cX4_make 41 = .ok (.athrow, 1) := by decide +kernel
theorem dX4_make_42 : decode cX4_make 42 = .ok (.aload_n 0, 1) := by decide +kernel
theorem dX4_make_43 : decode cX4_make 43 = .ok (.getfield 19, 3) := by decide +kernel
theorem dX4_make_46 : decode cX4_make 46 = .ok (.invokevirtual 50, 3) := by decide +kernel
theorem dX4_make_49 : decode cX4_make 49 = .ok (.bipush 30, 2) := by decide +kernel
theorem dX4_make_51 : decode cX4_make 51 = .ok (.if_icmp .lt 13, 3) := by decide +kernel
theorem dX4_make_54 : decode cX4_make 54 = .ok (.new 54, 3) := by decide +kernel
theorem dX4_make_57 : decode cX4_make 57 = .ok (.dup, 1) := by decide +kernel
theorem dX4_make_58 : decode cX4_make 58 = .ok (.ldc 56, 2) := by decide +kernel
theorem dX4_make_60 : decode cX4_make 60 = .ok (.invokespecial 58, 3) := by decide +kernel
theorem dX4_make_63 : decode cX4_make 63 = .ok (.athrow, 1) := by decide +kernel
theorem dX4_make_64 : decode cX4_make 64 = .ok (.aload_n 0, 1) := by decide +kernel
theorem dX4_make_65 : decode cX4_make 65 = .ok (.getfield 10, 3) := by decide +kernel
theorem dX4_make_68 : decode cX4_make 68 = .ok (.invokevirtual 59, 3) := by decide +kernel
theorem dX4_make_71 : decode cX4_make 71 = .ok (.iload_n 1, 1) := by decide +kernel
theorem dX4_make_72 : decode cX4_make 72 = .ok (.if_icmp .ge 13, 3) := by decide +kernel
theorem dX4_make_75 : decode cX4_make 75 = .ok (.new 54, 3) := by decide +kernel
theorem dX4_make_78 : decode cX4_make 78 = .ok (.dup, 1) := by decide +kernel
theorem dX4_make_79 : decode cX4_make 79 = .ok (.ldc 62, 2) := by decide +kernel
theorem dX4_make_81 : decode cX4_make 81 = .ok (.invokespecial 58, 3) := by decide +kernel
theorem dX4_make_84 : decode cX4_make 84 = .ok (.athrow, 1) := by decide +kernel
theorem dX4_make_85 : decode cX4_make 85 = .ok (.aload_n 0, 1) := by decide +kernel
theorem dX4_make_86 : decode cX4_make 86 = .ok (.getfield 19, 3) := by decide +kernel
theorem dX4_make_89 : decode cX4_make 89 = .ok (.invokevirtual 50, 3) := by decide +kernel
theorem dX4_make_92 : decode cX4_make 92 = .ok (.istore_n 3, 1) := by decide +kernel
theorem dX4_make_93 : decode cX4_make 93 = .ok (.new 64, 3) := by decide +kernel
theorem dX4_make_96 : decode cX4_make 96 = .ok (.dup, 1) := by decide +kernel
theorem dX4_make_97 : decode cX4_make 97 = .ok (.iload_n 2, 1) := by decide +kernel
theorem dX4_make_98 : decode cX4_make 98 = .ok (.invokespecial 66, 3) := by decide +kernel
theorem dX4_make_101 : decode cX4_make 101 = .ok (.astore 4, 2) := by decide +kernel
theorem dX4_make_103 : decode cX4_make 103 = .ok (.aload_n 0, 1) := by decide +kernel
theorem dX4_make_104 : decode cX4_make 104 = .ok (.getfield 19, 3) := by decide +kernel
theorem dX4_make_107 : decode cX4_make 107 = .ok (.aload 4, 2) := by decide +kernel
theorem dX4_make_109 : decode cX4_make 109 = .ok (.invokevirtual 69, 3) := by decide +kernel
theorem dX4_make_112 : decode cX4_make 112 = .ok (.pop, 1) := by decide +kernel
theorem dX4_make_113 : decode cX4_make 113 = .ok (.aload_n 0, 1) := by decide +kernel
theorem dX4_make_114 : decode cX4_make 114 = .ok (.aload 4, 2) := by decide +kernel
theorem dX4_make_116 : decode cX4_make 116 = .ok (.getfield 73, 3) := by decide +kernel
theorem dX4_make_119 : decode cX4_make 119 = .ok (.iload_n 1, 1) := by decide +kernel
theorem dX4_make_120 : decode cX4_make 120 = .ok (.iload_n 3, 1) := by decide +kernel
theorem dX4_make_121 : decode cX4_make 121 = .ok (.invokevirtual 76, 3) := by decide +kernel
theorem dX4_make_124 : decode cX4_make 124 = .ok (.aload_n 0, 1) := by decide +kernel
theorem dX4_make_125 : decode cX4_make 125 = .ok (.aload 4, 2) := by decide +kernel
theorem dX4_make_127 : decode cX4_make 127 = .ok (.iconst 0, 1) := by decide +kernel
theorem dX4_make_128 : decode cX4_make 128 = .ok (.invokevirtual 80, 3) := by decide +kernel
theorem dX4_make_131 : decode cX4_make 131 = .ok (.aload_n 0, 1) := by decide +kernel
theorem dX4_make_132 : decode cX4_make 132 = .ok (.getfield 10, 3) := by decide +kernel
theorem dX4_make_135 : decode cX4_make 135 = .ok (.aload 4, 2) := by decide +kernel
theorem dX4_make_137 : decode cX4_make 137 = .ok (.getfield 73, 3) := by decide +kernel
theorem dX4_make_140 : decode cX4_make 140 = .ok (.iconst 0, 1) := by decide +kernel
theorem dX4_make_141 : decode cX4_make 141 = .ok (.sipush 255, 3) := by decide +kernel
theorem dX4_make_144 : decode cX4_make 144 = .ok (.invokevirtual 84, 3) := by decide +kernel
theorem dX4_make_147 : decode cX4_make 147 = .ok (.aload_n 0, 1) := by decide +kernel
theorem dX4_make_148 : decode cX4_make 148 = .ok (.getfield 10, 3) := by decide +kernel
theorem dX4_make_151 : decode cX4_make 151 = .ok (.aload 4, 2) := by decide +kernel
theorem dX4_make_153 : decode cX4_make 153 = .ok (.getfield 73, 3) := by decide +kernel
theorem dX4_make_156 : decode cX4_make 156 = .ok (.aload 4, 2) := by decide +kernel
theorem dX4_make_158 : decode cX4_make 158 = .ok (.invokestatic 87, 3) := by decide +kernel
theorem dX4_make_161 : decode cX4_make 161 = .ok (.sipush 254, 3) := by decide +kernel
theorem dX4_make_164 : decode cX4_make 164 = .ok (.invokevirtual 84, 3) := by decide +kernel
theorem dX4_make_167 : decode cX4_make 167 = .ok (.aload_n 0, 1) := by decide +kernel
theorem dX4_make_168 : decode cX4_make 168 = .ok (.invokevirtual 91, 3) := by decide +kernel
theorem dX4_make_171 : decode cX4_make 171 = .ok (.iload_n 3, 1) := by decide +kernel
theorem dX4_make_172 : decode cX4_make 172 = .ok (.ireturn, 1) := by decide +kernel
set_option maxRecDepth 20000 in
theorem ggX4_grow_X4_livingFile : GoodIn wsX4_grow wsX4_livingFile := goodIn_ca (goodIn_ca (goodIn_r _ [8, 1, 2, 9, 10, 11, 7, 12, 13, 14, 15, 16, 17, 18, 19, 20, 21, 22, 23, 24, 25, 26, 27, 28, 29, 30, 31, 32, 33, 34, 35, 36, 37, 38, 39, 40, 41, 42, 43, 44, 45, 130, 131, 132, 133, 134, 135, 136, 137, 122, 123, 124, 125, 126, 127] (by decide +kernel) (by decide +kernel)) (goodIn_sub (fun _ h => List.mem_cons_of_mem _ (List.mem_append_left _ (List.mem_append_right _ h))) (by decide +kernel))) (goodIn_sub (fun _ h => List.mem_cons_of_mem _ (List.mem_append_right _ h)) (by decide +kernel))
set_option maxRecDepth 20000 in
theorem gX4_grow_X4_livingFile : GoodIn wsX4_grow (wsV RX4 94 RX4 yX4_livingFile wsX4_livingFile) := goodIn_app (goodIn_of _ (by decide +kernel)) ggX4_grow_X4_livingFile
set_option maxRecDepth 20000 in
theorem ggX4_grow_X1_countFree : GoodIn wsX4_grow wsX1_countFree := goodIn_r _ [50, 51, 138, 139] (by decide +kernel) (by decide +kernel)
set_option maxRecDepth 20000 in
theorem gX4_grow_X1_countFree : GoodIn wsX4_grow (wsV RX4 59 RX1 yX1_countFree wsX1_countFree) := goodIn_app (goodIn_of _ (by decide +kernel)) ggX4_grow_X1_countFree
set_option maxRecDepth 20000 in
theorem ggX4_grow_X4_lastPlace : GoodIn wsX4_grow wsX4_lastPlace := goodIn_r _ [54, 122, 123, 124, 125, 126, 127, 128, 129] (by decide +kernel) (by decide +kernel)
set_option maxRecDepth 20000 in
theorem gX4_grow_X4_lastPlace : GoodIn wsX4_grow (va_wsS RX4 87 yX4_lastPlace wsX4_lastPlace) := goodIn_app (goodIn_of _ (by decide +kernel)) ggX4_grow_X4_lastPlace
set_option maxRecDepth 20000 in
theorem ggX4_grow_X4_takeClusters : GoodIn wsX4_grow wsX4_takeClusters := goodIn_r _ [58, 3, 59, 60, 61, 49, 62, 51, 63, 64, 65, 66, 67, 68, 69, 130, 131, 132, 133, 134, 138, 139, 128, 129] (by decide +kernel) (by decide +kernel)
set_option maxRecDepth 20000 in
theorem gX4_grow_X4_takeClusters : GoodIn wsX4_grow (wsV RX4 76 RX4 yX4_takeClusters wsX4_takeClusters) := goodIn_app (goodIn_of _ (by decide +kernel)) ggX4_grow_X4_takeClusters
set_option maxRecDepth 20000 in
theorem ggX4_grow_X4_writeByRule : GoodIn wsX4_grow wsX4_writeByRule := goodIn_r _ [73, 3, 52, 53, 7, 54, 74, 75, 76, 43, 77, 78, 79, 80, 81, 49, 82, 83, 84, 85, 86, 66, 87, 68, 69, 130, 131, 132, 133, 134, 122, 123, 124, 125, 126, 127, 128, 129, 138, 139] (by decide +kernel) (by decide +kernel)
set_option maxRecDepth 20000 in
theorem gX4_grow_X4_writeByRule : GoodIn wsX4_grow (wsV RX4 80 RX4 yX4_writeByRule wsX4_writeByRule) := goodIn_app (goodIn_of _ (by decide +kernel)) ggX4_grow_X4_writeByRule
set_option maxRecDepth 20000 in
theorem ggX4_grow_X1_writeAlong : GoodIn wsX4_grow wsX1_writeAlong := goodIn_r _ [82, 83, 84, 85, 86, 66, 87, 68, 69, 138, 139, 128, 129] (by decide +kernel) (by decide +kernel)
set_option maxRecDepth 20000 in
theorem gX4_grow_X1_writeAlong : GoodIn wsX4_grow (wsV RX4 84 RX1 yX1_writeAlong wsX1_writeAlong) := goodIn_app (goodIn_of _ (by decide +kernel)) ggX4_grow_X1_writeAlong
set_option maxRecDepth 20000 in
theorem ggX4_grow_X4_readClaims : GoodIn wsX4_grow wsX4_readClaims := goodIn_r _ [91, 15, 16, 17, 18, 19, 20, 21, 22, 23, 24, 25, 26, 27, 28, 29, 30, 31, 32, 33, 34, 35, 36, 37, 38, 39, 40, 41, 42, 43, 44, 45, 92, 93, 94, 7, 95, 3, 96, 85, 86, 66, 87, 68, 69, 97, 98, 99, 100, 101, 102, 103, 49, 104, 51, 63, 64, 65, 67, 105, 106, 107, 108, 109, 110, 111, 112, 113, 114, 115, 116, 84, 117, 118, 119, 120, 83, 121, 130, 131, 132, 133, 134, 135, 136, 137, 122, 123, 124, 125, 126, 127, 128, 129, 138, 139] (by decide +kernel) (by decide +kernel)
set_option maxRecDepth 20000 in
theorem gX4_grow_X4_readClaims : GoodIn wsX4_grow (wsV RX4 91 RX4 yX4_readClaims wsX4_readClaims) := goodIn_app (goodIn_of _ (by decide +kernel)) ggX4_grow_X4_readClaims
set_option maxRecDepth 20000 in
theorem ggX4_grow_X0_at : GoodIn wsX4_grow wsX0_at := goodIn_r _ [87, 68, 69, 128, 129] (by decide +kernel) (by decide +kernel)
set_option maxRecDepth 20000 in
theorem gX4_grow_X0_at : GoodIn wsX4_grow (wsV RX4 104 RX0 yX0_at wsX0_at) := goodIn_app (goodIn_of _ (by decide +kernel)) ggX4_grow_X0_at
theorem dX4_grow_0 : decode cX4_grow 0 = .ok (.aload_n 0, 1) := by decide +kernel
theorem dX4_grow_1 : decode cX4_grow 1 = .ok (.iload_n 1, 1) := by decide +kernel
theorem dX4_grow_2 : decode cX4_grow 2 = .ok (.invokevirtual 94, 3) := by decide +kernel
theorem dX4_grow_5 : decode cX4_grow 5 = .ok (.astore_n 2, 1) := by decide +kernel
theorem dX4_grow_6 : decode cX4_grow 6 = .ok (.aload_n 2, 1) := by decide +kernel
theorem dX4_grow_7 : decode cX4_grow 7 = .ok (.getfield 73, 3) := by decide +kernel
theorem dX4_grow_10 : decode cX4_grow 10 = .ok (.getfield 98, 3) := by decide +kernel
theorem dX4_grow_13 : decode cX4_grow 13 = .ok (.bipush 8, 2) := by decide +kernel
theorem dX4_grow_15 : decode cX4_grow 15 = .ok (.if_icmp .lt 13, 3) := by decide +kernel
theorem dX4_grow_18 : decode cX4_grow 18 = .ok (.new 54, 3) := by decide +kernel
theorem dX4_grow_21 : decode cX4_grow 21 = .ok (.dup, 1) := by decide +kernel
theorem dX4_grow_22 : decode cX4_grow 22 = .ok (.ldc 100, 2) := by decide +kernel
theorem dX4_grow_24 : decode cX4_grow 24 = .ok (.invokespecial 58, 3) := by decide +kernel
theorem dX4_grow_27 : decode cX4_grow 27 = .ok (.athrow, 1) := by decide +kernel
theorem dX4_grow_28 : decode cX4_grow 28 = .ok (.aload_n 0, 1) := by decide +kernel
theorem dX4_grow_29 : decode cX4_grow 29 = .ok (.getfield 10, 3) := by decide +kernel
theorem dX4_grow_32 : decode cX4_grow 32 = .ok (.invokevirtual 59, 3) := by decide +kernel
theorem dX4_grow_35 : decode cX4_grow 35 = .ok (.iconst 1, 1) := by decide +kernel
theorem dX4_grow_36 : decode cX4_grow 36 = .ok (.if_icmp .ge 13, 3) := by decide +kernel
theorem dX4_grow_39 : decode cX4_grow 39 = .ok (.new 54, 3) := by decide +kernel
theorem dX4_grow_42 : decode cX4_grow 42 = .ok (.dup, 1) := by decide +kernel
theorem dX4_grow_43 : decode cX4_grow 43 = .ok (.ldc 102, 2) := by decide +kernel
theorem dX4_grow_45 : decode cX4_grow 45 = .ok (.invokespecial 58, 3) := by decide +kernel
theorem dX4_grow_48 : decode cX4_grow 48 = .ok (.athrow, 1) := by decide +kernel
theorem dX4_grow_49 : decode cX4_grow 49 = .ok (.aload_n 2, 1) := by decide +kernel
theorem dX4_grow_50 : decode cX4_grow 50 = .ok (.invokestatic 87, 3) := by decide +kernel
theorem dX4_grow_53 : decode cX4_grow 53 = .ok (.istore_n 3, 1) := by decide +kernel
theorem dX4_grow_54 : decode cX4_grow 54 = .ok (.aload_n 0, 1) := by decide +kernel
theorem dX4_grow_55 : decode cX4_grow 55 = .ok (.aload_n 2, 1) := by decide +kernel
theorem dX4_grow_56 : decode cX4_grow 56 = .ok (.getfield 73, 3) := by decide +kernel
theorem dX4_grow_59 : decode cX4_grow 59 = .ok (.iconst 1, 1) := by decide +kernel
theorem dX4_grow_60 : decode cX4_grow 60 = .ok (.iload_n 1, 1) := by decide +kernel
theorem dX4_grow_61 : decode cX4_grow 61 = .ok (.invokevirtual 76, 3) := by decide +kernel
theorem dX4_grow_64 : decode cX4_grow 64 = .ok (.aload_n 0, 1) := by decide +kernel
theorem dX4_grow_65 : decode cX4_grow 65 = .ok (.aload_n 2, 1) := by decide +kernel
theorem dX4_grow_66 : decode cX4_grow 66 = .ok (.iload_n 3, 1) := by decide +kernel
theorem dX4_grow_67 : decode cX4_grow 67 = .ok (.invokevirtual 80, 3) := by decide +kernel
theorem dX4_grow_70 : decode cX4_grow 70 = .ok (.aload_n 0, 1) := by decide +kernel
theorem dX4_grow_71 : decode cX4_grow 71 = .ok (.getfield 10, 3) := by decide +kernel
theorem dX4_grow_74 : decode cX4_grow 74 = .ok (.aload_n 2, 1) := by decide +kernel
theorem dX4_grow_75 : decode cX4_grow 75 = .ok (.getfield 73, 3) := by decide +kernel
theorem dX4_grow_78 : decode cX4_grow 78 = .ok (.aload_n 2, 1) := by decide +kernel
theorem dX4_grow_79 : decode cX4_grow 79 = .ok (.invokestatic 87, 3) := by decide +kernel
theorem dX4_grow_82 : decode cX4_grow 82 = .ok (.sipush 254, 3) := by decide +kernel
theorem dX4_grow_85 : decode cX4_grow 85 = .ok (.invokevirtual 84, 3) := by decide +kernel
theorem dX4_grow_88 : decode cX4_grow 88 = .ok (.aload_n 0, 1) := by decide +kernel
theorem dX4_grow_89 : decode cX4_grow 89 = .ok (.invokevirtual 91, 3) := by decide +kernel
theorem dX4_grow_92 : decode cX4_grow 92 = .ok (.aload_n 2, 1) := by decide +kernel
theorem dX4_grow_93 : decode cX4_grow 93 = .ok (.getfield 73, 3) := by decide +kernel
theorem dX4_grow_96 : decode cX4_grow 96 = .ok (.aload_n 2, 1) := by decide +kernel
theorem dX4_grow_97 : decode cX4_grow 97 = .ok (.getfield 73, 3) := by decide +kernel
theorem dX4_grow_100 : decode cX4_grow 100 = .ok (.getfield 98, 3) := by decide +kernel
theorem dX4_grow_103 : decode cX4_grow 103 = .ok (.iconst 1, 1) := by decide +kernel
theorem dX4_grow_104 : decode cX4_grow 104 = .ok (.isub, 1) := by decide +kernel
theorem dX4_grow_105 : decode cX4_grow 105 = .ok (.invokevirtual 104, 3) := by decide +kernel
theorem dX4_grow_108 : decode cX4_grow 108 = .ok (.ireturn, 1) := by decide +kernel
set_option maxRecDepth 20000 in
theorem ggX4_move_X4_livingFile : GoodIn wsX4_move wsX4_livingFile := goodIn_ca (goodIn_ca (goodIn_r _ [9, 1, 2, 10, 11, 12, 8, 13, 14, 15, 16, 17, 18, 19, 20, 21, 22, 23, 24, 25, 26, 27, 28, 29, 30, 31, 32, 33, 34, 35, 36, 37, 38, 39, 40, 41, 42, 43, 44, 45, 46, 121, 122, 123, 124, 125, 128, 129, 130, 115, 116, 117, 118, 119, 120] (by decide +kernel) (by decide +kernel)) (goodIn_sub (fun _ h => List.mem_cons_of_mem _ (List.mem_append_left _ (List.mem_append_right _ h))) (by decide +kernel))) (goodIn_sub (fun _ h => List.mem_cons_of_mem _ (List.mem_append_right _ h)) (by decide +kernel))
set_option maxRecDepth 20000 in
theorem gX4_move_X4_livingFile : GoodIn wsX4_move (wsV RX4 94 RX4 yX4_livingFile wsX4_livingFile) := goodIn_app (goodIn_of _ (by decide +kernel)) ggX4_move_X4_livingFile
set_option maxRecDepth 20000 in
theorem ggX4_move_X1_countFree : GoodIn wsX4_move wsX1_countFree := goodIn_r _ [51, 52, 131, 132] (by decide +kernel) (by decide +kernel)
set_option maxRecDepth 20000 in
theorem gX4_move_X1_countFree : GoodIn wsX4_move (wsV RX4 59 RX1 yX1_countFree wsX1_countFree) := goodIn_app (goodIn_of _ (by decide +kernel)) ggX4_move_X1_countFree
set_option maxRecDepth 20000 in
theorem ggX4_move_X0_clear : GoodIn wsX4_move wsX0_clear := goodIn_r _ [57, 58, 126, 127] (by decide +kernel) (by decide +kernel)
set_option maxRecDepth 20000 in
theorem gX4_move_X0_clear : GoodIn wsX4_move (wsV RX4 110 RX0 yX0_clear wsX0_clear) := goodIn_app (goodIn_of _ (by decide +kernel)) ggX4_move_X0_clear
set_option maxRecDepth 20000 in
theorem ggX4_move_X4_takeClusters : GoodIn wsX4_move wsX4_takeClusters := goodIn_r _ [62, 3, 63, 64, 65, 50, 66, 52, 67, 68, 69, 56, 70, 58, 71, 121, 122, 123, 124, 125, 131, 132, 126, 127] (by decide +kernel) (by decide +kernel)
set_option maxRecDepth 20000 in
theorem gX4_move_X4_takeClusters : GoodIn wsX4_move (wsV RX4 76 RX4 yX4_takeClusters wsX4_takeClusters) := goodIn_app (goodIn_of _ (by decide +kernel)) ggX4_move_X4_takeClusters
set_option maxRecDepth 20000 in
theorem ggX4_move_X1_readAlong : GoodIn wsX4_move wsX1_readAlong := goodIn_r _ [75, 76, 77, 78, 56, 79, 58, 71, 80, 81, 82, 50, 83, 84, 126, 127, 131, 132] (by decide +kernel) (by decide +kernel)
set_option maxRecDepth 20000 in
theorem gX4_move_X1_readAlong : GoodIn wsX4_move (wsV RX4 113 RX1 yX1_readAlong wsX1_readAlong) := goodIn_app (goodIn_of _ (by decide +kernel)) ggX4_move_X1_readAlong
set_option maxRecDepth 20000 in
theorem ggX4_move_X1_writeAlong : GoodIn wsX4_move wsX1_writeAlong := goodIn_r _ [88, 84, 76, 77, 78, 56, 79, 58, 71, 131, 132, 126, 127] (by decide +kernel) (by decide +kernel)
set_option maxRecDepth 20000 in
theorem gX4_move_X1_writeAlong : GoodIn wsX4_move (wsV RX4 84 RX1 yX1_writeAlong wsX1_writeAlong) := goodIn_app (goodIn_of _ (by decide +kernel)) ggX4_move_X1_writeAlong
set_option maxRecDepth 20000 in
theorem ggX4_move_X1_release : GoodIn wsX4_move wsX1_release := goodIn_r _ [92, 52, 76, 77, 78, 56, 79, 58, 71, 126, 127, 131, 132] (by decide +kernel) (by decide +kernel)
set_option maxRecDepth 20000 in
theorem gX4_move_X1_release : GoodIn wsX4_move (wsV RX4 117 RX1 yX1_release wsX1_release) := goodIn_app (goodIn_of _ (by decide +kernel)) ggX4_move_X1_release
set_option maxRecDepth 20000 in
theorem ggX4_move_X4_readClaims : GoodIn wsX4_move wsX4_readClaims := goodIn_r _ [96, 16, 17, 18, 19, 20, 21, 22, 23, 24, 25, 26, 27, 28, 29, 30, 31, 32, 33, 34, 35, 36, 37, 38, 39, 40, 41, 42, 43, 44, 45, 46, 97, 98, 99, 8, 100, 3, 101, 77, 78, 56, 79, 58, 71, 53, 54, 55, 57, 102, 103, 104, 50, 105, 52, 67, 68, 69, 70, 106, 107, 108, 109, 110, 111, 112, 113, 114, 73, 74, 75, 76, 80, 81, 82, 83, 84, 72, 121, 122, 123, 124, 125, 128, 129, 130, 115, 116, 117, 118, 119, 120, 126, 127, 131, 132] (by decide +kernel) (by decide +kernel)
set_option maxRecDepth 20000 in
theorem gX4_move_X4_readClaims : GoodIn wsX4_move (wsV RX4 91 RX4 yX4_readClaims wsX4_readClaims) := goodIn_app (goodIn_of _ (by decide +kernel)) ggX4_move_X4_readClaims
set_option maxRecDepth 20000 in
theorem ggX4_move_X0_at : GoodIn wsX4_move wsX0_at := goodIn_r _ [79, 58, 71, 126, 127] (by decide +kernel) (by decide +kernel)
set_option maxRecDepth 20000 in
theorem gX4_move_X0_at : GoodIn wsX4_move (wsV RX4 104 RX0 yX0_at wsX0_at) := goodIn_app (goodIn_of _ (by decide +kernel)) ggX4_move_X0_at
theorem dX4_move_0 : decode cX4_move 0 = .ok (.aload_n 0, 1) := by decide +kernel
theorem dX4_move_1 : decode cX4_move 1 = .ok (.iload_n 1, 1) := by decide +kernel
theorem dX4_move_2 : decode cX4_move 2 = .ok (.invokevirtual 94, 3) := by decide +kernel
theorem dX4_move_5 : decode cX4_move 5 = .ok (.astore_n 2, 1) := by decide +kernel
theorem dX4_move_6 : decode cX4_move 6 = .ok (.aload_n 2, 1) := by decide +kernel
theorem dX4_move_7 : decode cX4_move 7 = .ok (.getfield 73, 3) := by decide +kernel
theorem dX4_move_10 : decode cX4_move 10 = .ok (.astore_n 3, 1) := by decide +kernel
theorem dX4_move_11 : decode cX4_move 11 = .ok (.aload_n 0, 1) := by decide +kernel
theorem dX4_move_12 : decode cX4_move 12 = .ok (.getfield 10, 3) := by decide +kernel
theorem dX4_move_15 : decode cX4_move 15 = .ok (.invokevirtual 59, 3) := by decide +kernel
theorem dX4_move_18 : decode cX4_move 18 = .ok (.aload_n 3, 1) := by decide +kernel
theorem dX4_move_19 : decode cX4_move 19 = .ok (.getfield 98, 3) := by decide +kernel
theorem dX4_move_22 : decode cX4_move 22 = .ok (.if_icmp .ge 13, 3) := by decide +kernel
theorem dX4_move_25 : decode cX4_move 25 = .ok (.new 54, 3) := by decide +kernel
theorem dX4_move_28 : decode cX4_move 28 = .ok (.dup, 1) := by decide +kernel
theorem dX4_move_29 : decode cX4_move 29 = .ok (.ldc 108, 2) := by decide +kernel
theorem dX4_move_31 : decode cX4_move 31 = .ok (.invokespecial 58, 3) := by decide +kernel
theorem dX4_move_34 : decode cX4_move 34 = .ok (.athrow, 1) := by decide +kernel
theorem dX4_move_35 : decode cX4_move 35 = .ok (.aload_n 0, 1) := by decide +kernel
theorem dX4_move_36 : decode cX4_move 36 = .ok (.getfield 33, 3) := by decide +kernel
theorem dX4_move_39 : decode cX4_move 39 = .ok (.astore 4, 2) := by decide +kernel
theorem dX4_move_41 : decode cX4_move 41 = .ok (.aload 4, 2) := by decide +kernel
theorem dX4_move_43 : decode cX4_move 43 = .ok (.invokevirtual 110, 3) := by decide +kernel
theorem dX4_move_46 : decode cX4_move 46 = .ok (.aload_n 0, 1) := by decide +kernel
theorem dX4_move_47 : decode cX4_move 47 = .ok (.aload 4, 2) := by decide +kernel
theorem dX4_move_49 : decode cX4_move 49 = .ok (.aload_n 3, 1) := by decide +kernel
theorem dX4_move_50 : decode cX4_move 50 = .ok (.getfield 98, 3) := by decide +kernel
theorem dX4_move_53 : decode cX4_move 53 = .ok (.iload_n 1, 1) := by decide +kernel
theorem dX4_move_54 : decode cX4_move 54 = .ok (.invokevirtual 76, 3) := by decide +kernel
theorem dX4_move_57 : decode cX4_move 57 = .ok (.iconst 0, 1) := by decide +kernel
theorem dX4_move_58 : decode cX4_move 58 = .ok (.istore 5, 2) := by decide +kernel
theorem dX4_move_60 : decode cX4_move 60 = .ok (.iload 5, 2) := by decide +kernel
theorem dX4_move_62 : decode cX4_move 62 = .ok (.aload_n 3, 1) := by decide +kernel
theorem dX4_move_63 : decode cX4_move 63 = .ok (.getfield 98, 3) := by decide +kernel
theorem dX4_move_66 : decode cX4_move 66 = .ok (.iconst 4, 1) := by decide +kernel
theorem dX4_move_67 : decode cX4_move 67 = .ok (.imul, 1) := by decide +kernel
theorem dX4_move_68 : decode cX4_move 68 = .ok (.if_icmp .ge 30, 3) := by decide +kernel
theorem dX4_move_71 : decode cX4_move 71 = .ok (.aload_n 0, 1) := by decide +kernel
theorem dX4_move_72 : decode cX4_move 72 = .ok (.getfield 10, 3) := by decide +kernel
theorem dX4_move_75 : decode cX4_move 75 = .ok (.aload 4, 2) := by decide +kernel
theorem dX4_move_77 : decode cX4_move 77 = .ok (.iload 5, 2) := by decide +kernel
theorem dX4_move_79 : decode cX4_move 79 = .ok (.aload_n 0, 1) := by decide +kernel
theorem dX4_move_80 : decode cX4_move 80 = .ok (.getfield 10, 3) := by decide +kernel
theorem dX4_move_83 : decode cX4_move 83 = .ok (.aload_n 3, 1) := by decide +kernel
theorem dX4_move_84 : decode cX4_move 84 = .ok (.iload 5, 2) := by decide +kernel
theorem dX4_move_86 : decode cX4_move 86 = .ok (.invokevirtual 113, 3) := by decide +kernel
theorem dX4_move_89 : decode cX4_move 89 = .ok (.invokevirtual 84, 3) := by decide +kernel
theorem dX4_move_92 : decode cX4_move 92 = .ok (.iinc 5 1, 3) := by decide +kernel
theorem dX4_move_95 : decode cX4_move 95 = .ok (.goto (-35), 3) := by decide +kernel
theorem dX4_move_98 : decode cX4_move 98 = .ok (.aload_n 0, 1) := by decide +kernel
theorem dX4_move_99 : decode cX4_move 99 = .ok (.getfield 10, 3) := by decide +kernel
theorem dX4_move_102 : decode cX4_move 102 = .ok (.aload_n 3, 1) := by decide +kernel
theorem dX4_move_103 : decode cX4_move 103 = .ok (.invokevirtual 117, 3) := by decide +kernel
theorem dX4_move_106 : decode cX4_move 106 = .ok (.aload_n 2, 1) := by decide +kernel
theorem dX4_move_107 : decode cX4_move 107 = .ok (.aload 4, 2) := by decide +kernel
theorem dX4_move_109 : decode cX4_move 109 = .ok (.putfield 73, 3) := by decide +kernel
theorem dX4_move_112 : decode cX4_move 112 = .ok (.aload_n 0, 1) := by decide +kernel
theorem dX4_move_113 : decode cX4_move 113 = .ok (.aload_n 3, 1) := by decide +kernel
theorem dX4_move_114 : decode cX4_move 114 = .ok (.putfield 33, 3) := by decide +kernel
theorem dX4_move_117 : decode cX4_move 117 = .ok (.aload_n 0, 1) := by decide +kernel
theorem dX4_move_118 : decode cX4_move 118 = .ok (.invokevirtual 91, 3) := by decide +kernel
theorem dX4_move_121 : decode cX4_move 121 = .ok (.aload 4, 2) := by decide +kernel
theorem dX4_move_123 : decode cX4_move 123 = .ok (.iconst 0, 1) := by decide +kernel
theorem dX4_move_124 : decode cX4_move 124 = .ok (.invokevirtual 104, 3) := by decide +kernel
theorem dX4_move_127 : decode cX4_move 127 = .ok (.ireturn, 1) := by decide +kernel
set_option maxRecDepth 20000 in
theorem ggX4_throwAway_X4_livingFile : GoodIn wsX4_throwAway wsX4_livingFile := goodIn_ca (goodIn_ca (goodIn_r _ [7, 8, 9, 10, 11, 12, 6, 13, 14, 15, 16, 17, 18, 19, 20, 21, 22, 23, 24, 25, 26, 27, 28, 29, 30, 31, 32, 33, 34, 35, 36, 37, 38, 39, 40, 41, 42, 43, 44, 45, 46, 103, 104, 105, 106, 107, 114, 115, 116, 108, 109, 110, 111, 112, 113] (by decide +kernel) (by decide +kernel)) (goodIn_sub (fun _ h => List.mem_cons_of_mem _ (List.mem_append_left _ (List.mem_append_right _ h))) (by decide +kernel))) (goodIn_sub (fun _ h => List.mem_cons_of_mem _ (List.mem_append_right _ h)) (by decide +kernel))
set_option maxRecDepth 20000 in
theorem gX4_throwAway_X4_livingFile : GoodIn wsX4_throwAway (wsV RX4 94 RX4 yX4_livingFile wsX4_livingFile) := goodIn_app (goodIn_of _ (by decide +kernel)) ggX4_throwAway_X4_livingFile
set_option maxRecDepth 20000 in
theorem ggX4_throwAway_X1_sumOf : GoodIn wsX4_throwAway wsX1_sumOf := goodIn_r _ [51, 52, 53, 54, 50, 55, 56, 57, 58, 59, 60, 61, 62, 63, 64, 65, 66, 67, 117, 118, 119, 120] (by decide +kernel) (by decide +kernel)
set_option maxRecDepth 20000 in
theorem gX4_throwAway_X1_sumOf : GoodIn wsX4_throwAway (wsV RX4 121 RX1 yX1_sumOf wsX1_sumOf) := goodIn_app (goodIn_of _ (by decide +kernel)) ggX4_throwAway_X1_sumOf
set_option maxRecDepth 20000 in
theorem ggX4_throwAway_X1_release : GoodIn wsX4_throwAway wsX1_release := goodIn_r _ [71, 72, 56, 57, 58, 59, 60, 61, 62, 117, 118, 119, 120] (by decide +kernel) (by decide +kernel)
set_option maxRecDepth 20000 in
theorem gX4_throwAway_X1_release : GoodIn wsX4_throwAway (wsV RX4 117 RX1 yX1_release wsX1_release) := goodIn_app (goodIn_of _ (by decide +kernel)) ggX4_throwAway_X1_release
set_option maxRecDepth 20000 in
theorem ggX4_throwAway_X4_readClaims : GoodIn wsX4_throwAway wsX4_readClaims := goodIn_r _ [76, 16, 17, 18, 19, 20, 21, 22, 23, 24, 25, 26, 27, 28, 29, 30, 31, 32, 33, 34, 35, 36, 37, 38, 39, 40, 41, 42, 43, 44, 45, 46, 77, 78, 79, 6, 80, 1, 81, 57, 58, 59, 60, 61, 62, 82, 83, 84, 85, 86, 87, 88, 50, 89, 72, 90, 91, 92, 93, 94, 95, 96, 97, 47, 48, 49, 51, 52, 53, 54, 55, 56, 63, 64, 65, 66, 67, 98, 103, 104, 105, 106, 107, 114, 115, 116, 108, 109, 110, 111, 112, 113, 117, 118, 119, 120] (by decide +kernel) (by decide +kernel)
set_option maxRecDepth 20000 in
theorem gX4_throwAway_X4_readClaims : GoodIn wsX4_throwAway (wsV RX4 91 RX4 yX4_readClaims wsX4_readClaims) := goodIn_app (goodIn_of _ (by decide +kernel)) ggX4_throwAway_X4_readClaims
set_option maxRecDepth 20000 in
theorem ggX4_throwAway_X1_countFree : GoodIn wsX4_throwAway wsX1_countFree := goodIn_r _ [102, 72, 119, 120] (by decide +kernel) (by decide +kernel)
set_option maxRecDepth 20000 in
theorem gX4_throwAway_X1_countFree : GoodIn wsX4_throwAway (wsV RX4 59 RX1 yX1_countFree wsX1_countFree) := goodIn_app (goodIn_of _ (by decide +kernel)) ggX4_throwAway_X1_countFree
theorem dX4_throwAway_0 : decode cX4_throwAway 0 = .ok (.aload_n 0, 1) := by decide +kernel
theorem dX4_throwAway_1 : decode cX4_throwAway 1 = .ok (.iload_n 1, 1) := by decide +kernel
theorem dX4_throwAway_2 : decode cX4_throwAway 2 = .ok (.invokevirtual 94, 3) := by decide +kernel
theorem dX4_throwAway_5 : decode cX4_throwAway 5 = .ok (.astore_n 2, 1) := by decide +kernel
theorem dX4_throwAway_6 : decode cX4_throwAway 6 = .ok (.aload_n 2, 1) := by decide +kernel
theorem dX4_throwAway_7 : decode cX4_throwAway 7 = .ok (.aload_n 0, 1) := by decide +kernel
theorem dX4_throwAway_8 : decode cX4_throwAway 8 = .ok (.getfield 10, 3) := by decide +kernel
theorem dX4_throwAway_11 : decode cX4_throwAway 11 = .ok (.aload_n 2, 1) := by decide +kernel
theorem dX4_throwAway_12 : decode cX4_throwAway 12 = .ok (.getfield 73, 3) := by decide +kernel
theorem dX4_throwAway_15 : decode cX4_throwAway 15 = .ok (.invokevirtual 121, 3) := by decide +kernel
theorem dX4_throwAway_18 : decode cX4_throwAway 18 = .ok (.putfield 125, 3) := by decide +kernel
theorem dX4_throwAway_21 : decode cX4_throwAway 21 = .ok (.aload_n 2, 1) := by decide +kernel
theorem dX4_throwAway_22 : decode cX4_throwAway 22 = .ok (.aload_n 0, 1) := by decide +kernel
theorem dX4_throwAway_23 : decode cX4_throwAway 23 = .ok (.getfield 37, 3) := by decide +kernel
theorem dX4_throwAway_26 : decode cX4_throwAway 26 = .ok (.putfield 128, 3) := by decide +kernel
theorem dX4_throwAway_29 : decode cX4_throwAway 29 = .ok (.aload_n 0, 1) := by decide +kernel
theorem dX4_throwAway_30 : decode cX4_throwAway 30 = .ok (.dup, 1) := by decide +kernel
theorem dX4_throwAway_31 : decode cX4_throwAway 31 = .ok (.getfield 37, 3) := by decide +kernel
theorem dX4_throwAway_34 : decode cX4_throwAway 34 = .ok (.iconst 1, 1) := by decide +kernel
theorem dX4_throwAway_35 : decode cX4_throwAway 35 = .ok (.iadd, 1) := by decide +kernel
theorem dX4_throwAway_36 : decode cX4_throwAway 36 = .ok (.putfield 37, 3) := by decide +kernel
theorem dX4_throwAway_39 : decode cX4_throwAway 39 = .ok (.aload_n 0, 1) := by decide +kernel
theorem dX4_throwAway_40 : decode cX4_throwAway 40 = .ok (.getfield 10, 3) := by decide +kernel
theorem dX4_throwAway_43 : decode cX4_throwAway 43 = .ok (.aload_n 2, 1) := by decide +kernel
theorem dX4_throwAway_44 : decode cX4_throwAway 44 = .ok (.getfield 73, 3) := by decide +kernel
theorem dX4_throwAway_47 : decode cX4_throwAway 47 = .ok (.invokevirtual 117, 3) := by decide +kernel
theorem dX4_throwAway_50 : decode cX4_throwAway 50 = .ok (.aload_n 0, 1) := by decide +kernel
theorem dX4_throwAway_51 : decode cX4_throwAway 51 = .ok (.invokevirtual 91, 3) := by decide +kernel
theorem dX4_throwAway_54 : decode cX4_throwAway 54 = .ok (.aload_n 0, 1) := by decide +kernel
theorem dX4_throwAway_55 : decode cX4_throwAway 55 = .ok (.getfield 10, 3) := by decide +kernel
theorem dX4_throwAway_58 : decode cX4_throwAway 58 = .ok (.invokevirtual 59, 3) := by decide +kernel
theorem dX4_throwAway_61 : decode cX4_throwAway 61 = .ok (.ireturn, 1) := by decide +kernel
set_option maxRecDepth 20000 in
theorem ggX4_files_Jx4a65c_size_8abf5 : GoodIn wsX4_files wsJx4a65c_size_8abf5 := goodIn_r _ [6, 7, 13, 14, 15] (by decide +kernel) (by decide +kernel)
set_option maxRecDepth 20000 in
theorem gX4_files_Jx4a65c_size_8abf5 : GoodIn wsX4_files (wsV RX4 50 RJx4a65c yJx4a65c_size_8abf5 wsJx4a65c_size_8abf5) := goodIn_app (goodIn_of _ (by decide +kernel)) ggX4_files_Jx4a65c_size_8abf5
theorem dX4_files_0 : decode cX4_files 0 = .ok (.aload_n 0, 1) := by decide +kernel
theorem dX4_files_1 : decode cX4_files 1 = .ok (.getfield 19, 3) := by decide +kernel
theorem dX4_files_4 : decode cX4_files 4 = .ok (.invokevirtual 50, 3) := by decide +kernel
theorem dX4_files_7 : decode cX4_files 7 = .ok (.ireturn, 1) := by decide +kernel
set_option maxRecDepth 20000 in
theorem ggX4_free_X1_countFree : GoodIn wsX4_free wsX1_countFree := goodIn_r _ [6, 7, 13, 14] (by decide +kernel) (by decide +kernel)
set_option maxRecDepth 20000 in
theorem gX4_free_X1_countFree : GoodIn wsX4_free (wsV RX4 59 RX1 yX1_countFree wsX1_countFree) := goodIn_app (goodIn_of _ (by decide +kernel)) ggX4_free_X1_countFree
theorem dX4_free_0 : decode cX4_free 0 = .ok (.aload_n 0, 1) := by decide +kernel
theorem dX4_free_1 : decode cX4_free 1 = .ok (.getfield 10, 3) := by decide +kernel
theorem dX4_free_4 : decode cX4_free 4 = .ok (.invokevirtual 59, 3) := by decide +kernel
theorem dX4_free_7 : decode cX4_free 7 = .ok (.ireturn, 1) := by decide +kernel
set_option maxRecDepth 20000 in
theorem ggX4_number_X4_requireCluster : GoodIn wsX4_number wsX4_requireCluster := goodIn_ca (goodIn_r _ [7, 8, 9] (by decide +kernel) (by decide +kernel)) (goodIn_sub (fun _ h => List.mem_cons_of_mem _ (List.mem_append_right _ h)) (by decide +kernel))
set_option maxRecDepth 20000 in
theorem gX4_number_X4_requireCluster : GoodIn wsX4_number (va_wsS RX4 131 yX4_requireCluster wsX4_requireCluster) := goodIn_app (goodIn_of _ (by decide +kernel)) ggX4_number_X4_requireCluster
set_option maxRecDepth 20000 in
theorem ggX4_number_X1_read : GoodIn wsX4_number wsX1_read := goodIn_r _ [14, 15, 21, 22] (by decide +kernel) (by decide +kernel)
set_option maxRecDepth 20000 in
theorem gX4_number_X1_read : GoodIn wsX4_number (wsV RX4 136 RX1 yX1_read wsX1_read) := goodIn_app (goodIn_of _ (by decide +kernel)) ggX4_number_X1_read
theorem dX4_number_0 : decode cX4_number 0 = .ok (.iload_n 1, 1) := by decide +kernel
theorem dX4_number_1 : decode cX4_number 1 = .ok (.invokestatic 131, 3) := by decide +kernel
theorem dX4_number_4 : decode cX4_number 4 = .ok (.iload_n 2, 1) := by decide +kernel
theorem dX4_number_5 : decode cX4_number 5 = .ok (.ifCond .lt 8, 3) := by decide +kernel
theorem dX4_number_8 : decode cX4_number 8 = .ok (.iload_n 2, 1) := by decide +kernel
theorem dX4_number_9 : decode cX4_number 9 = .ok (.iconst 4, 1) := by decide +kernel
theorem dX4_number_10 : decode cX4_number 10 = .ok (.if_icmp .lt 13, 3) := by decide +kernel
theorem dX4_number_13 : decode cX4_number 13 = .ok (.new 41, 3) := by decide +kernel
theorem dX4_number_16 : decode cX4_number 16 = .ok (.dup, 1) := by decide +kernel
theorem dX4_number_17 : decode cX4_number 17 = .ok (.ldc 134, 2) := by decide +kernel
theorem dX4_number_19 : decode cX4_number 19 = .ok (.invokespecial 45, 3) := by decide +kernel
theorem dX4_number_22 : decode cX4_number 22 = .ok (.athrow, 1) := by decide +kernel
theorem dX4_number_23 : decode cX4_number 23 = .ok (.aload_n 0, 1) := by decide +kernel
theorem dX4_number_24 : decode cX4_number 24 = .ok (.getfield 10, 3) := by decide +kernel
theorem dX4_number_27 : decode cX4_number 27 = .ok (.iload_n 1, 1) := by decide +kernel
theorem dX4_number_28 : decode cX4_number 28 = .ok (.iload_n 2, 1) := by decide +kernel
theorem dX4_number_29 : decode cX4_number 29 = .ok (.invokevirtual 136, 3) := by decide +kernel
theorem dX4_number_32 : decode cX4_number 32 = .ok (.ireturn, 1) := by decide +kernel
set_option maxRecDepth 20000 in
theorem ggX4_fileOf_X4_requireCluster : GoodIn wsX4_fileOf wsX4_requireCluster := goodIn_ca (goodIn_r _ [5, 6, 7] (by decide +kernel) (by decide +kernel)) (goodIn_sub (fun _ h => List.mem_cons_of_mem _ (List.mem_append_right _ h)) (by decide +kernel))
set_option maxRecDepth 20000 in
theorem gX4_fileOf_X4_requireCluster : GoodIn wsX4_fileOf (va_wsS RX4 131 yX4_requireCluster wsX4_requireCluster) := goodIn_app (goodIn_of _ (by decide +kernel)) ggX4_fileOf_X4_requireCluster
set_option maxRecDepth 20000 in
theorem ggX4_fileOf_X1_holderOf : GoodIn wsX4_fileOf wsX1_holderOf := goodIn_r _ [12, 13, 19, 20] (by decide +kernel) (by decide +kernel)
set_option maxRecDepth 20000 in
theorem gX4_fileOf_X1_holderOf : GoodIn wsX4_fileOf (wsV RX4 140 RX1 yX1_holderOf wsX1_holderOf) := goodIn_app (goodIn_of _ (by decide +kernel)) ggX4_fileOf_X1_holderOf
theorem dX4_fileOf_0 : decode cX4_fileOf 0 = .ok (.iload_n 1, 1) := by decide +kernel
theorem dX4_fileOf_1 : decode cX4_fileOf 1 = .ok (.invokestatic 131, 3) := by decide +kernel
theorem dX4_fileOf_4 : decode cX4_fileOf 4 = .ok (.aload_n 0, 1) := by decide +kernel
theorem dX4_fileOf_5 : decode cX4_fileOf 5 = .ok (.getfield 10, 3) := by decide +kernel
theorem dX4_fileOf_8 : decode cX4_fileOf 8 = .ok (.iload_n 1, 1) := by decide +kernel
theorem dX4_fileOf_9 : decode cX4_fileOf 9 = .ok (.invokevirtual 140, 3) := by decide +kernel
theorem dX4_fileOf_12 : decode cX4_fileOf 12 = .ok (.ireturn, 1) := by decide +kernel
set_option maxRecDepth 20000 in
theorem ggX4_clusters_X4_knownFile : GoodIn wsX4_clusters wsX4_knownFile := goodIn_ca (goodIn_r _ [5, 6, 7, 8, 9, 10, 11, 12, 13, 14, 15, 16, 17, 18, 19, 20, 21, 22, 23, 24, 25, 26, 27, 28, 29, 30, 31, 32, 41, 42, 43, 44, 45, 46, 47, 48] (by decide +kernel) (by decide +kernel)) (goodIn_sub (fun _ h => List.mem_cons_of_mem _ (List.mem_append_right _ h)) (by decide +kernel))
set_option maxRecDepth 20000 in
theorem gX4_clusters_X4_knownFile : GoodIn wsX4_clusters (wsV RX4 143 RX4 yX4_knownFile wsX4_knownFile) := goodIn_app (goodIn_of _ (by decide +kernel)) ggX4_clusters_X4_knownFile
theorem dX4_clusters_0 : decode cX4_clusters 0 = .ok (.aload_n 0, 1) := by decide +kernel
theorem dX4_clusters_1 : decode cX4_clusters 1 = .ok (.iload_n 1, 1) := by decide +kernel
theorem dX4_clusters_2 : decode cX4_clusters 2 = .ok (.invokevirtual 143, 3) := by decide +kernel
theorem dX4_clusters_5 : decode cX4_clusters 5 = .ok (.getfield 73, 3) := by decide +kernel
theorem dX4_clusters_8 : decode cX4_clusters 8 = .ok (.getfield 98, 3) := by decide +kernel
theorem dX4_clusters_11 : decode cX4_clusters 11 = .ok (.ireturn, 1) := by decide +kernel
set_option maxRecDepth 20000 in
theorem ggX4_clusterAt_X4_knownFile : GoodIn wsX4_clusterAt wsX4_knownFile := goodIn_ca (goodIn_r _ [5, 6, 7, 8, 9, 10, 11, 12, 13, 14, 15, 16, 17, 18, 19, 20, 21, 22, 23, 24, 25, 26, 27, 28, 29, 30, 31, 32, 63, 64, 65, 66, 67, 68, 69, 70] (by decide +kernel) (by decide +kernel)) (goodIn_sub (fun _ h => List.mem_cons_of_mem _ (List.mem_append_left _ (List.mem_append_left _ (List.mem_append_right _ h)))) (by decide +kernel))
set_option maxRecDepth 20000 in
theorem gX4_clusterAt_X4_knownFile : GoodIn wsX4_clusterAt (wsV RX4 143 RX4 yX4_knownFile wsX4_knownFile) := goodIn_app (goodIn_of _ (by decide +kernel)) ggX4_clusterAt_X4_knownFile
set_option maxRecDepth 20000 in
theorem ggX4_clusterAt_X4_requirePlaceInChain : GoodIn wsX4_clusterAt wsX4_requirePlaceInChain := goodIn_ca (goodIn_r _ [35, 36, 37, 57, 58, 59, 60, 61, 62, 71, 72] (by decide +kernel) (by decide +kernel)) (goodIn_sub (fun _ h => List.mem_cons_of_mem _ (List.mem_append_left _ (List.mem_append_right _ h))) (by decide +kernel))
set_option maxRecDepth 20000 in
theorem gX4_clusterAt_X4_requirePlaceInChain : GoodIn wsX4_clusterAt (va_wsS RX4 146 yX4_requirePlaceInChain wsX4_requirePlaceInChain) := goodIn_app (goodIn_of _ (by decide +kernel)) ggX4_clusterAt_X4_requirePlaceInChain
set_option maxRecDepth 20000 in
theorem ggX4_clusterAt_X4_livingFile : GoodIn wsX4_clusterAt wsX4_livingFile := goodIn_ca (goodIn_ca (goodIn_r _ [41, 42, 43, 1, 2, 3, 4, 5, 6, 7, 8, 9, 10, 11, 12, 13, 14, 15, 16, 17, 18, 19, 20, 21, 22, 23, 24, 25, 26, 27, 28, 29, 30, 31, 32, 44, 45, 46, 47, 48, 49, 63, 64, 65, 66, 67, 68, 69, 70, 57, 58, 59, 60, 61, 62] (by decide +kernel) (by decide +kernel)) (goodIn_sub (fun _ h => List.mem_cons_of_mem _ (List.mem_append_right _ h)) (by decide +kernel))) (goodIn_sub (fun _ h => List.mem_cons_of_mem _ (List.mem_append_left _ (List.mem_append_left _ (List.mem_append_right _ h)))) (by decide +kernel))
set_option maxRecDepth 20000 in
theorem gX4_clusterAt_X4_livingFile : GoodIn wsX4_clusterAt (wsV RX4 94 RX4 yX4_livingFile wsX4_livingFile) := goodIn_app (goodIn_of _ (by decide +kernel)) ggX4_clusterAt_X4_livingFile
set_option maxRecDepth 20000 in
theorem ggX4_clusterAt_X0_at : GoodIn wsX4_clusterAt wsX0_at := goodIn_r _ [54, 55, 56, 71, 72] (by decide +kernel) (by decide +kernel)
set_option maxRecDepth 20000 in
theorem gX4_clusterAt_X0_at : GoodIn wsX4_clusterAt (wsV RX4 104 RX0 yX0_at wsX0_at) := goodIn_app (goodIn_of _ (by decide +kernel)) ggX4_clusterAt_X0_at
theorem dX4_clusterAt_0 : decode cX4_clusterAt 0 = .ok (.aload_n 0, 1) := by decide +kernel
theorem dX4_clusterAt_1 : decode cX4_clusterAt 1 = .ok (.iload_n 1, 1) := by decide +kernel
theorem dX4_clusterAt_2 : decode cX4_clusterAt 2 = .ok (.invokevirtual 143, 3) := by decide +kernel
theorem dX4_clusterAt_5 : decode cX4_clusterAt 5 = .ok (.astore_n 3, 1) := by decide +kernel
theorem dX4_clusterAt_6 : decode cX4_clusterAt 6 = .ok (.aload_n 3, 1) := by decide +kernel
theorem dX4_clusterAt_7 : decode cX4_clusterAt 7 = .ok (.iload_n 2, 1) := by decide +kernel
theorem dX4_clusterAt_8 : decode cX4_clusterAt 8 = .ok (.invokestatic 146, 3) := by decide +kernel
theorem dX4_clusterAt_11 : decode cX4_clusterAt 11 = .ok (.aload_n 0, 1) := by decide +kernel
theorem dX4_clusterAt_12 : decode cX4_clusterAt 12 = .ok (.iload_n 1, 1) := by decide +kernel
theorem dX4_clusterAt_13 : decode cX4_clusterAt 13 = .ok (.invokevirtual 94, 3) := by decide +kernel
