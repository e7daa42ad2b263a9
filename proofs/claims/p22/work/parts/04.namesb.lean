theorem dX0_init_0 : decode cX0_init 0 = .ok (.aload_n 0, 1) := by decide +kernel
theorem dX0_init_1 : decode cX0_init 1 = .ok (.invokespecial 3, 3) := by decide +kernel
theorem dX0_init_4 : decode cX0_init 4 = .ok (.aload_n 0, 1) := by decide +kernel
theorem dX0_init_5 : decode cX0_init 5 = .ok (.bipush 8, 2) := by decide +kernel
theorem dX0_init_7 : decode cX0_init 7 = .ok (.newarray .int, 2) := by decide +kernel
theorem dX0_init_9 : decode cX0_init 9 = .ok (.putfield 9, 3) := by decide +kernel
theorem dX0_init_12 : decode cX0_init 12 = .ok (.aload_n 0, 1) := by decide +kernel
theorem dX0_init_13 : decode cX0_init 13 = .ok (.iconst 0, 1) := by decide +kernel
theorem dX0_init_14 : decode cX0_init 14 = .ok (.putfield 15, 3) := by decide +kernel
theorem dX0_init_17 : decode cX0_init 17 = .ok (.return_, 1) := by decide +kernel
theorem dX0_clear_0 : decode cX0_clear 0 = .ok (.aload_n 0, 1) := by decide +kernel
theorem dX0_clear_1 : decode cX0_clear 1 = .ok (.iconst 0, 1) := by decide +kernel
theorem dX0_clear_2 : decode cX0_clear 2 = .ok (.putfield 15, 3) := by decide +kernel
theorem dX0_clear_5 : decode cX0_clear 5 = .ok (.return_, 1) := by decide +kernel
theorem dX0_add_0 : decode cX0_add 0 = .ok (.aload_n 0, 1) := by decide +kernel
theorem dX0_add_1 : decode cX0_add 1 = .ok (.getfield 15, 3) := by decide +kernel
theorem dX0_add_4 : decode cX0_add 4 = .ok (.ifCond .lt 35, 3) := by decide +kernel
theorem dX0_add_7 : decode cX0_add 7 = .ok (.aload_n 0, 1) := by decide +kernel
theorem dX0_add_8 : decode cX0_add 8 = .ok (.getfield 15, 3) := by decide +kernel
theorem dX0_add_11 : decode cX0_add 11 = .ok (.aload_n 0, 1) := by decide +kernel
theorem dX0_add_12 : decode cX0_add 12 = .ok (.getfield 9, 3) := by decide +kernel
theorem dX0_add_15 : decode cX0_add 15 = .ok (.arraylength, 1) := by decide +kernel
theorem dX0_add_16 : decode cX0_add 16 = .ok (.if_icmp .ge 23, 3) := by decide +kernel
theorem dX0_add_19 : decode cX0_add 19 = .ok (.aload_n 0, 1) := by decide +kernel
theorem dX0_add_20 : decode cX0_add 20 = .ok (.getfield 9, 3) := by decide +kernel
theorem dX0_add_23 : decode cX0_add 23 = .ok (.aload_n 0, 1) := by decide +kernel
theorem dX0_add_24 : decode cX0_add 24 = .ok (.getfield 15, 3) := by decide +kernel
theorem dX0_add_27 : decode cX0_add 27 = .ok (.iload_n 1, 1) := by decide +kernel
theorem dX0_add_28 : decode cX0_add 28 = .ok (.iastore, 1) := by decide +kernel
theorem dX0_add_29 : decode cX0_add 29 = .ok (.aload_n 0, 1) := by decide +kernel
theorem dX0_add_30 : decode cX0_add 30 = .ok (.dup, 1) := by decide +kernel
theorem dX0_add_31 : decode cX0_add 31 = .ok (.getfield 15, 3) := by decide +kernel
theorem dX0_add_34 : decode cX0_add 34 = .ok (.iconst 1, 1) := by decide +kernel
theorem dX0_add_35 : decode cX0_add 35 = .ok (.iadd, 1) := by decide +kernel
theorem dX0_add_36 : decode cX0_add 36 = .ok (.putfield 15, 3) := by decide +kernel
theorem dX0_add_39 : decode cX0_add 39 = .ok (.return_, 1) := by decide +kernel
theorem dX0_at_0 : decode cX0_at 0 = .ok (.iload_n 1, 1) := by decide +kernel
theorem dX0_at_1 : decode cX0_at 1 = .ok (.ifCond .lt 29, 3) := by decide +kernel
theorem dX0_at_4 : decode cX0_at 4 = .ok (.iload_n 1, 1) := by decide +kernel
theorem dX0_at_5 : decode cX0_at 5 = .ok (.aload_n 0, 1) := by decide +kernel
theorem dX0_at_6 : decode cX0_at 6 = .ok (.getfield 15, 3) := by decide +kernel
theorem dX0_at_9 : decode cX0_at 9 = .ok (.if_icmp .ge 21, 3) := by decide +kernel
theorem dX0_at_12 : decode cX0_at 12 = .ok (.iload_n 1, 1) := by decide +kernel
theorem dX0_at_13 : decode cX0_at 13 = .ok (.aload_n 0, 1) := by decide +kernel
theorem dX0_at_14 : decode cX0_at 14 = .ok (.getfield 9, 3) := by decide +kernel
theorem dX0_at_17 : decode cX0_at 17 = .ok (.arraylength, 1) := by decide +kernel
theorem dX0_at_18 : decode cX0_at 18 = .ok (.if_icmp .ge 12, 3) := by decide +kernel
theorem dX0_at_21 : decode cX0_at 21 = .ok (.aload_n 0, 1) := by decide +kernel
theorem dX0_at_22 : decode cX0_at 22 = .ok (.getfield 9, 3) := by decide +kernel
theorem dX0_at_25 : decode cX0_at 25 = .ok (.iload_n 1, 1) := by decide +kernel
theorem dX0_at_26 : decode cX0_at 26 = .ok (.iaload, 1) := by decide +kernel
theorem dX0_at_27 : decode cX0_at 27 = .ok (.goto 4, 3) := by decide +kernel
theorem dX0_at_30 : decode cX0_at 30 = .ok (.iconst (-1), 1) := by decide +kernel
theorem dX0_at_31 : decode cX0_at 31 = .ok (.ireturn, 1) := by decide +kernel
set_option maxRecDepth 20000 in
theorem ggX0_holds_X0_at : GoodIn wsX0_holds wsX0_at := goodIn_r _ [6, 1, 7, 8, 9] (by decide +kernel) (by decide +kernel)
set_option maxRecDepth 20000 in
theorem gX0_holds_X0_at : GoodIn wsX0_holds (wsV RX0 19 RX0 yX0_at wsX0_at) := goodIn_app (goodIn_of _ (by decide +kernel)) ggX0_holds_X0_at
theorem dX0_holds_0 : decode cX0_holds 0 = .ok (.iconst 0, 1) := by decide +kernel
theorem dX0_holds_1 : decode cX0_holds 1 = .ok (.istore_n 2, 1) := by decide +kernel
theorem dX0_holds_2 : decode cX0_holds 2 = .ok (.iload_n 2, 1) := by decide +kernel
theorem dX0_holds_3 : decode cX0_holds 3 = .ok (.aload_n 0, 1) := by decide +kernel
theorem dX0_holds_4 : decode cX0_holds 4 = .ok (.getfield 15, 3) := by decide +kernel
theorem dX0_holds_7 : decode cX0_holds 7 = .ok (.if_icmp .ge 20, 3) := by decide +kernel
theorem dX0_holds_10 : decode cX0_holds 10 = .ok (.aload_n 0, 1) := by decide +kernel
theorem dX0_holds_11 : decode cX0_holds 11 = .ok (.iload_n 2, 1) := by decide +kernel
theorem dX0_holds_12 : decode cX0_holds 12 = .ok (.invokevirtual 19, 3) := by decide +kernel
theorem dX0_holds_15 : decode cX0_holds 15 = .ok (.iload_n 1, 1) := by decide +kernel
theorem dX0_holds_16 : decode cX0_holds 16 = .ok (.if_icmp .ne 5, 3) := by decide +kernel
theorem dX0_holds_19 : decode cX0_holds 19 = .ok (.iconst 1, 1) := by decide +kernel
theorem dX0_holds_20 : decode cX0_holds 20 = .ok (.ireturn, 1) := by decide +kernel
theorem dX0_holds_21 : decode cX0_holds 21 = .ok (.iinc 2 1, 3) := by decide +kernel
theorem dX0_holds_24 : decode cX0_holds 24 = .ok (.goto (-22), 3) := by decide +kernel
theorem dX0_holds_27 : decode cX0_holds 27 = .ok (.iconst 0, 1) := by decide +kernel
theorem dX0_holds_28 : decode cX0_holds 28 = .ok (.ireturn, 1) := by decide +kernel
set_option maxRecDepth 20000 in
theorem ggX1_init_J7_fill_53178 : GoodIn wsX1_init wsJ7_fill_53178 := goodIn_r _ [10] (by decide +kernel) (by decide +kernel)
set_option maxRecDepth 20000 in
theorem gX1_init_J7_fill_53178 : GoodIn wsX1_init (va_wsS RX1 18 yJ7_fill_53178 wsJ7_fill_53178) := goodIn_app (goodIn_of _ (by decide +kernel)) ggX1_init_J7_fill_53178
theorem dX1_init_0 : decode cX1_init 0 = .ok (.aload_n 0, 1) := by decide +kernel
theorem dX1_init_1 : decode cX1_init 1 = .ok (.invokespecial 3, 3) := by decide +kernel
theorem dX1_init_4 : decode cX1_init 4 = .ok (.aload_n 0, 1) := by decide +kernel
theorem dX1_init_5 : decode cX1_init 5 = .ok (.sipush 160, 3) := by decide +kernel
theorem dX1_init_8 : decode cX1_init 8 = .ok (.newarray .int, 2) := by decide +kernel
theorem dX1_init_10 : decode cX1_init 10 = .ok (.putfield 9, 3) := by decide +kernel
theorem dX1_init_13 : decode cX1_init 13 = .ok (.aload_n 0, 1) := by decide +kernel
theorem dX1_init_14 : decode cX1_init 14 = .ok (.bipush 40, 2) := by decide +kernel
theorem dX1_init_16 : decode cX1_init 16 = .ok (.newarray .int, 2) := by decide +kernel
theorem dX1_init_18 : decode cX1_init 18 = .ok (.putfield 15, 3) := by decide +kernel
theorem dX1_init_21 : decode cX1_init 21 = .ok (.aload_n 0, 1) := by decide +kernel
theorem dX1_init_22 : decode cX1_init 22 = .ok (.getfield 15, 3) := by decide +kernel
theorem dX1_init_25 : decode cX1_init 25 = .ok (.iconst (-1), 1) := by decide +kernel
theorem dX1_init_26 : decode cX1_init 26 = .ok (.invokestatic 18, 3) := by decide +kernel
theorem dX1_init_29 : decode cX1_init 29 = .ok (.return_, 1) := by decide +kernel
theorem dX1_isFree_0 : decode cX1_isFree 0 = .ok (.iload_n 1, 1) := by decide +kernel
theorem dX1_isFree_1 : decode cX1_isFree 1 = .ok (.ifCond .lt 26, 3) := by decide +kernel
theorem dX1_isFree_4 : decode cX1_isFree 4 = .ok (.iload_n 1, 1) := by decide +kernel
theorem dX1_isFree_5 : decode cX1_isFree 5 = .ok (.aload_n 0, 1) := by decide +kernel
theorem dX1_isFree_6 : decode cX1_isFree 6 = .ok (.getfield 15, 3) := by decide +kernel
theorem dX1_isFree_9 : decode cX1_isFree 9 = .ok (.arraylength, 1) := by decide +kernel
theorem dX1_isFree_10 : decode cX1_isFree 10 = .ok (.if_icmp .ge 17, 3) := by decide +kernel
theorem dX1_isFree_13 : decode cX1_isFree 13 = .ok (.aload_n 0, 1) := by decide +kernel
theorem dX1_isFree_14 : decode cX1_isFree 14 = .ok (.getfield 15, 3) := by decide +kernel
theorem dX1_isFree_17 : decode cX1_isFree 17 = .ok (.iload_n 1, 1) := by decide +kernel
theorem dX1_isFree_18 : decode cX1_isFree 18 = .ok (.iaload, 1) := by decide +kernel
theorem dX1_isFree_19 : decode cX1_isFree 19 = .ok (.iconst (-1), 1) := by decide +kernel
theorem dX1_isFree_20 : decode cX1_isFree 20 = .ok (.if_icmp .ne 7, 3) := by decide +kernel
theorem dX1_isFree_23 : decode cX1_isFree 23 = .ok (.iconst 1, 1) := by decide +kernel
theorem dX1_isFree_24 : decode cX1_isFree 24 = .ok (.goto 4, 3) := by decide +kernel
theorem dX1_isFree_27 : decode cX1_isFree 27 = .ok (.iconst 0, 1) := by decide +kernel
theorem dX1_isFree_28 : decode cX1_isFree 28 = .ok (.ireturn, 1) := by decide +kernel
theorem dX1_holderOf_0 : decode cX1_holderOf 0 = .ok (.iload_n 1, 1) := by decide +kernel
theorem dX1_holderOf_1 : decode cX1_holderOf 1 = .ok (.ifCond .lt 21, 3) := by decide +kernel
theorem dX1_holderOf_4 : decode cX1_holderOf 4 = .ok (.iload_n 1, 1) := by decide +kernel
theorem dX1_holderOf_5 : decode cX1_holderOf 5 = .ok (.aload_n 0, 1) := by decide +kernel
theorem dX1_holderOf_6 : decode cX1_holderOf 6 = .ok (.getfield 15, 3) := by decide +kernel
theorem dX1_holderOf_9 : decode cX1_holderOf 9 = .ok (.arraylength, 1) := by decide +kernel
theorem dX1_holderOf_10 : decode cX1_holderOf 10 = .ok (.if_icmp .ge 12, 3) := by decide +kernel
theorem dX1_holderOf_13 : decode cX1_holderOf 13 = .ok (.aload_n 0, 1) := by decide +kernel
theorem dX1_holderOf_14 : decode cX1_holderOf 14 = .ok (.getfield 15, 3) := by decide +kernel
theorem dX1_holderOf_17 : decode cX1_holderOf 17 = .ok (.iload_n 1, 1) := by decide +kernel
theorem dX1_holderOf_18 : decode cX1_holderOf 18 = .ok (.iaload, 1) := by decide +kernel
theorem dX1_holderOf_19 : decode cX1_holderOf 19 = .ok (.goto 4, 3) := by decide +kernel
theorem dX1_holderOf_22 : decode cX1_holderOf 22 = .ok (.iconst (-1), 1) := by decide +kernel
theorem dX1_holderOf_23 : decode cX1_holderOf 23 = .ok (.ireturn, 1) := by decide +kernel
theorem dX1_countFree_0 : decode cX1_countFree 0 = .ok (.iconst 0, 1) := by decide +kernel
theorem dX1_countFree_1 : decode cX1_countFree 1 = .ok (.istore_n 1, 1) := by decide +kernel
theorem dX1_countFree_2 : decode cX1_countFree 2 = .ok (.iconst 0, 1) := by decide +kernel
theorem dX1_countFree_3 : decode cX1_countFree 3 = .ok (.istore_n 2, 1) := by decide +kernel
theorem dX1_countFree_4 : decode cX1_countFree 4 = .ok (.iload_n 2, 1) := by decide +kernel
theorem dX1_countFree_5 : decode cX1_countFree 5 = .ok (.aload_n 0, 1) := by decide +kernel
theorem dX1_countFree_6 : decode cX1_countFree 6 = .ok (.getfield 15, 3) := by decide +kernel
theorem dX1_countFree_9 : decode cX1_countFree 9 = .ok (.arraylength, 1) := by decide +kernel
theorem dX1_countFree_10 : decode cX1_countFree 10 = .ok (.if_icmp .ge 22, 3) := by decide +kernel
theorem dX1_countFree_13 : decode cX1_countFree 13 = .ok (.aload_n 0, 1) := by decide +kernel
theorem dX1_countFree_14 : decode cX1_countFree 14 = .ok (.getfield 15, 3) := by decide +kernel
theorem dX1_countFree_17 : decode cX1_countFree 17 = .ok (.iload_n 2, 1) := by decide +kernel
theorem dX1_countFree_18 : decode cX1_countFree 18 = .ok (.iaload, 1) := by decide +kernel
theorem dX1_countFree_19 : decode cX1_countFree 19 = .ok (.iconst (-1), 1) := by decide +kernel
theorem dX1_countFree_20 : decode cX1_countFree 20 = .ok (.if_icmp .ne 6, 3) := by decide +kernel
theorem dX1_countFree_23 : decode cX1_countFree 23 = .ok (.iinc 1 1, 3) := by decide +kernel
theorem dX1_countFree_26 : decode cX1_countFree 26 = .ok (.iinc 2 1, 3) := by decide +kernel
theorem dX1_countFree_29 : decode cX1_countFree 29 = .ok (.goto (-25), 3) := by decide +kernel
theorem dX1_countFree_32 : decode cX1_countFree 32 = .ok (.iload_n 1, 1) := by decide +kernel
theorem dX1_countFree_33 : decode cX1_countFree 33 = .ok (.ireturn, 1) := by decide +kernel
theorem dX1_takeLowest_0 : decode cX1_takeLowest 0 = .ok (.iconst 0, 1) := by decide +kernel
theorem dX1_takeLowest_1 : decode cX1_takeLowest 1 = .ok (.istore_n 2, 1) := by decide +kernel
theorem dX1_takeLowest_2 : decode cX1_takeLowest 2 = .ok (.iload_n 2, 1) := by decide +kernel
theorem dX1_takeLowest_3 : decode cX1_takeLowest 3 = .ok (.aload_n 0, 1) := by decide +kernel
theorem dX1_takeLowest_4 : decode cX1_takeLowest 4 = .ok (.getfield 15, 3) := by decide +kernel
theorem dX1_takeLowest_7 : decode cX1_takeLowest 7 = .ok (.arraylength, 1) := by decide +kernel
theorem dX1_takeLowest_8 : decode cX1_takeLowest 8 = .ok (.if_icmp .ge 28, 3) := by decide +kernel
theorem dX1_takeLowest_11 : decode cX1_takeLowest 11 = .ok (.aload_n 0, 1) := by decide +kernel
theorem dX1_takeLowest_12 : decode cX1_takeLowest 12 = .ok (.getfield 15, 3) := by decide +kernel
theorem dX1_takeLowest_15 : decode cX1_takeLowest 15 = .ok (.iload_n 2, 1) := by decide +kernel
theorem dX1_takeLowest_16 : decode cX1_takeLowest 16 = .ok (.iaload, 1) := by decide +kernel
theorem dX1_takeLowest_17 : decode cX1_takeLowest 17 = .ok (.iconst (-1), 1) := by decide +kernel
theorem dX1_takeLowest_18 : decode cX1_takeLowest 18 = .ok (.if_icmp .ne 12, 3) := by decide +kernel
theorem dX1_takeLowest_21 : decode cX1_takeLowest 21 = .ok (.aload_n 0, 1) := by decide +kernel
theorem dX1_takeLowest_22 : decode cX1_takeLowest 22 = .ok (.getfield 15, 3) := by decide +kernel
theorem dX1_takeLowest_25 : decode cX1_takeLowest 25 = .ok (.iload_n 2, 1) := by decide +kernel
theorem dX1_takeLowest_26 : decode cX1_takeLowest 26 = .ok (.iload_n 1, 1) := by decide +kernel
theorem dX1_takeLowest_27 : decode cX1_takeLowest 27 = .ok (.iastore, 1) := by decide +kernel
theorem dX1_takeLowest_28 : decode cX1_takeLowest 28 = .ok (.iload_n 2, 1) := by decide +kernel
theorem dX1_takeLowest_29 : decode cX1_takeLowest 29 = .ok (.ireturn, 1) := by decide +kernel
theorem dX1_takeLowest_30 : decode cX1_takeLowest 30 = .ok (.iinc 2 1, 3) := by decide +kernel
theorem dX1_takeLowest_33 : decode cX1_takeLowest 33 = .ok (.goto (-31), 3) := by decide +kernel
theorem dX1_takeLowest_36 : decode cX1_takeLowest 36 = .ok (.iconst (-1), 1) := by decide +kernel
theorem dX1_takeLowest_37 : decode cX1_takeLowest 37 = .ok (.ireturn, 1) := by decide +kernel
set_option maxRecDepth 20000 in
theorem ggX1_release_X0_at : GoodIn wsX1_release wsX0_at := goodIn_r _ [6, 7, 8, 9, 10] (by decide +kernel) (by decide +kernel)
set_option maxRecDepth 20000 in
theorem gX1_release_X0_at : GoodIn wsX1_release (wsV RX1 30 RX0 yX0_at wsX0_at) := goodIn_app (goodIn_of _ (by decide +kernel)) ggX1_release_X0_at
theorem dX1_release_0 : decode cX1_release 0 = .ok (.iconst 0, 1) := by decide +kernel
theorem dX1_release_1 : decode cX1_release 1 = .ok (.istore_n 2, 1) := by decide +kernel
theorem dX1_release_2 : decode cX1_release 2 = .ok (.iload_n 2, 1) := by decide +kernel
theorem dX1_release_3 : decode cX1_release 3 = .ok (.aload_n 1, 1) := by decide +kernel
theorem dX1_release_4 : decode cX1_release 4 = .ok (.getfield 24, 3) := by decide +kernel
theorem dX1_release_7 : decode cX1_release 7 = .ok (.if_icmp .ge 35, 3) := by decide +kernel
theorem dX1_release_10 : decode cX1_release 10 = .ok (.aload_n 1, 1) := by decide +kernel
theorem dX1_release_11 : decode cX1_release 11 = .ok (.iload_n 2, 1) := by decide +kernel
theorem dX1_release_12 : decode cX1_release 12 = .ok (.invokevirtual 30, 3) := by decide +kernel
theorem dX1_release_15 : decode cX1_release 15 = .ok (.istore_n 3, 1) := by decide +kernel
theorem dX1_release_16 : decode cX1_release 16 = .ok (.iload_n 3, 1) := by decide +kernel
theorem dX1_release_17 : decode cX1_release 17 = .ok (.ifCond .lt 19, 3) := by decide +kernel
theorem dX1_release_20 : decode cX1_release 20 = .ok (.iload_n 3, 1) := by decide +kernel
theorem dX1_release_21 : decode cX1_release 21 = .ok (.aload_n 0, 1) := by decide +kernel
theorem dX1_release_22 : decode cX1_release 22 = .ok (.getfield 15, 3) := by decide +kernel
theorem dX1_release_25 : decode cX1_release 25 = .ok (.arraylength, 1) := by decide +kernel
theorem dX1_release_26 : decode cX1_release 26 = .ok (.if_icmp .ge 10, 3) := by decide +kernel
theorem dX1_release_29 : decode cX1_release 29 = .ok (.aload_n 0, 1) := by decide +kernel
theorem dX1_release_30 : decode cX1_release 30 = .ok (.getfield 15, 3) := by decide +kernel
theorem dX1_release_33 : decode cX1_release 33 = .ok (.iload_n 3, 1) := by decide +kernel
theorem dX1_release_34 : decode cX1_release 34 = .ok (.iconst (-1), 1) := by decide +kernel
theorem dX1_release_35 : decode cX1_release 35 = .ok (.iastore, 1) := by decide +kernel
theorem dX1_release_36 : decode cX1_release 36 = .ok (.iinc 2 1, 3) := by decide +kernel
theorem dX1_release_39 : decode cX1_release 39 = .ok (.goto (-37), 3) := by decide +kernel
theorem dX1_release_42 : decode cX1_release 42 = .ok (.return_, 1) := by decide +kernel
theorem dX1_read_0 : decode cX1_read 0 = .ok (.iload_n 1, 1) := by decide +kernel
theorem dX1_read_1 : decode cX1_read 1 = .ok (.iconst 4, 1) := by decide +kernel
theorem dX1_read_2 : decode cX1_read 2 = .ok (.imul, 1) := by decide +kernel
theorem dX1_read_3 : decode cX1_read 3 = .ok (.iload_n 2, 1) := by decide +kernel
theorem dX1_read_4 : decode cX1_read 4 = .ok (.iadd, 1) := by decide +kernel
theorem dX1_read_5 : decode cX1_read 5 = .ok (.istore_n 3, 1) := by decide +kernel
theorem dX1_read_6 : decode cX1_read 6 = .ok (.iload_n 3, 1) := by decide +kernel
theorem dX1_read_7 : decode cX1_read 7 = .ok (.ifCond .lt 21, 3) := by decide +kernel
theorem dX1_read_10 : decode cX1_read 10 = .ok (.iload_n 3, 1) := by decide +kernel
theorem dX1_read_11 : decode cX1_read 11 = .ok (.aload_n 0, 1) := by decide +kernel
theorem dX1_read_12 : decode cX1_read 12 = .ok (.getfield 9, 3) := by decide +kernel
theorem dX1_read_15 : decode cX1_read 15 = .ok (.arraylength, 1) := by decide +kernel
theorem dX1_read_16 : decode cX1_read 16 = .ok (.if_icmp .ge 12, 3) := by decide +kernel
theorem dX1_read_19 : decode cX1_read 19 = .ok (.aload_n 0, 1) := by decide +kernel
theorem dX1_read_20 : decode cX1_read 20 = .ok (.getfield 9, 3) := by decide +kernel
theorem dX1_read_23 : decode cX1_read 23 = .ok (.iload_n 3, 1) := by decide +kernel
theorem dX1_read_24 : decode cX1_read 24 = .ok (.iaload, 1) := by decide +kernel
theorem dX1_read_25 : decode cX1_read 25 = .ok (.goto 4, 3) := by decide +kernel
theorem dX1_read_28 : decode cX1_read 28 = .ok (.iconst 0, 1) := by decide +kernel
theorem dX1_read_29 : decode cX1_read 29 = .ok (.ireturn, 1) := by decide +kernel
set_option maxRecDepth 20000 in
theorem ggX1_readAlong_X0_at : GoodIn wsX1_readAlong wsX0_at := goodIn_r _ [5, 6, 7, 14, 15] (by decide +kernel) (by decide +kernel)
set_option maxRecDepth 20000 in
theorem gX1_readAlong_X0_at : GoodIn wsX1_readAlong (wsV RX1 30 RX0 yX0_at wsX0_at) := goodIn_app (goodIn_of _ (by decide +kernel)) ggX1_readAlong_X0_at
set_option maxRecDepth 20000 in
theorem ggX1_readAlong_X1_read : GoodIn wsX1_readAlong wsX1_read := goodIn_r _ [12, 13, 16, 17] (by decide +kernel) (by decide +kernel)
set_option maxRecDepth 20000 in
theorem gX1_readAlong_X1_read : GoodIn wsX1_readAlong (wsV RX1 34 RX1 yX1_read wsX1_read) := goodIn_app (goodIn_of _ (by decide +kernel)) ggX1_readAlong_X1_read
theorem dX1_readAlong_0 : decode cX1_readAlong 0 = .ok (.aload_n 0, 1) := by decide +kernel
theorem dX1_readAlong_1 : decode cX1_readAlong 1 = .ok (.aload_n 1, 1) := by decide +kernel
theorem dX1_readAlong_2 : decode cX1_readAlong 2 = .ok (.iload_n 2, 1) := by decide +kernel
theorem dX1_readAlong_3 : decode cX1_readAlong 3 = .ok (.iconst 4, 1) := by decide +kernel
theorem dX1_readAlong_4 : decode cX1_readAlong 4 = .ok (.idiv, 1) := by decide +kernel
theorem dX1_readAlong_5 : decode cX1_readAlong 5 = .ok (.invokevirtual 30, 3) := by decide +kernel
theorem dX1_readAlong_8 : decode cX1_readAlong 8 = .ok (.iload_n 2, 1) := by decide +kernel
theorem dX1_readAlong_9 : decode cX1_readAlong 9 = .ok (.iconst 4, 1) := by decide +kernel
theorem dX1_readAlong_10 : decode cX1_readAlong 10 = .ok (.irem, 1) := by decide +kernel
theorem dX1_readAlong_11 : decode cX1_readAlong 11 = .ok (.invokevirtual 34, 3) := by decide +kernel
theorem dX1_readAlong_14 : decode cX1_readAlong 14 = .ok (.ireturn, 1) := by decide +kernel
set_option maxRecDepth 20000 in
theorem ggX1_writeAlong_X0_at : GoodIn wsX1_writeAlong wsX0_at := goodIn_r _ [6, 7, 8, 11, 12] (by decide +kernel) (by decide +kernel)
set_option maxRecDepth 20000 in
theorem gX1_writeAlong_X0_at : GoodIn wsX1_writeAlong (wsV RX1 30 RX0 yX0_at wsX0_at) := goodIn_app (goodIn_of _ (by decide +kernel)) ggX1_writeAlong_X0_at
theorem dX1_writeAlong_0 : decode cX1_writeAlong 0 = .ok (.aload_n 1, 1) := by decide +kernel
theorem dX1_writeAlong_1 : decode cX1_writeAlong 1 = .ok (.iload_n 2, 1) := by decide +kernel
theorem dX1_writeAlong_2 : decode cX1_writeAlong 2 = .ok (.iconst 4, 1) := by decide +kernel
theorem dX1_writeAlong_3 : decode cX1_writeAlong 3 = .ok (.idiv, 1) := by decide +kernel
theorem dX1_writeAlong_4 : decode cX1_writeAlong 4 = .ok (.invokevirtual 30, 3) := by decide +kernel
theorem dX1_writeAlong_7 : decode cX1_writeAlong 7 = .ok (.iconst 4, 1) := by decide +kernel
theorem dX1_writeAlong_8 : decode cX1_writeAlong 8 = .ok (.imul, 1) := by decide +kernel
theorem dX1_writeAlong_9 : decode cX1_writeAlong 9 = .ok (.iload_n 2, 1) := by decide +kernel
theorem dX1_writeAlong_10 : decode cX1_writeAlong 10 = .ok (.iconst 4, 1) := by decide +kernel
theorem dX1_writeAlong_11 : decode cX1_writeAlong 11 = .ok (.irem, 1) := by decide +kernel
theorem dX1_writeAlong_12 : decode cX1_writeAlong 12 = .ok (.iadd, 1) := by decide +kernel
theorem dX1_writeAlong_13 : decode cX1_writeAlong 13 = .ok (.istore 4, 2) := by decide +kernel
theorem dX1_writeAlong_15 : decode cX1_writeAlong 15 = .ok (.iload 4, 2) := by decide +kernel
theorem dX1_writeAlong_17 : decode cX1_writeAlong 17 = .ok (.ifCond .lt 21, 3) := by decide +kernel
theorem dX1_writeAlong_20 : decode cX1_writeAlong 20 = .ok (.iload 4, 2) := by decide +kernel
theorem dX1_writeAlong_22 : decode cX1_writeAlong 22 = .ok (.aload_n 0, 1) := by decide +kernel
theorem dX1_writeAlong_23 : decode cX1_writeAlong 23 = .ok (.getfield 9, 3) := by decide +kernel
theorem dX1_writeAlong_26 : decode cX1_writeAlong 26 = .ok (.arraylength, 1) := by decide +kernel
theorem dX1_writeAlong_27 : decode cX1_writeAlong 27 = .ok (.if_icmp .ge 11, 3) := by decide +kernel
theorem dX1_writeAlong_30 : decode cX1_writeAlong 30 = .ok (.aload_n 0, 1) := by decide +kernel
theorem dX1_writeAlong_31 : decode cX1_writeAlong 31 = .ok (.getfield 9, 3) := by decide +kernel
theorem dX1_writeAlong_34 : decode cX1_writeAlong 34 = .ok (.iload 4, 2) := by decide +kernel
theorem dX1_writeAlong_36 : decode cX1_writeAlong 36 = .ok (.iload_n 3, 1) := by decide +kernel
theorem dX1_writeAlong_37 : decode cX1_writeAlong 37 = .ok (.iastore, 1) := by decide +kernel
theorem dX1_writeAlong_38 : decode cX1_writeAlong 38 = .ok (.return_, 1) := by decide +kernel
set_option maxRecDepth 20000 in
theorem ggX1_sumOf_X1_readAlong : GoodIn wsX1_sumOf wsX1_readAlong := goodIn_r _ [5, 6, 7, 8, 9, 10, 11, 12, 13, 14, 15, 4, 16, 17, 18, 19, 20, 21] (by decide +kernel) (by decide +kernel)
set_option maxRecDepth 20000 in
theorem gX1_sumOf_X1_readAlong : GoodIn wsX1_sumOf (wsV RX1 38 RX1 yX1_readAlong wsX1_readAlong) := goodIn_app (goodIn_of _ (by decide +kernel)) ggX1_sumOf_X1_readAlong
theorem dX1_sumOf_0 : decode cX1_sumOf 0 = .ok (.iconst 0, 1) := by decide +kernel
theorem dX1_sumOf_1 : decode cX1_sumOf 1 = .ok (.istore_n 2, 1) := by decide +kernel
theorem dX1_sumOf_2 : decode cX1_sumOf 2 = .ok (.iconst 0, 1) := by decide +kernel
theorem dX1_sumOf_3 : decode cX1_sumOf 3 = .ok (.istore_n 3, 1) := by decide +kernel
theorem dX1_sumOf_4 : decode cX1_sumOf 4 = .ok (.iload_n 3, 1) := by decide +kernel
theorem dX1_sumOf_5 : decode cX1_sumOf 5 = .ok (.aload_n 1, 1) := by decide +kernel
theorem dX1_sumOf_6 : decode cX1_sumOf 6 = .ok (.getfield 24, 3) := by decide +kernel
theorem dX1_sumOf_9 : decode cX1_sumOf 9 = .ok (.iconst 4, 1) := by decide +kernel
theorem dX1_sumOf_10 : decode cX1_sumOf 10 = .ok (.imul, 1) := by decide +kernel
theorem dX1_sumOf_11 : decode cX1_sumOf 11 = .ok (.if_icmp .ge 22, 3) := by decide +kernel
theorem dX1_sumOf_14 : decode cX1_sumOf 14 = .ok (.iload_n 2, 1) := by decide +kernel
theorem dX1_sumOf_15 : decode cX1_sumOf 15 = .ok (.aload_n 0, 1) := by decide +kernel
theorem dX1_sumOf_16 : decode cX1_sumOf 16 = .ok (.aload_n 1, 1) := by decide +kernel
theorem dX1_sumOf_17 : decode cX1_sumOf 17 = .ok (.iload_n 3, 1) := by decide +kernel
theorem dX1_sumOf_18 : decode cX1_sumOf 18 = .ok (.invokevirtual 38, 3) := by decide +kernel
theorem dX1_sumOf_21 : decode cX1_sumOf 21 = .ok (.iload_n 3, 1) := by decide +kernel
theorem dX1_sumOf_22 : decode cX1_sumOf 22 = .ok (.iconst 1, 1) := by decide +kernel
theorem dX1_sumOf_23 : decode cX1_sumOf 23 = .ok (.iadd, 1) := by decide +kernel
theorem dX1_sumOf_24 : decode cX1_sumOf 24 = .ok (.imul, 1) := by decide +kernel
theorem dX1_sumOf_25 : decode cX1_sumOf 25 = .ok (.iadd, 1) := by decide +kernel
theorem dX1_sumOf_26 : decode cX1_sumOf 26 = .ok (.istore_n 2, 1) := by decide +kernel
theorem dX1_sumOf_27 : decode cX1_sumOf 27 = .ok (.iinc 3 1, 3) := by decide +kernel
theorem dX1_sumOf_30 : decode cX1_sumOf 30 = .ok (.goto (-26), 3) := by decide +kernel
theorem dX1_sumOf_33 : decode cX1_sumOf 33 = .ok (.iload_n 2, 1) := by decide +kernel
theorem dX1_sumOf_34 : decode cX1_sumOf 34 = .ok (.sipush 9973, 3) := by decide +kernel
theorem dX1_sumOf_37 : decode cX1_sumOf 37 = .ok (.irem, 1) := by decide +kernel
theorem dX1_sumOf_38 : decode cX1_sumOf 38 = .ok (.ireturn, 1) := by decide +kernel
set_option maxRecDepth 20000 in
theorem ggX2_init_X0_init : GoodIn wsX2_init wsX0_init := goodIn_r _ [14, 15, 2, 3, 16, 17, 18, 19, 20] (by decide +kernel) (by decide +kernel)
set_option maxRecDepth 20000 in
theorem gX2_init_X0_init_n11 : GoodIn wsX2_init (wsX0_init) := ggX2_init_X0_init
theorem dX2_init_0 : decode cX2_init 0 = .ok (.aload_n 0, 1) := by decide +kernel
theorem dX2_init_1 : decode cX2_init 1 = .ok (.invokespecial 3, 3) := by decide +kernel
theorem dX2_init_4 : decode cX2_init 4 = .ok (.aload_n 0, 1) := by decide +kernel
theorem dX2_init_5 : decode cX2_init 5 = .ok (.new 9, 3) := by decide +kernel
theorem dX2_init_8 : decode cX2_init 8 = .ok (.dup, 1) := by decide +kernel
theorem dX2_init_9 : decode cX2_init 9 = .ok (.invokespecial 11, 3) := by decide +kernel
theorem dX2_init_12 : decode cX2_init 12 = .ok (.putfield 12, 3) := by decide +kernel
theorem dX2_init_15 : decode cX2_init 15 = .ok (.aload_n 0, 1) := by decide +kernel
theorem dX2_init_16 : decode cX2_init 16 = .ok (.iconst 0, 1) := by decide +kernel
theorem dX2_init_17 : decode cX2_init 17 = .ok (.putfield 18, 3) := by decide +kernel
theorem dX2_init_20 : decode cX2_init 20 = .ok (.aload_n 0, 1) := by decide +kernel
theorem dX2_init_21 : decode cX2_init 21 = .ok (.iconst (-1), 1) := by decide +kernel
theorem dX2_init_22 : decode cX2_init 22 = .ok (.putfield 22, 3) := by decide +kernel
theorem dX2_init_25 : decode cX2_init 25 = .ok (.aload_n 0, 1) := by decide +kernel
theorem dX2_init_26 : decode cX2_init 26 = .ok (.new 9, 3) := by decide +kernel
theorem dX2_init_29 : decode cX2_init 29 = .ok (.dup, 1) := by decide +kernel
theorem dX2_init_30 : decode cX2_init 30 = .ok (.invokespecial 11, 3) := by decide +kernel
theorem dX2_init_33 : decode cX2_init 33 = .ok (.putfield 25, 3) := by decide +kernel
theorem dX2_init_36 : decode cX2_init 36 = .ok (.aload_n 0, 1) := by decide +kernel
theorem dX2_init_37 : decode cX2_init 37 = .ok (.iconst 0, 1) := by decide +kernel
theorem dX2_init_38 : decode cX2_init 38 = .ok (.putfield 28, 3) := by decide +kernel
theorem dX2_init_41 : decode cX2_init 41 = .ok (.aload_n 0, 1) := by decide +kernel
theorem dX2_init_42 : decode cX2_init 42 = .ok (.iload_n 1, 1) := by decide +kernel
theorem dX2_init_43 : decode cX2_init 43 = .ok (.putfield 31, 3) := by decide +kernel
theorem dX2_init_46 : decode cX2_init 46 = .ok (.return_, 1) := by decide +kernel
theorem dX2_isThrown_0 : decode cX2_isThrown 0 = .ok (.aload_n 0, 1) := by decide +kernel
theorem dX2_isThrown_1 : decode cX2_isThrown 1 = .ok (.getfield 22, 3) := by decide +kernel
theorem dX2_isThrown_4 : decode cX2_isThrown 4 = .ok (.iconst (-1), 1) := by decide +kernel
theorem dX2_isThrown_5 : decode cX2_isThrown 5 = .ok (.if_icmp .eq 7, 3) := by decide +kernel
theorem dX2_isThrown_8 : decode cX2_isThrown 8 = .ok (.iconst 1, 1) := by decide +kernel
theorem dX2_isThrown_9 : decode cX2_isThrown 9 = .ok (.goto 4, 3) := by decide +kernel
theorem dX2_isThrown_12 : decode cX2_isThrown 12 = .ok (.iconst 0, 1) := by decide +kernel
theorem dX2_isThrown_13 : decode cX2_isThrown 13 = .ok (.ireturn, 1) := by decide +kernel
theorem dX2_numberByRule_0 : decode cX2_numberByRule 0 = .ok (.aload_n 0, 1) := by decide +kernel
theorem dX2_numberByRule_1 : decode cX2_numberByRule 1 = .ok (.getfield 31, 3) := by decide +kernel
theorem dX2_numberByRule_4 : decode cX2_numberByRule 4 = .ok (.bipush 37, 2) := by decide +kernel
theorem dX2_numberByRule_6 : decode cX2_numberByRule 6 = .ok (.iload_n 1, 1) := by decide +kernel
theorem dX2_numberByRule_7 : decode cX2_numberByRule 7 = .ok (.imul, 1) := by decide +kernel
theorem dX2_numberByRule_8 : decode cX2_numberByRule 8 = .ok (.iadd, 1) := by decide +kernel
theorem dX2_numberByRule_9 : decode cX2_numberByRule 9 = .ok (.sipush 250, 3) := by decide +kernel
theorem dX2_numberByRule_12 : decode cX2_numberByRule 12 = .ok (.irem, 1) := by decide +kernel
theorem dX2_numberByRule_13 : decode cX2_numberByRule 13 = .ok (.ireturn, 1) := by decide +kernel
theorem dX3_init_0 : decode cX3_init 0 = .ok (.aload_n 0, 1) := by decide +kernel
theorem dX3_init_1 : decode cX3_init 1 = .ok (.invokespecial 3, 3) := by decide +kernel
theorem dX3_init_4 : decode cX3_init 4 = .ok (.aload_n 0, 1) := by decide +kernel
theorem dX3_init_5 : decode cX3_init 5 = .ok (.bipush 40, 2) := by decide +kernel
theorem dX3_init_7 : decode cX3_init 7 = .ok (.newarray .int, 2) := by decide +kernel
theorem dX3_init_9 : decode cX3_init 9 = .ok (.putfield 9, 3) := by decide +kernel
theorem dX3_init_12 : decode cX3_init 12 = .ok (.aload_n 0, 1) := by decide +kernel
theorem dX3_init_13 : decode cX3_init 13 = .ok (.bipush 40, 2) := by decide +kernel
theorem dX3_init_15 : decode cX3_init 15 = .ok (.newarray .int, 2) := by decide +kernel
theorem dX3_init_17 : decode cX3_init 17 = .ok (.putfield 15, 3) := by decide +kernel
theorem dX3_init_20 : decode cX3_init 20 = .ok (.aload_n 0, 1) := by decide +kernel
theorem dX3_init_21 : decode cX3_init 21 = .ok (.bipush 40, 2) := by decide +kernel
theorem dX3_init_23 : decode cX3_init 23 = .ok (.newarray .boolean, 2) := by decide +kernel
theorem dX3_init_25 : decode cX3_init 25 = .ok (.putfield 18, 3) := by decide +kernel
theorem dX3_init_28 : decode cX3_init 28 = .ok (.aload_n 0, 1) := by decide +kernel
theorem dX3_init_29 : decode cX3_init 29 = .ok (.bipush 40, 2) := by decide +kernel
theorem dX3_init_31 : decode cX3_init 31 = .ok (.newarray .boolean, 2) := by decide +kernel
theorem dX3_init_33 : decode cX3_init 33 = .ok (.putfield 22, 3) := by decide +kernel
theorem dX3_init_36 : decode cX3_init 36 = .ok (.aload_n 0, 1) := by decide +kernel
theorem dX3_init_37 : decode cX3_init 37 = .ok (.iconst 4, 1) := by decide +kernel
theorem dX3_init_38 : decode cX3_init 38 = .ok (.newarray .int, 2) := by decide +kernel
theorem dX3_init_40 : decode cX3_init 40 = .ok (.putfield 25, 3) := by decide +kernel
theorem dX3_init_43 : decode cX3_init 43 = .ok (.aload_n 0, 1) := by decide +kernel
theorem dX3_init_44 : decode cX3_init 44 = .ok (.iconst 0, 1) := by decide +kernel
theorem dX3_init_45 : decode cX3_init 45 = .ok (.putfield 28, 3) := by decide +kernel
theorem dX3_init_48 : decode cX3_init 48 = .ok (.aload_n 0, 1) := by decide +kernel
theorem dX3_init_49 : decode cX3_init 49 = .ok (.iconst (-1), 1) := by decide +kernel
theorem dX3_init_50 : decode cX3_init 50 = .ok (.putfield 32, 3) := by decide +kernel
theorem dX3_init_53 : decode cX3_init 53 = .ok (.aload_n 0, 1) := by decide +kernel
theorem dX3_init_54 : decode cX3_init 54 = .ok (.iconst 0, 1) := by decide +kernel
theorem dX3_init_55 : decode cX3_init 55 = .ok (.putfield 35, 3) := by decide +kernel
theorem dX3_init_58 : decode cX3_init 58 = .ok (.return_, 1) := by decide +kernel
set_option maxRecDepth 20000 in
theorem ggX3_find_X0_at : GoodIn wsX3_find wsX0_at := goodIn_r _ [8, 9, 10, 46, 47] (by decide +kernel) (by decide +kernel)
set_option maxRecDepth 20000 in
theorem gX3_find_X0_at : GoodIn wsX3_find (wsV RX3 49 RX0 yX0_at wsX0_at) := goodIn_app (goodIn_of _ (by decide +kernel)) ggX3_find_X0_at
set_option maxRecDepth 20000 in
theorem ggX3_find_X1_isFree : GoodIn wsX3_find wsX1_isFree := goodIn_r _ [15, 16, 56, 57] (by decide +kernel) (by decide +kernel)
set_option maxRecDepth 20000 in
theorem gX3_find_X1_isFree : GoodIn wsX3_find (wsV RX3 56 RX1 yX1_isFree wsX1_isFree) := goodIn_app (goodIn_of _ (by decide +kernel)) ggX3_find_X1_isFree
set_option maxRecDepth 20000 in
theorem ggX3_find_X3_weigh : GoodIn wsX3_find wsX3_weigh := goodIn_r _ [21, 22, 23, 24, 25, 26, 27, 28, 14, 29, 30, 11, 12, 13, 15, 16, 48, 49, 50, 51, 52, 53, 54, 55, 56, 57] (by decide +kernel) (by decide +kernel)
set_option maxRecDepth 20000 in
theorem gX3_find_X3_weigh : GoodIn wsX3_find (wsV RX3 62 RX3 yX3_weigh wsX3_weigh) := goodIn_app (goodIn_of _ (by decide +kernel)) ggX3_find_X3_weigh
set_option maxRecDepth 20000 in
theorem ggX3_find_X3_fill : GoodIn wsX3_find wsX3_fill := goodIn_r _ [34, 1, 24, 2, 25, 35, 23, 22, 3, 36, 37, 38, 20, 39, 31, 32, 33, 48, 49, 50, 51, 52, 53, 54, 55] (by decide +kernel) (by decide +kernel)
set_option maxRecDepth 20000 in
theorem gX3_find_X3_fill : GoodIn wsX3_find (wsV RX3 66 RX3 yX3_fill wsX3_fill) := goodIn_app (goodIn_of _ (by decide +kernel)) ggX3_find_X3_fill
theorem dX3_find_0 : decode cX3_find 0 = .ok (.aload_n 0, 1) := by decide +kernel
theorem dX3_find_1 : decode cX3_find 1 = .ok (.aload_n 2, 1) := by decide +kernel
theorem dX3_find_2 : decode cX3_find 2 = .ok (.getfield 38, 3) := by decide +kernel
theorem dX3_find_5 : decode cX3_find 5 = .ok (.getfield 44, 3) := by decide +kernel
theorem dX3_find_8 : decode cX3_find 8 = .ok (.putfield 28, 3) := by decide +kernel
theorem dX3_find_11 : decode cX3_find 11 = .ok (.aload_n 0, 1) := by decide +kernel
theorem dX3_find_12 : decode cX3_find 12 = .ok (.aload_n 2, 1) := by decide +kernel
theorem dX3_find_13 : decode cX3_find 13 = .ok (.getfield 38, 3) := by decide +kernel
theorem dX3_find_16 : decode cX3_find 16 = .ok (.iconst 0, 1) := by decide +kernel
theorem dX3_find_17 : decode cX3_find 17 = .ok (.invokevirtual 49, 3) := by decide +kernel
theorem dX3_find_20 : decode cX3_find 20 = .ok (.putfield 32, 3) := by decide +kernel
theorem dX3_find_23 : decode cX3_find 23 = .ok (.aload_n 0, 1) := by decide +kernel
theorem dX3_find_24 : decode cX3_find 24 = .ok (.aload_n 2, 1) := by decide +kernel
theorem dX3_find_25 : decode cX3_find 25 = .ok (.getfield 53, 3) := by decide +kernel
theorem dX3_find_28 : decode cX3_find 28 = .ok (.putfield 35, 3) := by decide +kernel
theorem dX3_find_31 : decode cX3_find 31 = .ok (.aload_n 0, 1) := by decide +kernel
theorem dX3_find_32 : decode cX3_find 32 = .ok (.getfield 28, 3) := by decide +kernel
theorem dX3_find_35 : decode cX3_find 35 = .ok (.iconst 4, 1) := by decide +kernel
theorem dX3_find_36 : decode cX3_find 36 = .ok (.if_icmp .gt 14, 3) := by decide +kernel
theorem dX3_find_39 : decode cX3_find 39 = .ok (.aload_n 1, 1) := by decide +kernel
theorem dX3_find_40 : decode cX3_find 40 = .ok (.aload_n 0, 1) := by decide +kernel
theorem dX3_find_41 : decode cX3_find 41 = .ok (.getfield 32, 3) := by decide +kernel
theorem dX3_find_44 : decode cX3_find 44 = .ok (.invokevirtual 56, 3) := by decide +kernel
theorem dX3_find_47 : decode cX3_find 47 = .ok (.ifCond .ne 5, 3) := by decide +kernel
theorem dX3_find_50 : decode cX3_find 50 = .ok (.iconst 0, 1) := by decide +kernel
theorem dX3_find_51 : decode cX3_find 51 = .ok (.ireturn, 1) := by decide +kernel
theorem dX3_find_52 : decode cX3_find 52 = .ok (.iconst 0, 1) := by decide +kernel
theorem dX3_find_53 : decode cX3_find 53 = .ok (.istore_n 3, 1) := by decide +kernel
theorem dX3_find_54 : decode cX3_find 54 = .ok (.iload_n 3, 1) := by decide +kernel
theorem dX3_find_55 : decode cX3_find 55 = .ok (.bipush 40, 2) := by decide +kernel
theorem dX3_find_57 : decode cX3_find 57 = .ok (.if_icmp .ge 15, 3) := by decide +kernel
theorem dX3_find_60 : decode cX3_find 60 = .ok (.aload_n 0, 1) := by decide +kernel
theorem dX3_find_61 : decode cX3_find 61 = .ok (.aload_n 1, 1) := by decide +kernel
theorem dX3_find_62 : decode cX3_find 62 = .ok (.iload_n 3, 1) := by decide +kernel
theorem dX3_find_63 : decode cX3_find 63 = .ok (.invokevirtual 62, 3) := by decide +kernel
theorem dX3_find_66 : decode cX3_find 66 = .ok (.iinc 3 1, 3) := by decide +kernel
theorem dX3_find_69 : decode cX3_find 69 = .ok (.goto (-15), 3) := by decide +kernel
theorem dX3_find_72 : decode cX3_find 72 = .ok (.aload_n 0, 1) := by decide +kernel
theorem dX3_find_73 : decode cX3_find 73 = .ok (.iconst 0, 1) := by decide +kernel
theorem dX3_find_74 : decode cX3_find 74 = .ok (.iconst 0, 1) := by decide +kernel
theorem dX3_find_75 : decode cX3_find 75 = .ok (.invokevirtual 66, 3) := by decide +kernel
theorem dX3_find_78 : decode cX3_find 78 = .ok (.ireturn, 1) := by decide +kernel
theorem dX3_clusterFoundAt_0 : decode cX3_clusterFoundAt 0 = .ok (.iload_n 1, 1) := by decide +kernel
theorem dX3_clusterFoundAt_1 : decode cX3_clusterFoundAt 1 = .ok (.ifCond .lt 21, 3) := by decide +kernel
theorem dX3_clusterFoundAt_4 : decode cX3_clusterFoundAt 4 = .ok (.iload_n 1, 1) := by decide +kernel
theorem dX3_clusterFoundAt_5 : decode cX3_clusterFoundAt 5 = .ok (.aload_n 0, 1) := by decide +kernel
theorem dX3_clusterFoundAt_6 : decode cX3_clusterFoundAt 6 = .ok (.getfield 25, 3) := by decide +kernel
theorem dX3_clusterFoundAt_9 : decode cX3_clusterFoundAt 9 = .ok (.arraylength, 1) := by decide +kernel
theorem dX3_clusterFoundAt_10 : decode cX3_clusterFoundAt 10 = .ok (.if_icmp .ge 12, 3) := by decide +kernel
theorem dX3_clusterFoundAt_13 : decode cX3_clusterFoundAt 13 = .ok (.aload_n 0, 1) := by decide +kernel
theorem dX3_clusterFoundAt_14 : decode cX3_clusterFoundAt 14 = .ok (.getfield 25, 3) := by decide +kernel
theorem dX3_clusterFoundAt_17 : decode cX3_clusterFoundAt 17 = .ok (.iload_n 1, 1) := by decide +kernel
theorem dX3_clusterFoundAt_18 : decode cX3_clusterFoundAt 18 = .ok (.iaload, 1) := by decide +kernel
theorem dX3_clusterFoundAt_19 : decode cX3_clusterFoundAt 19 = .ok (.goto 4, 3) := by decide +kernel
theorem dX3_clusterFoundAt_22 : decode cX3_clusterFoundAt 22 = .ok (.iconst (-1), 1) := by decide +kernel
theorem dX3_clusterFoundAt_23 : decode cX3_clusterFoundAt 23 = .ok (.ireturn, 1) := by decide +kernel
set_option maxRecDepth 20000 in
theorem ggX3_weigh_X1_read : GoodIn wsX3_weigh wsX1_read := goodIn_r _ [9, 10, 24, 25] (by decide +kernel) (by decide +kernel)
set_option maxRecDepth 20000 in
theorem gX3_weigh_X1_read : GoodIn wsX3_weigh (wsV RX3 70 RX1 yX1_read wsX1_read) := goodIn_app (goodIn_of _ (by decide +kernel)) ggX3_weigh_X1_read
set_option maxRecDepth 20000 in
theorem ggX3_weigh_X1_isFree : GoodIn wsX3_weigh wsX1_isFree := goodIn_r _ [14, 15, 24, 25] (by decide +kernel) (by decide +kernel)
set_option maxRecDepth 20000 in
theorem gX3_weigh_X1_isFree : GoodIn wsX3_weigh (wsV RX3 56 RX1 yX1_isFree wsX1_isFree) := goodIn_app (goodIn_of _ (by decide +kernel)) ggX3_weigh_X1_isFree
theorem dX3_weigh_0 : decode cX3_weigh 0 = .ok (.iconst 0, 1) := by decide +kernel
theorem dX3_weigh_1 : decode cX3_weigh 1 = .ok (.istore_n 3, 1) := by decide +kernel
theorem dX3_weigh_2 : decode cX3_weigh 2 = .ok (.iconst 0, 1) := by decide +kernel
theorem dX3_weigh_3 : decode cX3_weigh 3 = .ok (.istore 4, 2) := by decide +kernel
theorem dX3_weigh_5 : decode cX3_weigh 5 = .ok (.iconst 0, 1) := by decide +kernel
theorem dX3_weigh_6 : decode cX3_weigh 6 = .ok (.istore 5, 2) := by decide +kernel
theorem dX3_weigh_8 : decode cX3_weigh 8 = .ok (.iload 5, 2) := by decide +kernel
theorem dX3_weigh_10 : decode cX3_weigh 10 = .ok (.iconst 4, 1) := by decide +kernel
theorem dX3_weigh_11 : decode cX3_weigh 11 = .ok (.if_icmp .ge 35, 3) := by decide +kernel
theorem dX3_weigh_14 : decode cX3_weigh 14 = .ok (.aload_n 1, 1) := by decide +kernel
theorem dX3_weigh_15 : decode cX3_weigh 15 = .ok (.iload_n 2, 1) := by decide +kernel
theorem dX3_weigh_16 : decode cX3_weigh 16 = .ok (.iload 5, 2) := by decide +kernel
theorem dX3_weigh_18 : decode cX3_weigh 18 = .ok (.invokevirtual 70, 3) := by decide +kernel
theorem dX3_weigh_21 : decode cX3_weigh 21 = .ok (.istore 6, 2) := by decide +kernel
theorem dX3_weigh_23 : decode cX3_weigh 23 = .ok (.iload_n 3, 1) := by decide +kernel
theorem dX3_weigh_24 : decode cX3_weigh 24 = .ok (.iload 6, 2) := by decide +kernel
theorem dX3_weigh_26 : decode cX3_weigh 26 = .ok (.iadd, 1) := by decide +kernel
theorem dX3_weigh_27 : decode cX3_weigh 27 = .ok (.istore_n 3, 1) := by decide +kernel
theorem dX3_weigh_28 : decode cX3_weigh 28 = .ok (.iload 4, 2) := by decide +kernel
theorem dX3_weigh_30 : decode cX3_weigh 30 = .ok (.iload 6, 2) := by decide +kernel
theorem dX3_weigh_32 : decode cX3_weigh 32 = .ok (.iload 5, 2) := by decide +kernel
theorem dX3_weigh_34 : decode cX3_weigh 34 = .ok (.iconst 1, 1) := by decide +kernel
theorem dX3_weigh_35 : decode cX3_weigh 35 = .ok (.iadd, 1) := by decide +kernel
theorem dX3_weigh_36 : decode cX3_weigh 36 = .ok (.imul, 1) := by decide +kernel
theorem dX3_weigh_37 : decode cX3_weigh 37 = .ok (.iadd, 1) := by decide +kernel
theorem dX3_weigh_38 : decode cX3_weigh 38 = .ok (.istore 4, 2) := by decide +kernel
theorem dX3_weigh_40 : decode cX3_weigh 40 = .ok (.iinc 5 1, 3) := by decide +kernel
theorem dX3_weigh_43 : decode cX3_weigh 43 = .ok (.goto (-35), 3) := by decide +kernel
theorem dX3_weigh_46 : decode cX3_weigh 46 = .ok (.iload_n 2, 1) := by decide +kernel
theorem dX3_weigh_47 : decode cX3_weigh 47 = .ok (.ifCond .lt 58, 3) := by decide +kernel
theorem dX3_weigh_50 : decode cX3_weigh 50 = .ok (.iload_n 2, 1) := by decide +kernel
theorem dX3_weigh_51 : decode cX3_weigh 51 = .ok (.bipush 40, 2) := by decide +kernel
theorem dX3_weigh_53 : decode cX3_weigh 53 = .ok (.if_icmp .ge 52, 3) := by decide +kernel
theorem dX3_weigh_56 : decode cX3_weigh 56 = .ok (.aload_n 0, 1) := by decide +kernel
theorem dX3_weigh_57 : decode cX3_weigh 57 = .ok (.getfield 9, 3) := by decide +kernel
theorem dX3_weigh_60 : decode cX3_weigh 60 = .ok (.iload_n 2, 1) := by decide +kernel
theorem dX3_weigh_61 : decode cX3_weigh 61 = .ok (.iload_n 3, 1) := by decide +kernel
theorem dX3_weigh_62 : decode cX3_weigh 62 = .ok (.iastore, 1) := by decide +kernel
theorem dX3_weigh_63 : decode cX3_weigh 63 = .ok (.aload_n 0, 1) := by decide +kernel
theorem dX3_weigh_64 : decode cX3_weigh 64 = .ok (.getfield 15, 3) := by decide +kernel
theorem dX3_weigh_67 : decode cX3_weigh 67 = .ok (.iload_n 2, 1) := by decide +kernel
theorem dX3_weigh_68 : decode cX3_weigh 68 = .ok (.iload 4, 2) := by decide +kernel
theorem dX3_weigh_70 : decode cX3_weigh 70 = .ok (.iastore, 1) := by decide +kernel
theorem dX3_weigh_71 : decode cX3_weigh 71 = .ok (.aload_n 0, 1) := by decide +kernel
theorem dX3_weigh_72 : decode cX3_weigh 72 = .ok (.getfield 18, 3) := by decide +kernel
theorem dX3_weigh_75 : decode cX3_weigh 75 = .ok (.iload_n 2, 1) := by decide +kernel
theorem dX3_weigh_76 : decode cX3_weigh 76 = .ok (.aload_n 1, 1) := by decide +kernel
theorem dX3_weigh_77 : decode cX3_weigh 77 = .ok (.iload_n 2, 1) := by decide +kernel
theorem dX3_weigh_78 : decode cX3_weigh 78 = .ok (.invokevirtual 56, 3) := by decide +kernel
theorem dX3_weigh_81 : decode cX3_weigh 81 = .ok (.bastore, 1) := by decide +kernel
theorem dX3_weigh_82 : decode cX3_weigh 82 = .ok (.aload_n 0, 1) := by decide +kernel
theorem dX3_weigh_83 : decode cX3_weigh 83 = .ok (.getfield 22, 3) := by decide +kernel
theorem dX3_weigh_86 : decode cX3_weigh 86 = .ok (.iload_n 2, 1) := by decide +kernel
theorem dX3_weigh_87 : decode cX3_weigh 87 = .ok (.aload_n 1, 1) := by decide +kernel
theorem dX3_weigh_88 : decode cX3_weigh 88 = .ok (.iload_n 2, 1) := by decide +kernel
theorem dX3_weigh_89 : decode cX3_weigh 89 = .ok (.iconst 3, 1) := by decide +kernel
theorem dX3_weigh_90 : decode cX3_weigh 90 = .ok (.invokevirtual 70, 3) := by decide +kernel
theorem dX3_weigh_93 : decode cX3_weigh 93 = .ok (.sipush 254, 3) := by decide +kernel
theorem dX3_weigh_96 : decode cX3_weigh 96 = .ok (.if_icmp .ne 7, 3) := by decide +kernel
theorem dX3_weigh_99 : decode cX3_weigh 99 = .ok (.iconst 1, 1) := by decide +kernel
theorem dX3_weigh_100 : decode cX3_weigh 100 = .ok (.goto 4, 3) := by decide +kernel
theorem dX3_weigh_103 : decode cX3_weigh 103 = .ok (.iconst 0, 1) := by decide +kernel
theorem dX3_weigh_104 : decode cX3_weigh 104 = .ok (.bastore, 1) := by decide +kernel
theorem dX3_weigh_105 : decode cX3_weigh 105 = .ok (.return_, 1) := by decide +kernel
set_option maxRecDepth 20000 in
theorem ggX3_fill_X3_goesOn : GoodIn wsX3_fill wsX3_goesOn := goodIn_r _ [13, 2, 14, 15, 16, 12, 0, 1, 3, 4, 5, 6, 7, 8, 9, 10, 11, 17, 18, 19, 20, 21, 22, 23, 24] (by decide +kernel) (by decide +kernel)
set_option maxRecDepth 20000 in
theorem gX3_fill_X3_goesOn : GoodIn wsX3_fill (wsV RX3 74 RX3 yX3_goesOn wsX3_goesOn) := goodIn_app (goodIn_of _ (by decide +kernel)) ggX3_fill_X3_goesOn
theorem dX3_fill_0 : decode cX3_fill 0 = .ok (.iload_n 1, 1) := by decide +kernel
theorem dX3_fill_1 : decode cX3_fill 1 = .ok (.ifCond .lt 16, 3) := by decide +kernel
theorem dX3_fill_4 : decode cX3_fill 4 = .ok (.iload_n 1, 1) := by decide +kernel
theorem dX3_fill_5 : decode cX3_fill 5 = .ok (.iconst 4, 1) := by decide +kernel
theorem dX3_fill_6 : decode cX3_fill 6 = .ok (.if_icmp .ge 11, 3) := by decide +kernel
theorem dX3_fill_9 : decode cX3_fill 9 = .ok (.iload_n 1, 1) := by decide +kernel
theorem dX3_fill_10 : decode cX3_fill 10 = .ok (.aload_n 0, 1) := by decide +kernel
theorem dX3_fill_11 : decode cX3_fill 11 = .ok (.getfield 28, 3) := by decide +kernel
theorem dX3_fill_14 : decode cX3_fill 14 = .ok (.if_icmp .lt 5, 3) := by decide +kernel
theorem dX3_fill_17 : decode cX3_fill 17 = .ok (.iconst 0, 1) := by decide +kernel
theorem dX3_fill_18 : decode cX3_fill 18 = .ok (.ireturn, 1) := by decide +kernel
theorem dX3_fill_19 : decode cX3_fill 19 = .ok (.iload_n 1, 1) := by decide +kernel
theorem dX3_fill_20 : decode cX3_fill 20 = .ok (.aload_n 0, 1) := by decide +kernel
