theorem dX10_childNow_59 : decode cX10_childNow 59 = .ok (.aload_n 0, 1) := by decide +kernel
theorem dX10_childNow_60 : decode cX10_childNow 60 = .ok (.getfield 22, 3) := by decide +kernel
theorem dX10_childNow_63 : decode cX10_childNow 63 = .ok (.iload_n 1, 1) := by decide +kernel
theorem dX10_childNow_64 : decode cX10_childNow 64 = .ok (.iaload, 1) := by decide +kernel
theorem dX10_childNow_65 : decode cX10_childNow 65 = .ok (.ireturn, 1) := by decide +kernel
set_option maxRecDepth 20000 in
theorem ggX10_about_X10_isChild : GoodIn wsX10_about wsX10_isChild := goodIn_r _ [5, 6, 7, 8, 4, 9, 23, 24, 25, 26, 27, 28, 29, 30, 31, 32, 33, 34, 35, 36, 37, 38, 39, 40, 41, 42, 43, 44, 45, 46, 47] (by decide +kernel) (by decide +kernel)
set_option maxRecDepth 20000 in
theorem gX10_about_X10_isChild : GoodIn wsX10_about (wsV RX10 88 RX10 yX10_isChild wsX10_isChild) := goodIn_app (goodIn_of _ (by decide +kernel)) ggX10_about_X10_isChild
set_option maxRecDepth 20000 in
theorem ggX10_about_X10_within : GoodIn wsX10_about wsX10_within := goodIn_r _ [9] (by decide +kernel) (by decide +kernel)
set_option maxRecDepth 20000 in
theorem gX10_about_X10_within : GoodIn wsX10_about (va_wsS RX10 53 yX10_within wsX10_within) := goodIn_app (goodIn_of _ (by decide +kernel)) ggX10_about_X10_within
set_option maxRecDepth 20000 in
theorem ggX10_about_X10_childNow : GoodIn wsX10_about wsX10_childNow := goodIn_r _ [13, 14, 15, 16, 17, 18, 19, 20, 4, 21, 22, 23, 24, 25, 26, 27, 28, 29, 30, 31, 32, 33, 34, 35, 36, 37, 38, 39, 40, 41, 42, 43, 44, 45, 46, 47] (by decide +kernel) (by decide +kernel)
set_option maxRecDepth 20000 in
theorem gX10_about_X10_childNow : GoodIn wsX10_about (wsV RX10 91 RX10 yX10_childNow wsX10_childNow) := goodIn_app (goodIn_of _ (by decide +kernel)) ggX10_about_X10_childNow
theorem dX10_about_0 : decode cX10_about 0 = .ok (.aload_n 0, 1) := by decide +kernel
theorem dX10_about_1 : decode cX10_about 1 = .ok (.iload_n 1, 1) := by decide +kernel
theorem dX10_about_2 : decode cX10_about 2 = .ok (.invokevirtual 88, 3) := by decide +kernel
theorem dX10_about_5 : decode cX10_about 5 = .ok (.ifCond .ne 8, 3) := by decide +kernel
theorem dX10_about_8 : decode cX10_about 8 = .ok (.bipush (-101), 2) := by decide +kernel
theorem dX10_about_10 : decode cX10_about 10 = .ok (.goto 23, 3) := by decide +kernel
theorem dX10_about_13 : decode cX10_about 13 = .ok (.iload_n 2, 1) := by decide +kernel
theorem dX10_about_14 : decode cX10_about 14 = .ok (.iconst 0, 1) := by decide +kernel
theorem dX10_about_15 : decode cX10_about 15 = .ok (.iconst 4, 1) := by decide +kernel
theorem dX10_about_16 : decode cX10_about 16 = .ok (.invokestatic 53, 3) := by decide +kernel
theorem dX10_about_19 : decode cX10_about 19 = .ok (.ifCond .eq 12, 3) := by decide +kernel
theorem dX10_about_22 : decode cX10_about 22 = .ok (.aload_n 0, 1) := by decide +kernel
theorem dX10_about_23 : decode cX10_about 23 = .ok (.iload_n 1, 1) := by decide +kernel
theorem dX10_about_24 : decode cX10_about 24 = .ok (.iload_n 2, 1) := by decide +kernel
theorem dX10_about_25 : decode cX10_about 25 = .ok (.invokevirtual 91, 3) := by decide +kernel
theorem dX10_about_28 : decode cX10_about 28 = .ok (.goto 5, 3) := by decide +kernel
theorem dX10_about_31 : decode cX10_about 31 = .ok (.bipush (-102), 2) := by decide +kernel
theorem dX10_about_33 : decode cX10_about 33 = .ok (.ireturn, 1) := by decide +kernel
set_option maxRecDepth 20000 in
theorem ggX10_as_X10_isChild : GoodIn wsX10_as wsX10_isChild := goodIn_r _ [6, 7, 8, 9, 5, 10, 11, 12, 13, 14, 15, 16, 17, 18, 19, 20, 21, 22, 23, 24, 25, 26, 27, 28, 29, 30, 31, 32, 33, 34, 35] (by decide +kernel) (by decide +kernel)
set_option maxRecDepth 20000 in
theorem gX10_as_X10_isChild : GoodIn wsX10_as (wsV RX10 88 RX10 yX10_isChild wsX10_isChild) := goodIn_app (goodIn_of _ (by decide +kernel)) ggX10_as_X10_isChild
set_option maxRecDepth 20000 in
theorem ggX10_as_X10_within : GoodIn wsX10_as wsX10_within := goodIn_r _ [10] (by decide +kernel) (by decide +kernel)
set_option maxRecDepth 20000 in
theorem gX10_as_X10_within : GoodIn wsX10_as (va_wsS RX10 53 yX10_within wsX10_within) := goodIn_app (goodIn_of _ (by decide +kernel)) ggX10_as_X10_within
theorem dX10_as_0 : decode cX10_as 0 = .ok (.aload_n 0, 1) := by decide +kernel
theorem dX10_as_1 : decode cX10_as 1 = .ok (.iload_n 1, 1) := by decide +kernel
theorem dX10_as_2 : decode cX10_as 2 = .ok (.invokevirtual 88, 3) := by decide +kernel
theorem dX10_as_5 : decode cX10_as 5 = .ok (.ifCond .ne 6, 3) := by decide +kernel
theorem dX10_as_8 : decode cX10_as 8 = .ok (.bipush (-101), 2) := by decide +kernel
theorem dX10_as_10 : decode cX10_as 10 = .ok (.ireturn, 1) := by decide +kernel
theorem dX10_as_11 : decode cX10_as 11 = .ok (.iload_n 2, 1) := by decide +kernel
theorem dX10_as_12 : decode cX10_as 12 = .ok (.iconst 0, 1) := by decide +kernel
theorem dX10_as_13 : decode cX10_as 13 = .ok (.iconst 4, 1) := by decide +kernel
theorem dX10_as_14 : decode cX10_as 14 = .ok (.invokestatic 53, 3) := by decide +kernel
theorem dX10_as_17 : decode cX10_as 17 = .ok (.ifCond .ne 6, 3) := by decide +kernel
theorem dX10_as_20 : decode cX10_as 20 = .ok (.bipush (-102), 2) := by decide +kernel
theorem dX10_as_22 : decode cX10_as 22 = .ok (.ireturn, 1) := by decide +kernel
theorem dX10_as_23 : decode cX10_as 23 = .ok (.aload_n 0, 1) := by decide +kernel
theorem dX10_as_24 : decode cX10_as 24 = .ok (.getfield 13, 3) := by decide +kernel
theorem dX10_as_27 : decode cX10_as 27 = .ok (.iload_n 1, 1) := by decide +kernel
theorem dX10_as_28 : decode cX10_as 28 = .ok (.iaload, 1) := by decide +kernel
theorem dX10_as_29 : decode cX10_as 29 = .ok (.istore_n 3, 1) := by decide +kernel
theorem dX10_as_30 : decode cX10_as 30 = .ok (.iload_n 2, 1) := by decide +kernel
theorem dX10_as_31 : decode cX10_as 31 = .ok (.ifCond .eq 18, 3) := by decide +kernel
theorem dX10_as_34 : decode cX10_as 34 = .ok (.iload_n 3, 1) := by decide +kernel
theorem dX10_as_35 : decode cX10_as 35 = .ok (.iload_n 2, 1) := by decide +kernel
theorem dX10_as_36 : decode cX10_as 36 = .ok (.if_icmp .eq 13, 3) := by decide +kernel
theorem dX10_as_39 : decode cX10_as 39 = .ok (.iload_n 2, 1) := by decide +kernel
theorem dX10_as_40 : decode cX10_as 40 = .ok (.iconst 3, 1) := by decide +kernel
theorem dX10_as_41 : decode cX10_as 41 = .ok (.if_icmp .ne 12, 3) := by decide +kernel
theorem dX10_as_44 : decode cX10_as 44 = .ok (.iload_n 3, 1) := by decide +kernel
theorem dX10_as_45 : decode cX10_as 45 = .ok (.iconst 4, 1) := by decide +kernel
theorem dX10_as_46 : decode cX10_as 46 = .ok (.if_icmp .ne 7, 3) := by decide +kernel
theorem dX10_as_49 : decode cX10_as 49 = .ok (.iload_n 1, 1) := by decide +kernel
theorem dX10_as_50 : decode cX10_as 50 = .ok (.goto 4, 3) := by decide +kernel
theorem dX10_as_53 : decode cX10_as 53 = .ok (.iconst (-1), 1) := by decide +kernel
theorem dX10_as_54 : decode cX10_as 54 = .ok (.ireturn, 1) := by decide +kernel
set_option maxRecDepth 20000 in
theorem ggX10_seat_X10_isChild : GoodIn wsX10_seat wsX10_isChild := goodIn_r _ [6, 7, 8, 9, 5, 10, 11, 12, 13, 14, 15, 16, 17, 18, 19, 20, 21, 22, 23, 24, 25, 26, 27, 28, 29, 30, 31, 32, 33, 34, 35] (by decide +kernel) (by decide +kernel)
set_option maxRecDepth 20000 in
theorem gX10_seat_X10_isChild : GoodIn wsX10_seat (wsV RX10 88 RX10 yX10_isChild wsX10_isChild) := goodIn_app (goodIn_of _ (by decide +kernel)) ggX10_seat_X10_isChild
theorem dX10_seat_0 : decode cX10_seat 0 = .ok (.aload_n 0, 1) := by decide +kernel
theorem dX10_seat_1 : decode cX10_seat 1 = .ok (.iload_n 1, 1) := by decide +kernel
theorem dX10_seat_2 : decode cX10_seat 2 = .ok (.invokevirtual 88, 3) := by decide +kernel
theorem dX10_seat_5 : decode cX10_seat 5 = .ok (.ifCond .eq 12, 3) := by decide +kernel
theorem dX10_seat_8 : decode cX10_seat 8 = .ok (.aload_n 0, 1) := by decide +kernel
theorem dX10_seat_9 : decode cX10_seat 9 = .ok (.getfield 31, 3) := by decide +kernel
theorem dX10_seat_12 : decode cX10_seat 12 = .ok (.iload_n 1, 1) := by decide +kernel
theorem dX10_seat_13 : decode cX10_seat 13 = .ok (.iaload, 1) := by decide +kernel
theorem dX10_seat_14 : decode cX10_seat 14 = .ok (.goto 5, 3) := by decide +kernel
theorem dX10_seat_17 : decode cX10_seat 17 = .ok (.bipush (-101), 2) := by decide +kernel
theorem dX10_seat_19 : decode cX10_seat 19 = .ok (.ireturn, 1) := by decide +kernel
theorem dX10_change_0 : decode cX10_change 0 = .ok (.aload_n 0, 1) := by decide +kernel
theorem dX10_change_1 : decode cX10_change 1 = .ok (.getfield 16, 3) := by decide +kernel
theorem dX10_change_4 : decode cX10_change 4 = .ok (.iload_n 1, 1) := by decide +kernel
theorem dX10_change_5 : decode cX10_change 5 = .ok (.iaload, 1) := by decide +kernel
theorem dX10_change_6 : decode cX10_change 6 = .ok (.istore_n 3, 1) := by decide +kernel
theorem dX10_change_7 : decode cX10_change 7 = .ok (.aload_n 0, 1) := by decide +kernel
theorem dX10_change_8 : decode cX10_change 8 = .ok (.getfield 16, 3) := by decide +kernel
theorem dX10_change_11 : decode cX10_change 11 = .ok (.iload_n 1, 1) := by decide +kernel
theorem dX10_change_12 : decode cX10_change 12 = .ok (.aload_n 0, 1) := by decide +kernel
theorem dX10_change_13 : decode cX10_change 13 = .ok (.getfield 16, 3) := by decide +kernel
theorem dX10_change_16 : decode cX10_change 16 = .ok (.iload_n 2, 1) := by decide +kernel
theorem dX10_change_17 : decode cX10_change 17 = .ok (.iaload, 1) := by decide +kernel
theorem dX10_change_18 : decode cX10_change 18 = .ok (.iastore, 1) := by decide +kernel
theorem dX10_change_19 : decode cX10_change 19 = .ok (.aload_n 0, 1) := by decide +kernel
theorem dX10_change_20 : decode cX10_change 20 = .ok (.getfield 16, 3) := by decide +kernel
theorem dX10_change_23 : decode cX10_change 23 = .ok (.iload_n 2, 1) := by decide +kernel
theorem dX10_change_24 : decode cX10_change 24 = .ok (.iload_n 3, 1) := by decide +kernel
theorem dX10_change_25 : decode cX10_change 25 = .ok (.iastore, 1) := by decide +kernel
theorem dX10_change_26 : decode cX10_change 26 = .ok (.aload_n 0, 1) := by decide +kernel
theorem dX10_change_27 : decode cX10_change 27 = .ok (.getfield 31, 3) := by decide +kernel
theorem dX10_change_30 : decode cX10_change 30 = .ok (.aload_n 0, 1) := by decide +kernel
theorem dX10_change_31 : decode cX10_change 31 = .ok (.getfield 16, 3) := by decide +kernel
theorem dX10_change_34 : decode cX10_change 34 = .ok (.iload_n 1, 1) := by decide +kernel
theorem dX10_change_35 : decode cX10_change 35 = .ok (.iaload, 1) := by decide +kernel
theorem dX10_change_36 : decode cX10_change 36 = .ok (.iload_n 1, 1) := by decide +kernel
theorem dX10_change_37 : decode cX10_change 37 = .ok (.iastore, 1) := by decide +kernel
theorem dX10_change_38 : decode cX10_change 38 = .ok (.aload_n 0, 1) := by decide +kernel
theorem dX10_change_39 : decode cX10_change 39 = .ok (.getfield 31, 3) := by decide +kernel
theorem dX10_change_42 : decode cX10_change 42 = .ok (.aload_n 0, 1) := by decide +kernel
theorem dX10_change_43 : decode cX10_change 43 = .ok (.getfield 16, 3) := by decide +kernel
theorem dX10_change_46 : decode cX10_change 46 = .ok (.iload_n 2, 1) := by decide +kernel
theorem dX10_change_47 : decode cX10_change 47 = .ok (.iaload, 1) := by decide +kernel
theorem dX10_change_48 : decode cX10_change 48 = .ok (.iload_n 2, 1) := by decide +kernel
theorem dX10_change_49 : decode cX10_change 49 = .ok (.iastore, 1) := by decide +kernel
theorem dX10_change_50 : decode cX10_change 50 = .ok (.return_, 1) := by decide +kernel
set_option maxRecDepth 20000 in
theorem ggX10_swap_X10_isChild : GoodIn wsX10_swap wsX10_isChild := goodIn_r _ [6, 7, 8, 9, 5, 10, 16, 17, 18, 19, 20, 21, 22, 23, 24, 25, 26, 27, 28, 29, 30, 31, 32, 33, 34, 35, 36, 37, 38, 39, 40] (by decide +kernel) (by decide +kernel)
set_option maxRecDepth 20000 in
theorem gX10_swap_X10_isChild : GoodIn wsX10_swap (wsV RX10 88 RX10 yX10_isChild wsX10_isChild) := goodIn_app (goodIn_of _ (by decide +kernel)) ggX10_swap_X10_isChild
set_option maxRecDepth 20000 in
theorem ggX10_swap_X10_change : GoodIn wsX10_swap wsX10_change := goodIn_r _ [14, 1, 15, 16, 17, 18, 19, 20, 21, 22, 23, 24, 25, 26, 27, 28, 29, 30, 31, 32, 33, 34, 35, 36, 37, 38, 39, 40] (by decide +kernel) (by decide +kernel)
set_option maxRecDepth 20000 in
theorem gX10_swap_X10_change : GoodIn wsX10_swap (wsV RX10 95 RX10 yX10_change wsX10_change) := goodIn_app (goodIn_of _ (by decide +kernel)) ggX10_swap_X10_change
theorem dX10_swap_0 : decode cX10_swap 0 = .ok (.aload_n 0, 1) := by decide +kernel
theorem dX10_swap_1 : decode cX10_swap 1 = .ok (.iload_n 1, 1) := by decide +kernel
theorem dX10_swap_2 : decode cX10_swap 2 = .ok (.invokevirtual 88, 3) := by decide +kernel
theorem dX10_swap_5 : decode cX10_swap 5 = .ok (.ifCond .eq 11, 3) := by decide +kernel
theorem dX10_swap_8 : decode cX10_swap 8 = .ok (.aload_n 0, 1) := by decide +kernel
theorem dX10_swap_9 : decode cX10_swap 9 = .ok (.iload_n 2, 1) := by decide +kernel
theorem dX10_swap_10 : decode cX10_swap 10 = .ok (.invokevirtual 88, 3) := by decide +kernel
theorem dX10_swap_13 : decode cX10_swap 13 = .ok (.ifCond .ne 6, 3) := by decide +kernel
theorem dX10_swap_16 : decode cX10_swap 16 = .ok (.bipush (-101), 2) := by decide +kernel
theorem dX10_swap_18 : decode cX10_swap 18 = .ok (.ireturn, 1) := by decide +kernel
theorem dX10_swap_19 : decode cX10_swap 19 = .ok (.aload_n 0, 1) := by decide +kernel
theorem dX10_swap_20 : decode cX10_swap 20 = .ok (.iload_n 1, 1) := by decide +kernel
theorem dX10_swap_21 : decode cX10_swap 21 = .ok (.iload_n 2, 1) := by decide +kernel
theorem dX10_swap_22 : decode cX10_swap 22 = .ok (.invokevirtual 95, 3) := by decide +kernel
theorem dX10_swap_25 : decode cX10_swap 25 = .ok (.aload_n 0, 1) := by decide +kernel
theorem dX10_swap_26 : decode cX10_swap 26 = .ok (.getfield 16, 3) := by decide +kernel
theorem dX10_swap_29 : decode cX10_swap 29 = .ok (.iload_n 2, 1) := by decide +kernel
theorem dX10_swap_30 : decode cX10_swap 30 = .ok (.iaload, 1) := by decide +kernel
theorem dX10_swap_31 : decode cX10_swap 31 = .ok (.ireturn, 1) := by decide +kernel
set_option maxRecDepth 20000 in
theorem ggX10_ill_X10_isChild : GoodIn wsX10_ill wsX10_isChild := goodIn_r _ [6, 7, 8, 9, 5, 10, 11, 12, 13, 14, 15, 16, 17, 18, 19, 20, 21, 22, 23, 24, 25, 26, 27, 28, 29, 30, 31, 32, 33, 34, 35] (by decide +kernel) (by decide +kernel)
set_option maxRecDepth 20000 in
theorem gX10_ill_X10_isChild : GoodIn wsX10_ill (wsV RX10 88 RX10 yX10_isChild wsX10_isChild) := goodIn_app (goodIn_of _ (by decide +kernel)) ggX10_ill_X10_isChild
theorem dX10_ill_0 : decode cX10_ill 0 = .ok (.aload_n 0, 1) := by decide +kernel
theorem dX10_ill_1 : decode cX10_ill 1 = .ok (.iload_n 1, 1) := by decide +kernel
theorem dX10_ill_2 : decode cX10_ill 2 = .ok (.invokevirtual 88, 3) := by decide +kernel
theorem dX10_ill_5 : decode cX10_ill 5 = .ok (.ifCond .ne 6, 3) := by decide +kernel
theorem dX10_ill_8 : decode cX10_ill 8 = .ok (.bipush (-101), 2) := by decide +kernel
theorem dX10_ill_10 : decode cX10_ill 10 = .ok (.ireturn, 1) := by decide +kernel
theorem dX10_ill_11 : decode cX10_ill 11 = .ok (.aload_n 0, 1) := by decide +kernel
theorem dX10_ill_12 : decode cX10_ill 12 = .ok (.getfield 19, 3) := by decide +kernel
theorem dX10_ill_15 : decode cX10_ill 15 = .ok (.iload_n 1, 1) := by decide +kernel
theorem dX10_ill_16 : decode cX10_ill 16 = .ok (.iaload, 1) := by decide +kernel
theorem dX10_ill_17 : decode cX10_ill 17 = .ok (.istore_n 3, 1) := by decide +kernel
theorem dX10_ill_18 : decode cX10_ill 18 = .ok (.aload_n 0, 1) := by decide +kernel
theorem dX10_ill_19 : decode cX10_ill 19 = .ok (.getfield 19, 3) := by decide +kernel
theorem dX10_ill_22 : decode cX10_ill 22 = .ok (.iload_n 1, 1) := by decide +kernel
theorem dX10_ill_23 : decode cX10_ill 23 = .ok (.iload_n 2, 1) := by decide +kernel
theorem dX10_ill_24 : decode cX10_ill 24 = .ok (.ifCond .eq 7, 3) := by decide +kernel
theorem dX10_ill_27 : decode cX10_ill 27 = .ok (.iconst 1, 1) := by decide +kernel
theorem dX10_ill_28 : decode cX10_ill 28 = .ok (.goto 4, 3) := by decide +kernel
theorem dX10_ill_31 : decode cX10_ill 31 = .ok (.iconst 0, 1) := by decide +kernel
theorem dX10_ill_32 : decode cX10_ill 32 = .ok (.iastore, 1) := by decide +kernel
theorem dX10_ill_33 : decode cX10_ill 33 = .ok (.iload_n 3, 1) := by decide +kernel
theorem dX10_ill_34 : decode cX10_ill 34 = .ok (.ireturn, 1) := by decide +kernel
theorem dX10_knowsNow_0 : decode cX10_knowsNow 0 = .ok (.iload_n 3, 1) := by decide +kernel
theorem dX10_knowsNow_1 : decode cX10_knowsNow 1 = .ok (.ifCond .ne 16, 3) := by decide +kernel
theorem dX10_knowsNow_4 : decode cX10_knowsNow 4 = .ok (.aload_n 0, 1) := by decide +kernel
theorem dX10_knowsNow_5 : decode cX10_knowsNow 5 = .ok (.getfield 25, 3) := by decide +kernel
theorem dX10_knowsNow_8 : decode cX10_knowsNow 8 = .ok (.iconst 4, 1) := by decide +kernel
theorem dX10_knowsNow_9 : decode cX10_knowsNow 9 = .ok (.iload_n 1, 1) := by decide +kernel
theorem dX10_knowsNow_10 : decode cX10_knowsNow 10 = .ok (.imul, 1) := by decide +kernel
theorem dX10_knowsNow_11 : decode cX10_knowsNow 11 = .ok (.iload_n 2, 1) := by decide +kernel
theorem dX10_knowsNow_12 : decode cX10_knowsNow 12 = .ok (.iadd, 1) := by decide +kernel
theorem dX10_knowsNow_13 : decode cX10_knowsNow 13 = .ok (.iaload, 1) := by decide +kernel
theorem dX10_knowsNow_14 : decode cX10_knowsNow 14 = .ok (.goto 13, 3) := by decide +kernel
theorem dX10_knowsNow_17 : decode cX10_knowsNow 17 = .ok (.aload_n 0, 1) := by decide +kernel
theorem dX10_knowsNow_18 : decode cX10_knowsNow 18 = .ok (.getfield 28, 3) := by decide +kernel
theorem dX10_knowsNow_21 : decode cX10_knowsNow 21 = .ok (.iconst 4, 1) := by decide +kernel
theorem dX10_knowsNow_22 : decode cX10_knowsNow 22 = .ok (.iload_n 1, 1) := by decide +kernel
theorem dX10_knowsNow_23 : decode cX10_knowsNow 23 = .ok (.imul, 1) := by decide +kernel
theorem dX10_knowsNow_24 : decode cX10_knowsNow 24 = .ok (.iload_n 2, 1) := by decide +kernel
theorem dX10_knowsNow_25 : decode cX10_knowsNow 25 = .ok (.iadd, 1) := by decide +kernel
theorem dX10_knowsNow_26 : decode cX10_knowsNow 26 = .ok (.iaload, 1) := by decide +kernel
theorem dX10_knowsNow_27 : decode cX10_knowsNow 27 = .ok (.ireturn, 1) := by decide +kernel
set_option maxRecDepth 20000 in
theorem ggX10_knows_X10_isChild : GoodIn wsX10_knows wsX10_isChild := goodIn_r _ [5, 6, 7, 8, 4, 9, 19, 20, 21, 22, 23, 24, 25, 26, 27, 28, 29, 30, 31, 32, 33, 34, 35, 36, 37, 38, 39, 40, 41, 42, 43] (by decide +kernel) (by decide +kernel)
set_option maxRecDepth 20000 in
theorem gX10_knows_X10_isChild : GoodIn wsX10_knows (wsV RX10 88 RX10 yX10_isChild wsX10_isChild) := goodIn_app (goodIn_of _ (by decide +kernel)) ggX10_knows_X10_isChild
set_option maxRecDepth 20000 in
theorem ggX10_knows_X10_isSubject : GoodIn wsX10_knows wsX10_isSubject := goodIn_r _ [12, 7, 8, 4, 9] (by decide +kernel) (by decide +kernel)
set_option maxRecDepth 20000 in
theorem gX10_knows_X10_isSubject : GoodIn wsX10_knows (va_wsS RX10 99 yX10_isSubject wsX10_isSubject) := goodIn_app (goodIn_of _ (by decide +kernel)) ggX10_knows_X10_isSubject
set_option maxRecDepth 20000 in
theorem ggX10_knows_X10_within : GoodIn wsX10_knows wsX10_within := goodIn_r _ [9] (by decide +kernel) (by decide +kernel)
set_option maxRecDepth 20000 in
theorem gX10_knows_X10_within : GoodIn wsX10_knows (va_wsS RX10 53 yX10_within wsX10_within) := goodIn_app (goodIn_of _ (by decide +kernel)) ggX10_knows_X10_within
set_option maxRecDepth 20000 in
theorem ggX10_knows_X10_knowsNow : GoodIn wsX10_knows wsX10_knowsNow := goodIn_r _ [16, 17, 18, 19, 20, 21, 22, 23, 24, 25, 26, 27, 28, 29, 30, 31, 32, 33, 34, 35, 36, 37, 38, 39, 40, 41, 42, 43] (by decide +kernel) (by decide +kernel)
set_option maxRecDepth 20000 in
theorem gX10_knows_X10_knowsNow : GoodIn wsX10_knows (wsV RX10 102 RX10 yX10_knowsNow wsX10_knowsNow) := goodIn_app (goodIn_of _ (by decide +kernel)) ggX10_knows_X10_knowsNow
theorem dX10_knows_0 : decode cX10_knows 0 = .ok (.aload_n 0, 1) := by decide +kernel
theorem dX10_knows_1 : decode cX10_knows 1 = .ok (.iload_n 1, 1) := by decide +kernel
theorem dX10_knows_2 : decode cX10_knows 2 = .ok (.invokevirtual 88, 3) := by decide +kernel
theorem dX10_knows_5 : decode cX10_knows 5 = .ok (.ifCond .eq 10, 3) := by decide +kernel
theorem dX10_knows_8 : decode cX10_knows 8 = .ok (.iload_n 2, 1) := by decide +kernel
theorem dX10_knows_9 : decode cX10_knows 9 = .ok (.invokestatic 99, 3) := by decide +kernel
theorem dX10_knows_12 : decode cX10_knows 12 = .ok (.ifCond .ne 6, 3) := by decide +kernel
theorem dX10_knows_15 : decode cX10_knows 15 = .ok (.bipush (-101), 2) := by decide +kernel
theorem dX10_knows_17 : decode cX10_knows 17 = .ok (.ireturn, 1) := by decide +kernel
theorem dX10_knows_18 : decode cX10_knows 18 = .ok (.iload_n 3, 1) := by decide +kernel
theorem dX10_knows_19 : decode cX10_knows 19 = .ok (.iconst 0, 1) := by decide +kernel
theorem dX10_knows_20 : decode cX10_knows 20 = .ok (.iconst 1, 1) := by decide +kernel
theorem dX10_knows_21 : decode cX10_knows 21 = .ok (.invokestatic 53, 3) := by decide +kernel
theorem dX10_knows_24 : decode cX10_knows 24 = .ok (.ifCond .eq 13, 3) := by decide +kernel
theorem dX10_knows_27 : decode cX10_knows 27 = .ok (.aload_n 0, 1) := by decide +kernel
theorem dX10_knows_28 : decode cX10_knows 28 = .ok (.iload_n 1, 1) := by decide +kernel
theorem dX10_knows_29 : decode cX10_knows 29 = .ok (.iload_n 2, 1) := by decide +kernel
theorem dX10_knows_30 : decode cX10_knows 30 = .ok (.iload_n 3, 1) := by decide +kernel
theorem dX10_knows_31 : decode cX10_knows 31 = .ok (.invokevirtual 102, 3) := by decide +kernel
theorem dX10_knows_34 : decode cX10_knows 34 = .ok (.goto 5, 3) := by decide +kernel
theorem dX10_knows_37 : decode cX10_knows 37 = .ok (.bipush (-102), 2) := by decide +kernel
theorem dX10_knows_39 : decode cX10_knows 39 = .ok (.ireturn, 1) := by decide +kernel
theorem dX10_lost_0 : decode cX10_lost 0 = .ok (.iload_n 0, 1) := by decide +kernel
theorem dX10_lost_1 : decode cX10_lost 1 = .ok (.iload_n 1, 1) := by decide +kernel
theorem dX10_lost_2 : decode cX10_lost 2 = .ok (.imul, 1) := by decide +kernel
theorem dX10_lost_3 : decode cX10_lost 3 = .ok (.bipush 9, 2) := by decide +kernel
theorem dX10_lost_5 : decode cX10_lost 5 = .ok (.iadd, 1) := by decide +kernel
theorem dX10_lost_6 : decode cX10_lost 6 = .ok (.bipush 10, 2) := by decide +kernel
theorem dX10_lost_8 : decode cX10_lost 8 = .ok (.idiv, 1) := by decide +kernel
theorem dX10_lost_9 : decode cX10_lost 9 = .ok (.ireturn, 1) := by decide +kernel
set_option maxRecDepth 20000 in
theorem ggX10_give_X10_lost : GoodIn wsX10_give wsX10_lost := goodIn_r _ [8] (by decide +kernel) (by decide +kernel)
set_option maxRecDepth 20000 in
theorem gX10_give_X10_lost : GoodIn wsX10_give (va_wsS RX10 106 yX10_lost wsX10_lost) := goodIn_app (goodIn_of _ (by decide +kernel)) ggX10_give_X10_lost
theorem dX10_give_0 : decode cX10_give 0 = .ok (.aload_n 0, 1) := by decide +kernel
theorem dX10_give_1 : decode cX10_give 1 = .ok (.getfield 13, 3) := by decide +kernel
theorem dX10_give_4 : decode cX10_give 4 = .ok (.iload_n 1, 1) := by decide +kernel
theorem dX10_give_5 : decode cX10_give 5 = .ok (.iaload, 1) := by decide +kernel
theorem dX10_give_6 : decode cX10_give 6 = .ok (.iconst 3, 1) := by decide +kernel
theorem dX10_give_7 : decode cX10_give 7 = .ok (.if_icmp .eq 13, 3) := by decide +kernel
theorem dX10_give_10 : decode cX10_give 10 = .ok (.aload_n 0, 1) := by decide +kernel
theorem dX10_give_11 : decode cX10_give 11 = .ok (.getfield 13, 3) := by decide +kernel
theorem dX10_give_14 : decode cX10_give 14 = .ok (.iload_n 1, 1) := by decide +kernel
theorem dX10_give_15 : decode cX10_give 15 = .ok (.iaload, 1) := by decide +kernel
theorem dX10_give_16 : decode cX10_give 16 = .ok (.iconst 4, 1) := by decide +kernel
theorem dX10_give_17 : decode cX10_give 17 = .ok (.if_icmp .ne 7, 3) := by decide +kernel
theorem dX10_give_20 : decode cX10_give 20 = .ok (.iconst 1, 1) := by decide +kernel
theorem dX10_give_21 : decode cX10_give 21 = .ok (.goto 4, 3) := by decide +kernel
theorem dX10_give_24 : decode cX10_give 24 = .ok (.iconst 0, 1) := by decide +kernel
theorem dX10_give_25 : decode cX10_give 25 = .ok (.istore 5, 2) := by decide +kernel
theorem dX10_give_27 : decode cX10_give 27 = .ok (.aload_n 0, 1) := by decide +kernel
theorem dX10_give_28 : decode cX10_give 28 = .ok (.iload 4, 2) := by decide +kernel
theorem dX10_give_30 : decode cX10_give 30 = .ok (.ifCond .ne 8, 3) := by decide +kernel
theorem dX10_give_33 : decode cX10_give 33 = .ok (.iload 5, 2) := by decide +kernel
theorem dX10_give_35 : decode cX10_give 35 = .ok (.ifCond .eq 7, 3) := by decide +kernel
theorem dX10_give_38 : decode cX10_give 38 = .ok (.iload_n 2, 1) := by decide +kernel
theorem dX10_give_39 : decode cX10_give 39 = .ok (.goto 13, 3) := by decide +kernel
theorem dX10_give_42 : decode cX10_give 42 = .ok (.iload_n 2, 1) := by decide +kernel
theorem dX10_give_43 : decode cX10_give 43 = .ok (.iload_n 2, 1) := by decide +kernel
theorem dX10_give_44 : decode cX10_give 44 = .ok (.aload_n 0, 1) := by decide +kernel
theorem dX10_give_45 : decode cX10_give 45 = .ok (.getfield 73, 3) := by decide +kernel
theorem dX10_give_48 : decode cX10_give 48 = .ok (.invokestatic 106, 3) := by decide +kernel
theorem dX10_give_51 : decode cX10_give 51 = .ok (.isub, 1) := by decide +kernel
theorem dX10_give_52 : decode cX10_give 52 = .ok (.putfield 109, 3) := by decide +kernel
theorem dX10_give_55 : decode cX10_give 55 = .ok (.iload 4, 2) := by decide +kernel
theorem dX10_give_57 : decode cX10_give 57 = .ok (.ifCond .eq 7, 3) := by decide +kernel
theorem dX10_give_60 : decode cX10_give 60 = .ok (.iconst 0, 1) := by decide +kernel
theorem dX10_give_61 : decode cX10_give 61 = .ok (.goto 6, 3) := by decide +kernel
theorem dX10_give_64 : decode cX10_give 64 = .ok (.iconst 1, 1) := by decide +kernel
theorem dX10_give_65 : decode cX10_give 65 = .ok (.iload_n 1, 1) := by decide +kernel
theorem dX10_give_66 : decode cX10_give 66 = .ok (.ishl, 1) := by decide +kernel
theorem dX10_give_67 : decode cX10_give 67 = .ok (.istore 6, 2) := by decide +kernel
theorem dX10_give_69 : decode cX10_give 69 = .ok (.aload_n 0, 1) := by decide +kernel
theorem dX10_give_70 : decode cX10_give 70 = .ok (.aload_n 0, 1) := by decide +kernel
theorem dX10_give_71 : decode cX10_give 71 = .ok (.getfield 13, 3) := by decide +kernel
theorem dX10_give_74 : decode cX10_give 74 = .ok (.iload_n 1, 1) := by decide +kernel
theorem dX10_give_75 : decode cX10_give 75 = .ok (.iaload, 1) := by decide +kernel
theorem dX10_give_76 : decode cX10_give 76 = .ok (.iconst 1, 1) := by decide +kernel
theorem dX10_give_77 : decode cX10_give 77 = .ok (.if_icmp .ne 7, 3) := by decide +kernel
theorem dX10_give_80 : decode cX10_give 80 = .ok (.iconst 0, 1) := by decide +kernel
theorem dX10_give_81 : decode cX10_give 81 = .ok (.goto 7, 3) := by decide +kernel
theorem dX10_give_84 : decode cX10_give 84 = .ok (.iload_n 3, 1) := by decide +kernel
theorem dX10_give_85 : decode cX10_give 85 = .ok (.iload 6, 2) := by decide +kernel
theorem dX10_give_87 : decode cX10_give 87 = .ok (.ior, 1) := by decide +kernel
theorem dX10_give_88 : decode cX10_give 88 = .ok (.putfield 112, 3) := by decide +kernel
theorem dX10_give_91 : decode cX10_give 91 = .ok (.return_, 1) := by decide +kernel
set_option maxRecDepth 20000 in
theorem ggX10_teach_X10_give : GoodIn wsX10_teach wsX10_give := goodIn_r _ [12, 7, 13, 1, 2, 14, 15, 11, 16, 17, 18, 19, 20, 21, 22, 23, 24, 25, 26, 27, 28, 29, 30, 31, 32, 33, 34, 35, 36, 37, 38, 39, 40, 41] (by decide +kernel) (by decide +kernel)
set_option maxRecDepth 20000 in
theorem gX10_teach_X10_give : GoodIn wsX10_teach (wsV RX10 115 RX10 yX10_give wsX10_give) := goodIn_app (goodIn_of _ (by decide +kernel)) ggX10_teach_X10_give
theorem dX10_teach_0 : decode cX10_teach 0 = .ok (.iconst (-1), 1) := by decide +kernel
theorem dX10_teach_1 : decode cX10_teach 1 = .ok (.istore 6, 2) := by decide +kernel
theorem dX10_teach_3 : decode cX10_teach 3 = .ok (.iconst 0, 1) := by decide +kernel
theorem dX10_teach_4 : decode cX10_teach 4 = .ok (.istore 7, 2) := by decide +kernel
theorem dX10_teach_6 : decode cX10_teach 6 = .ok (.aload_n 0, 1) := by decide +kernel
theorem dX10_teach_7 : decode cX10_teach 7 = .ok (.bipush 100, 2) := by decide +kernel
theorem dX10_teach_9 : decode cX10_teach 9 = .ok (.putfield 109, 3) := by decide +kernel
theorem dX10_teach_12 : decode cX10_teach 12 = .ok (.aload_n 0, 1) := by decide +kernel
theorem dX10_teach_13 : decode cX10_teach 13 = .ok (.iconst 0, 1) := by decide +kernel
theorem dX10_teach_14 : decode cX10_teach 14 = .ok (.putfield 112, 3) := by decide +kernel
theorem dX10_teach_17 : decode cX10_teach 17 = .ok (.iconst 0, 1) := by decide +kernel
theorem dX10_teach_18 : decode cX10_teach 18 = .ok (.istore 8, 2) := by decide +kernel
theorem dX10_teach_20 : decode cX10_teach 20 = .ok (.iload 8, 2) := by decide +kernel
theorem dX10_teach_22 : decode cX10_teach 22 = .ok (.aload_n 0, 1) := by decide +kernel
theorem dX10_teach_23 : decode cX10_teach 23 = .ok (.getfield 79, 3) := by decide +kernel
theorem dX10_teach_26 : decode cX10_teach 26 = .ok (.if_icmp .ge 138, 3) := by decide +kernel
theorem dX10_teach_29 : decode cX10_teach 29 = .ok (.aload_n 0, 1) := by decide +kernel
theorem dX10_teach_30 : decode cX10_teach 30 = .ok (.getfield 31, 3) := by decide +kernel
theorem dX10_teach_33 : decode cX10_teach 33 = .ok (.iload_n 2, 1) := by decide +kernel
theorem dX10_teach_34 : decode cX10_teach 34 = .ok (.iload 8, 2) := by decide +kernel
theorem dX10_teach_36 : decode cX10_teach 36 = .ok (.iadd, 1) := by decide +kernel
theorem dX10_teach_37 : decode cX10_teach 37 = .ok (.iaload, 1) := by decide +kernel
theorem dX10_teach_38 : decode cX10_teach 38 = .ok (.istore 9, 2) := by decide +kernel
theorem dX10_teach_40 : decode cX10_teach 40 = .ok (.iload_n 1, 1) := by decide +kernel
theorem dX10_teach_41 : decode cX10_teach 41 = .ok (.iconst 4, 1) := by decide +kernel
theorem dX10_teach_42 : decode cX10_teach 42 = .ok (.iload 9, 2) := by decide +kernel
theorem dX10_teach_44 : decode cX10_teach 44 = .ok (.imul, 1) := by decide +kernel
theorem dX10_teach_45 : decode cX10_teach 45 = .ok (.iadd, 1) := by decide +kernel
theorem dX10_teach_46 : decode cX10_teach 46 = .ok (.iload_n 3, 1) := by decide +kernel
theorem dX10_teach_47 : decode cX10_teach 47 = .ok (.iadd, 1) := by decide +kernel
theorem dX10_teach_48 : decode cX10_teach 48 = .ok (.istore 10, 2) := by decide +kernel
theorem dX10_teach_50 : decode cX10_teach 50 = .ok (.iload 5, 2) := by decide +kernel
theorem dX10_teach_52 : decode cX10_teach 52 = .ok (.iload 9, 2) := by decide +kernel
theorem dX10_teach_54 : decode cX10_teach 54 = .ok (.ishr, 1) := by decide +kernel
theorem dX10_teach_55 : decode cX10_teach 55 = .ok (.iconst 1, 1) := by decide +kernel
theorem dX10_teach_56 : decode cX10_teach 56 = .ok (.iand, 1) := by decide +kernel
theorem dX10_teach_57 : decode cX10_teach 57 = .ok (.ifCond .ne 101, 3) := by decide +kernel
theorem dX10_teach_60 : decode cX10_teach 60 = .ok (.aload_n 0, 1) := by decide +kernel
theorem dX10_teach_61 : decode cX10_teach 61 = .ok (.getfield 109, 3) := by decide +kernel
theorem dX10_teach_64 : decode cX10_teach 64 = .ok (.aload_n 0, 1) := by decide +kernel
theorem dX10_teach_65 : decode cX10_teach 65 = .ok (.getfield 25, 3) := by decide +kernel
theorem dX10_teach_68 : decode cX10_teach 68 = .ok (.iload 10, 2) := by decide +kernel
theorem dX10_teach_70 : decode cX10_teach 70 = .ok (.iaload, 1) := by decide +kernel
theorem dX10_teach_71 : decode cX10_teach 71 = .ok (.if_icmp .le 61, 3) := by decide +kernel
theorem dX10_teach_74 : decode cX10_teach 74 = .ok (.aload_n 0, 1) := by decide +kernel
theorem dX10_teach_75 : decode cX10_teach 75 = .ok (.getfield 25, 3) := by decide +kernel
theorem dX10_teach_78 : decode cX10_teach 78 = .ok (.iload 10, 2) := by decide +kernel
theorem dX10_teach_80 : decode cX10_teach 80 = .ok (.aload_n 0, 1) := by decide +kernel
theorem dX10_teach_81 : decode cX10_teach 81 = .ok (.getfield 109, 3) := by decide +kernel
theorem dX10_teach_84 : decode cX10_teach 84 = .ok (.iastore, 1) := by decide +kernel
theorem dX10_teach_85 : decode cX10_teach 85 = .ok (.aload_n 0, 1) := by decide +kernel
theorem dX10_teach_86 : decode cX10_teach 86 = .ok (.getfield 28, 3) := by decide +kernel
theorem dX10_teach_89 : decode cX10_teach 89 = .ok (.iload 10, 2) := by decide +kernel
theorem dX10_teach_91 : decode cX10_teach 91 = .ok (.aload_n 0, 1) := by decide +kernel
theorem dX10_teach_92 : decode cX10_teach 92 = .ok (.getfield 13, 3) := by decide +kernel
theorem dX10_teach_95 : decode cX10_teach 95 = .ok (.iload 9, 2) := by decide +kernel
theorem dX10_teach_97 : decode cX10_teach 97 = .ok (.iaload, 1) := by decide +kernel
theorem dX10_teach_98 : decode cX10_teach 98 = .ok (.iconst 2, 1) := by decide +kernel
theorem dX10_teach_99 : decode cX10_teach 99 = .ok (.if_icmp .ne 25, 3) := by decide +kernel
theorem dX10_teach_102 : decode cX10_teach 102 = .ok (.iload 6, 2) := by decide +kernel
theorem dX10_teach_104 : decode cX10_teach 104 = .ok (.iconst (-1), 1) := by decide +kernel
theorem dX10_teach_105 : decode cX10_teach 105 = .ok (.if_icmp .ne 7, 3) := by decide +kernel
theorem dX10_teach_108 : decode cX10_teach 108 = .ok (.iconst 0, 1) := by decide +kernel
theorem dX10_teach_109 : decode cX10_teach 109 = .ok (.goto 19, 3) := by decide +kernel
theorem dX10_teach_112 : decode cX10_teach 112 = .ok (.aload_n 0, 1) := by decide +kernel
theorem dX10_teach_113 : decode cX10_teach 113 = .ok (.getfield 112, 3) := by decide +kernel
theorem dX10_teach_116 : decode cX10_teach 116 = .ok (.iconst 1, 1) := by decide +kernel
theorem dX10_teach_117 : decode cX10_teach 117 = .ok (.iload 6, 2) := by decide +kernel
theorem dX10_teach_119 : decode cX10_teach 119 = .ok (.ishl, 1) := by decide +kernel
theorem dX10_teach_120 : decode cX10_teach 120 = .ok (.iand, 1) := by decide +kernel
theorem dX10_teach_121 : decode cX10_teach 121 = .ok (.goto 7, 3) := by decide +kernel
theorem dX10_teach_124 : decode cX10_teach 124 = .ok (.aload_n 0, 1) := by decide +kernel
theorem dX10_teach_125 : decode cX10_teach 125 = .ok (.getfield 112, 3) := by decide +kernel
theorem dX10_teach_128 : decode cX10_teach 128 = .ok (.iastore, 1) := by decide +kernel
theorem dX10_teach_129 : decode cX10_teach 129 = .ok (.iinc 7 1, 3) := by decide +kernel
theorem dX10_teach_132 : decode cX10_teach 132 = .ok (.aload_n 0, 1) := by decide +kernel
theorem dX10_teach_133 : decode cX10_teach 133 = .ok (.iload 9, 2) := by decide +kernel
theorem dX10_teach_135 : decode cX10_teach 135 = .ok (.aload_n 0, 1) := by decide +kernel
theorem dX10_teach_136 : decode cX10_teach 136 = .ok (.getfield 25, 3) := by decide +kernel
theorem dX10_teach_139 : decode cX10_teach 139 = .ok (.iload 10, 2) := by decide +kernel
theorem dX10_teach_141 : decode cX10_teach 141 = .ok (.iaload, 1) := by decide +kernel
theorem dX10_teach_142 : decode cX10_teach 142 = .ok (.aload_n 0, 1) := by decide +kernel
theorem dX10_teach_143 : decode cX10_teach 143 = .ok (.getfield 28, 3) := by decide +kernel
theorem dX10_teach_146 : decode cX10_teach 146 = .ok (.iload 10, 2) := by decide +kernel
theorem dX10_teach_148 : decode cX10_teach 148 = .ok (.iaload, 1) := by decide +kernel
theorem dX10_teach_149 : decode cX10_teach 149 = .ok (.iload 4, 2) := by decide +kernel
theorem dX10_teach_151 : decode cX10_teach 151 = .ok (.invokevirtual 115, 3) := by decide +kernel
theorem dX10_teach_154 : decode cX10_teach 154 = .ok (.iload 9, 2) := by decide +kernel
theorem dX10_teach_156 : decode cX10_teach 156 = .ok (.istore 6, 2) := by decide +kernel
theorem dX10_teach_158 : decode cX10_teach 158 = .ok (.iinc 8 1, 3) := by decide +kernel
theorem dX10_teach_161 : decode cX10_teach 161 = .ok (.goto (-141), 3) := by decide +kernel
theorem dX10_teach_164 : decode cX10_teach 164 = .ok (.iload 7, 2) := by decide +kernel
theorem dX10_teach_166 : decode cX10_teach 166 = .ok (.ireturn, 1) := by decide +kernel
theorem dX10_illSet_0 : decode cX10_illSet 0 = .ok (.iconst 0, 1) := by decide +kernel
theorem dX10_illSet_1 : decode cX10_illSet 1 = .ok (.istore_n 1, 1) := by decide +kernel
theorem dX10_illSet_2 : decode cX10_illSet 2 = .ok (.iconst 0, 1) := by decide +kernel
theorem dX10_illSet_3 : decode cX10_illSet 3 = .ok (.istore_n 2, 1) := by decide +kernel
theorem dX10_illSet_4 : decode cX10_illSet 4 = .ok (.iload_n 2, 1) := by decide +kernel
theorem dX10_illSet_5 : decode cX10_illSet 5 = .ok (.aload_n 0, 1) := by decide +kernel
theorem dX10_illSet_6 : decode cX10_illSet 6 = .ok (.getfield 79, 3) := by decide +kernel
theorem dX10_illSet_9 : decode cX10_illSet 9 = .ok (.if_icmp .ge 20, 3) := by decide +kernel
theorem dX10_illSet_12 : decode cX10_illSet 12 = .ok (.iload_n 1, 1) := by decide +kernel
theorem dX10_illSet_13 : decode cX10_illSet 13 = .ok (.aload_n 0, 1) := by decide +kernel
theorem dX10_illSet_14 : decode cX10_illSet 14 = .ok (.getfield 19, 3) := by decide +kernel
theorem dX10_illSet_17 : decode cX10_illSet 17 = .ok (.iload_n 2, 1) := by decide +kernel
theorem dX10_illSet_18 : decode cX10_illSet 18 = .ok (.iaload, 1) := by decide +kernel
theorem dX10_illSet_19 : decode cX10_illSet 19 = .ok (.iload_n 2, 1) := by decide +kernel
theorem dX10_illSet_20 : decode cX10_illSet 20 = .ok (.ishl, 1) := by decide +kernel
theorem dX10_illSet_21 : decode cX10_illSet 21 = .ok (.ior, 1) := by decide +kernel
theorem dX10_illSet_22 : decode cX10_illSet 22 = .ok (.istore_n 1, 1) := by decide +kernel
theorem dX10_illSet_23 : decode cX10_illSet 23 = .ok (.iinc 2 1, 3) := by decide +kernel
theorem dX10_illSet_26 : decode cX10_illSet 26 = .ok (.goto (-22), 3) := by decide +kernel
theorem dX10_illSet_29 : decode cX10_illSet 29 = .ok (.iload_n 1, 1) := by decide +kernel
theorem dX10_illSet_30 : decode cX10_illSet 30 = .ok (.ireturn, 1) := by decide +kernel
set_option maxRecDepth 20000 in
theorem ggX10_lesson_X10_isSubject : GoodIn wsX10_lesson wsX10_isSubject := goodIn_r _ [5, 6, 7, 4, 8] (by decide +kernel) (by decide +kernel)
set_option maxRecDepth 20000 in
theorem gX10_lesson_X10_isSubject : GoodIn wsX10_lesson (va_wsS RX10 99 yX10_isSubject wsX10_isSubject) := goodIn_app (goodIn_of _ (by decide +kernel)) ggX10_lesson_X10_isSubject
set_option maxRecDepth 20000 in
theorem ggX10_lesson_X10_illSet : GoodIn wsX10_lesson wsX10_illSet := goodIn_r _ [12, 1, 13, 32, 33, 34, 35, 36, 37, 38, 39, 40, 41, 42, 43, 44, 45, 46, 47, 48, 49, 50, 51, 52, 53, 54, 55, 56] (by decide +kernel) (by decide +kernel)
set_option maxRecDepth 20000 in
theorem gX10_lesson_X10_illSet : GoodIn wsX10_lesson (wsV RX10 119 RX10 yX10_illSet wsX10_illSet) := goodIn_app (goodIn_of _ (by decide +kernel)) ggX10_lesson_X10_illSet
set_option maxRecDepth 20000 in
theorem ggX10_lesson_X10_teach : GoodIn wsX10_lesson wsX10_teach := goodIn_r _ [17, 18, 19, 1, 20, 21, 22, 23, 24, 25, 26, 4, 27, 28, 29, 30, 31, 32, 33, 34, 35, 36, 37, 38, 39, 40, 41, 42, 43, 44, 45, 46, 47, 48, 49, 50, 51, 52, 53, 54, 55, 56] (by decide +kernel) (by decide +kernel)
set_option maxRecDepth 20000 in
theorem gX10_lesson_X10_teach : GoodIn wsX10_lesson (wsV RX10 122 RX10 yX10_teach wsX10_teach) := goodIn_app (goodIn_of _ (by decide +kernel)) ggX10_lesson_X10_teach
theorem dX10_lesson_0 : decode cX10_lesson 0 = .ok (.iload_n 1, 1) := by decide +kernel
theorem dX10_lesson_1 : decode cX10_lesson 1 = .ok (.invokestatic 99, 3) := by decide +kernel
theorem dX10_lesson_4 : decode cX10_lesson 4 = .ok (.ifCond .ne 6, 3) := by decide +kernel
theorem dX10_lesson_7 : decode cX10_lesson 7 = .ok (.bipush (-101), 2) := by decide +kernel
theorem dX10_lesson_9 : decode cX10_lesson 9 = .ok (.ireturn, 1) := by decide +kernel
theorem dX10_lesson_10 : decode cX10_lesson 10 = .ok (.aload_n 0, 1) := by decide +kernel
theorem dX10_lesson_11 : decode cX10_lesson 11 = .ok (.getfield 79, 3) := by decide +kernel
theorem dX10_lesson_14 : decode cX10_lesson 14 = .ok (.ifCond .ne 8, 3) := by decide +kernel
theorem dX10_lesson_17 : decode cX10_lesson 17 = .ok (.bipush (-103), 2) := by decide +kernel
theorem dX10_lesson_19 : decode cX10_lesson 19 = .ok (.goto 15, 3) := by decide +kernel
theorem dX10_lesson_22 : decode cX10_lesson 22 = .ok (.aload_n 0, 1) := by decide +kernel
theorem dX10_lesson_23 : decode cX10_lesson 23 = .ok (.iconst 0, 1) := by decide +kernel
theorem dX10_lesson_24 : decode cX10_lesson 24 = .ok (.iconst 0, 1) := by decide +kernel
theorem dX10_lesson_25 : decode cX10_lesson 25 = .ok (.iload_n 1, 1) := by decide +kernel
theorem dX10_lesson_26 : decode cX10_lesson 26 = .ok (.iload_n 2, 1) := by decide +kernel
theorem dX10_lesson_27 : decode cX10_lesson 27 = .ok (.aload_n 0, 1) := by decide +kernel
theorem dX10_lesson_28 : decode cX10_lesson 28 = .ok (.invokevirtual 119, 3) := by decide +kernel
theorem dX10_lesson_31 : decode cX10_lesson 31 = .ok (.invokevirtual 122, 3) := by decide +kernel
theorem dX10_lesson_34 : decode cX10_lesson 34 = .ok (.ireturn, 1) := by decide +kernel
set_option maxRecDepth 20000 in
theorem ggX10_goSummer_X10_lost : GoodIn wsX10_goSummer wsX10_lost := goodIn_r _ [9] (by decide +kernel) (by decide +kernel)
set_option maxRecDepth 20000 in
theorem gX10_goSummer_X10_lost : GoodIn wsX10_goSummer (va_wsS RX10 106 yX10_lost wsX10_lost) := goodIn_app (goodIn_of _ (by decide +kernel)) ggX10_goSummer_X10_lost
theorem dX10_goSummer_0 : decode cX10_goSummer 0 = .ok (.iconst 0, 1) := by decide +kernel
theorem dX10_goSummer_1 : decode cX10_goSummer 1 = .ok (.istore_n 2, 1) := by decide +kernel
theorem dX10_goSummer_2 : decode cX10_goSummer 2 = .ok (.iconst 0, 1) := by decide +kernel
theorem dX10_goSummer_3 : decode cX10_goSummer 3 = .ok (.istore_n 3, 1) := by decide +kernel
theorem dX10_goSummer_4 : decode cX10_goSummer 4 = .ok (.iload_n 3, 1) := by decide +kernel
theorem dX10_goSummer_5 : decode cX10_goSummer 5 = .ok (.aload_n 0, 1) := by decide +kernel
theorem dX10_goSummer_6 : decode cX10_goSummer 6 = .ok (.getfield 79, 3) := by decide +kernel
theorem dX10_goSummer_9 : decode cX10_goSummer 9 = .ok (.if_icmp .ge 109, 3) := by decide +kernel
theorem dX10_goSummer_12 : decode cX10_goSummer 12 = .ok (.iconst 0, 1) := by decide +kernel
theorem dX10_goSummer_13 : decode cX10_goSummer 13 = .ok (.istore 4, 2) := by decide +kernel
theorem dX10_goSummer_15 : decode cX10_goSummer 15 = .ok (.iload 4, 2) := by decide +kernel
theorem dX10_goSummer_17 : decode cX10_goSummer 17 = .ok (.iconst 4, 1) := by decide +kernel
theorem dX10_goSummer_18 : decode cX10_goSummer 18 = .ok (.if_icmp .ge 94, 3) := by decide +kernel
theorem dX10_goSummer_21 : decode cX10_goSummer 21 = .ok (.iload_n 1, 1) := by decide +kernel
theorem dX10_goSummer_22 : decode cX10_goSummer 22 = .ok (.iconst 4, 1) := by decide +kernel
theorem dX10_goSummer_23 : decode cX10_goSummer 23 = .ok (.iload_n 3, 1) := by decide +kernel
theorem dX10_goSummer_24 : decode cX10_goSummer 24 = .ok (.imul, 1) := by decide +kernel
theorem dX10_goSummer_25 : decode cX10_goSummer 25 = .ok (.iadd, 1) := by decide +kernel
theorem dX10_goSummer_26 : decode cX10_goSummer 26 = .ok (.iload 4, 2) := by decide +kernel
theorem dX10_goSummer_28 : decode cX10_goSummer 28 = .ok (.iadd, 1) := by decide +kernel
theorem dX10_goSummer_29 : decode cX10_goSummer 29 = .ok (.istore 5, 2) := by decide +kernel
theorem dX10_goSummer_31 : decode cX10_goSummer 31 = .ok (.aload_n 0, 1) := by decide +kernel
theorem dX10_goSummer_32 : decode cX10_goSummer 32 = .ok (.getfield 13, 3) := by decide +kernel
theorem dX10_goSummer_35 : decode cX10_goSummer 35 = .ok (.iload_n 3, 1) := by decide +kernel
theorem dX10_goSummer_36 : decode cX10_goSummer 36 = .ok (.iaload, 1) := by decide +kernel
theorem dX10_goSummer_37 : decode cX10_goSummer 37 = .ok (.iconst 4, 1) := by decide +kernel
theorem dX10_goSummer_38 : decode cX10_goSummer 38 = .ok (.if_icmp .ne 7, 3) := by decide +kernel
theorem dX10_goSummer_41 : decode cX10_goSummer 41 = .ok (.iconst 0, 1) := by decide +kernel
theorem dX10_goSummer_42 : decode cX10_goSummer 42 = .ok (.goto 17, 3) := by decide +kernel
theorem dX10_goSummer_45 : decode cX10_goSummer 45 = .ok (.aload_n 0, 1) := by decide +kernel
theorem dX10_goSummer_46 : decode cX10_goSummer 46 = .ok (.getfield 25, 3) := by decide +kernel
theorem dX10_goSummer_49 : decode cX10_goSummer 49 = .ok (.iload 5, 2) := by decide +kernel
theorem dX10_goSummer_51 : decode cX10_goSummer 51 = .ok (.iaload, 1) := by decide +kernel
theorem dX10_goSummer_52 : decode cX10_goSummer 52 = .ok (.aload_n 0, 1) := by decide +kernel
theorem dX10_goSummer_53 : decode cX10_goSummer 53 = .ok (.getfield 76, 3) := by decide +kernel
theorem dX10_goSummer_56 : decode cX10_goSummer 56 = .ok (.invokestatic 106, 3) := by decide +kernel
theorem dX10_goSummer_59 : decode cX10_goSummer 59 = .ok (.istore 6, 2) := by decide +kernel
theorem dX10_goSummer_61 : decode cX10_goSummer 61 = .ok (.aload_n 0, 1) := by decide +kernel
theorem dX10_goSummer_62 : decode cX10_goSummer 62 = .ok (.getfield 25, 3) := by decide +kernel
theorem dX10_goSummer_65 : decode cX10_goSummer 65 = .ok (.iload 5, 2) := by decide +kernel
theorem dX10_goSummer_67 : decode cX10_goSummer 67 = .ok (.dup2, 1) := by decide +kernel
theorem dX10_goSummer_68 : decode cX10_goSummer 68 = .ok (.iaload, 1) := by decide +kernel
theorem dX10_goSummer_69 : decode cX10_goSummer 69 = .ok (.iload 6, 2) := by decide +kernel
theorem dX10_goSummer_71 : decode cX10_goSummer 71 = .ok (.isub, 1) := by decide +kernel
theorem dX10_goSummer_72 : decode cX10_goSummer 72 = .ok (.iastore, 1) := by decide +kernel
theorem dX10_goSummer_73 : decode cX10_goSummer 73 = .ok (.iload_n 2, 1) := by decide +kernel
theorem dX10_goSummer_74 : decode cX10_goSummer 74 = .ok (.iload 6, 2) := by decide +kernel
theorem dX10_goSummer_76 : decode cX10_goSummer 76 = .ok (.iadd, 1) := by decide +kernel
theorem dX10_goSummer_77 : decode cX10_goSummer 77 = .ok (.istore_n 2, 1) := by decide +kernel
theorem dX10_goSummer_78 : decode cX10_goSummer 78 = .ok (.aload_n 0, 1) := by decide +kernel
theorem dX10_goSummer_79 : decode cX10_goSummer 79 = .ok (.getfield 28, 3) := by decide +kernel
theorem dX10_goSummer_82 : decode cX10_goSummer 82 = .ok (.iload 5, 2) := by decide +kernel
theorem dX10_goSummer_84 : decode cX10_goSummer 84 = .ok (.aload_n 0, 1) := by decide +kernel
theorem dX10_goSummer_85 : decode cX10_goSummer 85 = .ok (.getfield 25, 3) := by decide +kernel
theorem dX10_goSummer_88 : decode cX10_goSummer 88 = .ok (.iload 5, 2) := by decide +kernel
theorem dX10_goSummer_90 : decode cX10_goSummer 90 = .ok (.iaload, 1) := by decide +kernel
theorem dX10_goSummer_91 : decode cX10_goSummer 91 = .ok (.ifCond .ne 7, 3) := by decide +kernel
theorem dX10_goSummer_94 : decode cX10_goSummer 94 = .ok (.iconst 0, 1) := by decide +kernel
theorem dX10_goSummer_95 : decode cX10_goSummer 95 = .ok (.goto 10, 3) := by decide +kernel
theorem dX10_goSummer_98 : decode cX10_goSummer 98 = .ok (.aload_n 0, 1) := by decide +kernel
theorem dX10_goSummer_99 : decode cX10_goSummer 99 = .ok (.getfield 28, 3) := by decide +kernel
theorem dX10_goSummer_102 : decode cX10_goSummer 102 = .ok (.iload 5, 2) := by decide +kernel
theorem dX10_goSummer_104 : decode cX10_goSummer 104 = .ok (.iaload, 1) := by decide +kernel
theorem dX10_goSummer_105 : decode cX10_goSummer 105 = .ok (.iastore, 1) := by decide +kernel
theorem dX10_goSummer_106 : decode cX10_goSummer 106 = .ok (.iinc 4 1, 3) := by decide +kernel
theorem dX10_goSummer_109 : decode cX10_goSummer 109 = .ok (.goto (-94), 3) := by decide +kernel
theorem dX10_goSummer_112 : decode cX10_goSummer 112 = .ok (.iinc 3 1, 3) := by decide +kernel
theorem dX10_goSummer_115 : decode cX10_goSummer 115 = .ok (.goto (-111), 3) := by decide +kernel
theorem dX10_goSummer_118 : decode cX10_goSummer 118 = .ok (.iload_n 2, 1) := by decide +kernel
theorem dX10_goSummer_119 : decode cX10_goSummer 119 = .ok (.ireturn, 1) := by decide +kernel
set_option maxRecDepth 20000 in
theorem ggX10_summer_X10_goSummer : GoodIn wsX10_summer wsX10_goSummer := goodIn_r _ [6, 1, 7, 8, 9, 10, 11, 12, 5, 13, 14, 15, 16, 17, 18, 19, 20, 21, 22, 23, 24, 25, 26, 27, 28, 29, 30, 31, 32, 33, 34, 35, 36, 37, 38] (by decide +kernel) (by decide +kernel)
set_option maxRecDepth 20000 in
theorem gX10_summer_X10_goSummer : GoodIn wsX10_summer (wsV RX10 126 RX10 yX10_goSummer wsX10_goSummer) := goodIn_app (goodIn_of _ (by decide +kernel)) ggX10_summer_X10_goSummer
theorem dX10_summer_0 : decode cX10_summer 0 = .ok (.aload_n 0, 1) := by decide +kernel
theorem dX10_summer_1 : decode cX10_summer 1 = .ok (.getfield 79, 3) := by decide +kernel
theorem dX10_summer_4 : decode cX10_summer 4 = .ok (.ifCond .ne 8, 3) := by decide +kernel
theorem dX10_summer_7 : decode cX10_summer 7 = .ok (.bipush (-103), 2) := by decide +kernel
theorem dX10_summer_9 : decode cX10_summer 9 = .ok (.goto 8, 3) := by decide +kernel
theorem dX10_summer_12 : decode cX10_summer 12 = .ok (.aload_n 0, 1) := by decide +kernel
theorem dX10_summer_13 : decode cX10_summer 13 = .ok (.iconst 0, 1) := by decide +kernel
theorem dX10_summer_14 : decode cX10_summer 14 = .ok (.invokevirtual 126, 3) := by decide +kernel
theorem dX10_summer_17 : decode cX10_summer 17 = .ok (.ireturn, 1) := by decide +kernel
set_option maxRecDepth 20000 in
theorem ggX10_wipe_X10_isChild : GoodIn wsX10_wipe wsX10_isChild := goodIn_r _ [7, 8, 9, 10, 6, 11, 15, 16, 17, 18, 19, 20, 21, 22, 23, 24, 25, 26, 27, 28, 29, 30, 31, 32, 33, 34, 35, 36, 37, 38, 39] (by decide +kernel) (by decide +kernel)
set_option maxRecDepth 20000 in
theorem gX10_wipe_X10_isChild : GoodIn wsX10_wipe (wsV RX10 88 RX10 yX10_isChild wsX10_isChild) := goodIn_app (goodIn_of _ (by decide +kernel)) ggX10_wipe_X10_isChild
set_option maxRecDepth 20000 in
theorem ggX10_wipe_X10_isSubject : GoodIn wsX10_wipe wsX10_isSubject := goodIn_r _ [14, 9, 10, 6, 11] (by decide +kernel) (by decide +kernel)
