set_option maxRecDepth 20000 in
theorem ggX10_allWrong_X10_size : GoodIn wsX10_allWrong wsX10_size := goodIn_r _ [6] (by decide +kernel) (by decide +kernel)
set_option maxRecDepth 20000 in
theorem gX10_allWrong_X10_size : GoodIn wsX10_allWrong (va_wsS RX10 142 yX10_size wsX10_size) := goodIn_app (goodIn_of _ (by decide +kernel)) ggX10_allWrong_X10_size
theorem dX10_allWrong_0 : decode cX10_allWrong 0 = .ok (.iconst 0, 1) := by decide +kernel
theorem dX10_allWrong_1 : decode cX10_allWrong 1 = .ok (.istore_n 2, 1) := by decide +kernel
theorem dX10_allWrong_2 : decode cX10_allWrong 2 = .ok (.iconst 0, 1) := by decide +kernel
theorem dX10_allWrong_3 : decode cX10_allWrong 3 = .ok (.istore_n 3, 1) := by decide +kernel
theorem dX10_allWrong_4 : decode cX10_allWrong 4 = .ok (.iload_n 3, 1) := by decide +kernel
theorem dX10_allWrong_5 : decode cX10_allWrong 5 = .ok (.iconst 4, 1) := by decide +kernel
theorem dX10_allWrong_6 : decode cX10_allWrong 6 = .ok (.aload_n 0, 1) := by decide +kernel
theorem dX10_allWrong_7 : decode cX10_allWrong 7 = .ok (.getfield 79, 3) := by decide +kernel
theorem dX10_allWrong_10 : decode cX10_allWrong 10 = .ok (.imul, 1) := by decide +kernel
theorem dX10_allWrong_11 : decode cX10_allWrong 11 = .ok (.if_icmp .ge 23, 3) := by decide +kernel
theorem dX10_allWrong_14 : decode cX10_allWrong 14 = .ok (.iload_n 2, 1) := by decide +kernel
theorem dX10_allWrong_15 : decode cX10_allWrong 15 = .ok (.aload_n 0, 1) := by decide +kernel
theorem dX10_allWrong_16 : decode cX10_allWrong 16 = .ok (.getfield 28, 3) := by decide +kernel
theorem dX10_allWrong_19 : decode cX10_allWrong 19 = .ok (.iload_n 1, 1) := by decide +kernel
theorem dX10_allWrong_20 : decode cX10_allWrong 20 = .ok (.iload_n 3, 1) := by decide +kernel
theorem dX10_allWrong_21 : decode cX10_allWrong 21 = .ok (.iadd, 1) := by decide +kernel
theorem dX10_allWrong_22 : decode cX10_allWrong 22 = .ok (.iaload, 1) := by decide +kernel
theorem dX10_allWrong_23 : decode cX10_allWrong 23 = .ok (.invokestatic 142, 3) := by decide +kernel
theorem dX10_allWrong_26 : decode cX10_allWrong 26 = .ok (.iadd, 1) := by decide +kernel
theorem dX10_allWrong_27 : decode cX10_allWrong 27 = .ok (.istore_n 2, 1) := by decide +kernel
theorem dX10_allWrong_28 : decode cX10_allWrong 28 = .ok (.iinc 3 1, 3) := by decide +kernel
theorem dX10_allWrong_31 : decode cX10_allWrong 31 = .ok (.goto (-27), 3) := by decide +kernel
theorem dX10_allWrong_34 : decode cX10_allWrong 34 = .ok (.iload_n 2, 1) := by decide +kernel
theorem dX10_allWrong_35 : decode cX10_allWrong 35 = .ok (.ireturn, 1) := by decide +kernel
set_option maxRecDepth 20000 in
theorem ggX10_songs_X10_within : GoodIn wsX10_songs wsX10_within := goodIn_r _ [5] (by decide +kernel) (by decide +kernel)
set_option maxRecDepth 20000 in
theorem gX10_songs_X10_within : GoodIn wsX10_songs (va_wsS RX10 53 yX10_within wsX10_within) := goodIn_app (goodIn_of _ (by decide +kernel)) ggX10_songs_X10_within
set_option maxRecDepth 20000 in
theorem ggX10_songs_X10_songsNow : GoodIn wsX10_songs wsX10_songsNow := goodIn_r _ [9, 1, 10, 11, 12, 13, 14, 4, 15, 16, 17, 18, 19, 20, 21, 22, 23, 24, 25, 26, 27, 28, 29, 30, 31, 32, 33, 34, 35, 36, 37, 38, 39, 40, 41, 42, 43, 44, 45, 46, 47, 48, 49, 50, 51, 52, 53, 54, 55, 56, 57, 58, 59, 60, 61, 62, 63, 64, 65, 66, 67, 68, 69, 70] (by decide +kernel) (by decide +kernel)
set_option maxRecDepth 20000 in
theorem gX10_songs_X10_songsNow : GoodIn wsX10_songs (wsV RX10 160 RX10 yX10_songsNow wsX10_songsNow) := goodIn_app (goodIn_of _ (by decide +kernel)) ggX10_songs_X10_songsNow
theorem dX10_songs_0 : decode cX10_songs 0 = .ok (.iload_n 1, 1) := by decide +kernel
theorem dX10_songs_1 : decode cX10_songs 1 = .ok (.iconst 0, 1) := by decide +kernel
theorem dX10_songs_2 : decode cX10_songs 2 = .ok (.bipush 40, 2) := by decide +kernel
theorem dX10_songs_4 : decode cX10_songs 4 = .ok (.invokestatic 53, 3) := by decide +kernel
theorem dX10_songs_7 : decode cX10_songs 7 = .ok (.ifCond .eq 12, 3) := by decide +kernel
theorem dX10_songs_10 : decode cX10_songs 10 = .ok (.iload_n 2, 1) := by decide +kernel
theorem dX10_songs_11 : decode cX10_songs 11 = .ok (.iconst 0, 1) := by decide +kernel
theorem dX10_songs_12 : decode cX10_songs 12 = .ok (.iconst 1, 1) := by decide +kernel
theorem dX10_songs_13 : decode cX10_songs 13 = .ok (.invokestatic 53, 3) := by decide +kernel
theorem dX10_songs_16 : decode cX10_songs 16 = .ok (.ifCond .ne 6, 3) := by decide +kernel
theorem dX10_songs_19 : decode cX10_songs 19 = .ok (.bipush (-102), 2) := by decide +kernel
theorem dX10_songs_21 : decode cX10_songs 21 = .ok (.ireturn, 1) := by decide +kernel
theorem dX10_songs_22 : decode cX10_songs 22 = .ok (.aload_n 0, 1) := by decide +kernel
theorem dX10_songs_23 : decode cX10_songs 23 = .ok (.getfield 79, 3) := by decide +kernel
theorem dX10_songs_26 : decode cX10_songs 26 = .ok (.ifCond .ne 8, 3) := by decide +kernel
theorem dX10_songs_29 : decode cX10_songs 29 = .ok (.bipush (-103), 2) := by decide +kernel
theorem dX10_songs_31 : decode cX10_songs 31 = .ok (.goto 9, 3) := by decide +kernel
theorem dX10_songs_34 : decode cX10_songs 34 = .ok (.aload_n 0, 1) := by decide +kernel
theorem dX10_songs_35 : decode cX10_songs 35 = .ok (.iload_n 1, 1) := by decide +kernel
theorem dX10_songs_36 : decode cX10_songs 36 = .ok (.iload_n 2, 1) := by decide +kernel
theorem dX10_songs_37 : decode cX10_songs 37 = .ok (.invokevirtual 160, 3) := by decide +kernel
theorem dX10_songs_40 : decode cX10_songs 40 = .ok (.ireturn, 1) := by decide +kernel
set_option maxRecDepth 20000 in
theorem ggX10_asksNow_X10_size : GoodIn wsX10_asksNow wsX10_size := goodIn_r _ [9] (by decide +kernel) (by decide +kernel)
set_option maxRecDepth 20000 in
theorem gX10_asksNow_X10_size : GoodIn wsX10_asksNow (va_wsS RX10 142 yX10_size wsX10_size) := goodIn_app (goodIn_of _ (by decide +kernel)) ggX10_asksNow_X10_size
theorem dX10_asksNow_0 : decode cX10_asksNow 0 = .ok (.iconst 4, 1) := by decide +kernel
theorem dX10_asksNow_1 : decode cX10_asksNow 1 = .ok (.iload_n 1, 1) := by decide +kernel
theorem dX10_asksNow_2 : decode cX10_asksNow 2 = .ok (.imul, 1) := by decide +kernel
theorem dX10_asksNow_3 : decode cX10_asksNow 3 = .ok (.iload_n 2, 1) := by decide +kernel
theorem dX10_asksNow_4 : decode cX10_asksNow 4 = .ok (.iadd, 1) := by decide +kernel
theorem dX10_asksNow_5 : decode cX10_asksNow 5 = .ok (.istore_n 3, 1) := by decide +kernel
theorem dX10_asksNow_6 : decode cX10_asksNow 6 = .ok (.iconst (-1), 1) := by decide +kernel
theorem dX10_asksNow_7 : decode cX10_asksNow 7 = .ok (.istore 4, 2) := by decide +kernel
theorem dX10_asksNow_9 : decode cX10_asksNow 9 = .ok (.iconst 0, 1) := by decide +kernel
theorem dX10_asksNow_10 : decode cX10_asksNow 10 = .ok (.istore 5, 2) := by decide +kernel
theorem dX10_asksNow_12 : decode cX10_asksNow 12 = .ok (.iload 5, 2) := by decide +kernel
theorem dX10_asksNow_14 : decode cX10_asksNow 14 = .ok (.aload_n 0, 1) := by decide +kernel
theorem dX10_asksNow_15 : decode cX10_asksNow 15 = .ok (.getfield 16, 3) := by decide +kernel
theorem dX10_asksNow_18 : decode cX10_asksNow 18 = .ok (.iload_n 1, 1) := by decide +kernel
theorem dX10_asksNow_19 : decode cX10_asksNow 19 = .ok (.iaload, 1) := by decide +kernel
theorem dX10_asksNow_20 : decode cX10_asksNow 20 = .ok (.if_icmp .ge 111, 3) := by decide +kernel
theorem dX10_asksNow_23 : decode cX10_asksNow 23 = .ok (.aload_n 0, 1) := by decide +kernel
theorem dX10_asksNow_24 : decode cX10_asksNow 24 = .ok (.getfield 31, 3) := by decide +kernel
theorem dX10_asksNow_27 : decode cX10_asksNow 27 = .ok (.iload 5, 2) := by decide +kernel
theorem dX10_asksNow_29 : decode cX10_asksNow 29 = .ok (.iaload, 1) := by decide +kernel
theorem dX10_asksNow_30 : decode cX10_asksNow 30 = .ok (.istore 6, 2) := by decide +kernel
theorem dX10_asksNow_32 : decode cX10_asksNow 32 = .ok (.iconst 4, 1) := by decide +kernel
theorem dX10_asksNow_33 : decode cX10_asksNow 33 = .ok (.iload 6, 2) := by decide +kernel
theorem dX10_asksNow_35 : decode cX10_asksNow 35 = .ok (.imul, 1) := by decide +kernel
theorem dX10_asksNow_36 : decode cX10_asksNow 36 = .ok (.iload_n 2, 1) := by decide +kernel
theorem dX10_asksNow_37 : decode cX10_asksNow 37 = .ok (.iadd, 1) := by decide +kernel
theorem dX10_asksNow_38 : decode cX10_asksNow 38 = .ok (.istore 7, 2) := by decide +kernel
theorem dX10_asksNow_40 : decode cX10_asksNow 40 = .ok (.aload_n 0, 1) := by decide +kernel
theorem dX10_asksNow_41 : decode cX10_asksNow 41 = .ok (.getfield 25, 3) := by decide +kernel
theorem dX10_asksNow_44 : decode cX10_asksNow 44 = .ok (.iload 7, 2) := by decide +kernel
theorem dX10_asksNow_46 : decode cX10_asksNow 46 = .ok (.iaload, 1) := by decide +kernel
theorem dX10_asksNow_47 : decode cX10_asksNow 47 = .ok (.aload_n 0, 1) := by decide +kernel
theorem dX10_asksNow_48 : decode cX10_asksNow 48 = .ok (.getfield 25, 3) := by decide +kernel
theorem dX10_asksNow_51 : decode cX10_asksNow 51 = .ok (.iload_n 3, 1) := by decide +kernel
theorem dX10_asksNow_52 : decode cX10_asksNow 52 = .ok (.iaload, 1) := by decide +kernel
theorem dX10_asksNow_53 : decode cX10_asksNow 53 = .ok (.if_icmp .ne 29, 3) := by decide +kernel
theorem dX10_asksNow_56 : decode cX10_asksNow 56 = .ok (.aload_n 0, 1) := by decide +kernel
theorem dX10_asksNow_57 : decode cX10_asksNow 57 = .ok (.getfield 28, 3) := by decide +kernel
theorem dX10_asksNow_60 : decode cX10_asksNow 60 = .ok (.iload 7, 2) := by decide +kernel
theorem dX10_asksNow_62 : decode cX10_asksNow 62 = .ok (.iaload, 1) := by decide +kernel
theorem dX10_asksNow_63 : decode cX10_asksNow 63 = .ok (.invokestatic 142, 3) := by decide +kernel
theorem dX10_asksNow_66 : decode cX10_asksNow 66 = .ok (.aload_n 0, 1) := by decide +kernel
theorem dX10_asksNow_67 : decode cX10_asksNow 67 = .ok (.getfield 28, 3) := by decide +kernel
theorem dX10_asksNow_70 : decode cX10_asksNow 70 = .ok (.iload_n 3, 1) := by decide +kernel
theorem dX10_asksNow_71 : decode cX10_asksNow 71 = .ok (.iaload, 1) := by decide +kernel
theorem dX10_asksNow_72 : decode cX10_asksNow 72 = .ok (.invokestatic 142, 3) := by decide +kernel
theorem dX10_asksNow_75 : decode cX10_asksNow 75 = .ok (.if_icmp .ge 7, 3) := by decide +kernel
theorem dX10_asksNow_78 : decode cX10_asksNow 78 = .ok (.iconst 1, 1) := by decide +kernel
theorem dX10_asksNow_79 : decode cX10_asksNow 79 = .ok (.goto 4, 3) := by decide +kernel
theorem dX10_asksNow_82 : decode cX10_asksNow 82 = .ok (.iconst 0, 1) := by decide +kernel
theorem dX10_asksNow_83 : decode cX10_asksNow 83 = .ok (.istore 8, 2) := by decide +kernel
theorem dX10_asksNow_85 : decode cX10_asksNow 85 = .ok (.aload_n 0, 1) := by decide +kernel
theorem dX10_asksNow_86 : decode cX10_asksNow 86 = .ok (.getfield 19, 3) := by decide +kernel
theorem dX10_asksNow_89 : decode cX10_asksNow 89 = .ok (.iload 6, 2) := by decide +kernel
theorem dX10_asksNow_91 : decode cX10_asksNow 91 = .ok (.iaload, 1) := by decide +kernel
theorem dX10_asksNow_92 : decode cX10_asksNow 92 = .ok (.ifCond .ne 29, 3) := by decide +kernel
theorem dX10_asksNow_95 : decode cX10_asksNow 95 = .ok (.aload_n 0, 1) := by decide +kernel
theorem dX10_asksNow_96 : decode cX10_asksNow 96 = .ok (.getfield 25, 3) := by decide +kernel
theorem dX10_asksNow_99 : decode cX10_asksNow 99 = .ok (.iload 7, 2) := by decide +kernel
theorem dX10_asksNow_101 : decode cX10_asksNow 101 = .ok (.iaload, 1) := by decide +kernel
theorem dX10_asksNow_102 : decode cX10_asksNow 102 = .ok (.aload_n 0, 1) := by decide +kernel
theorem dX10_asksNow_103 : decode cX10_asksNow 103 = .ok (.getfield 25, 3) := by decide +kernel
theorem dX10_asksNow_106 : decode cX10_asksNow 106 = .ok (.iload_n 3, 1) := by decide +kernel
theorem dX10_asksNow_107 : decode cX10_asksNow 107 = .ok (.iaload, 1) := by decide +kernel
theorem dX10_asksNow_108 : decode cX10_asksNow 108 = .ok (.if_icmp .gt 8, 3) := by decide +kernel
theorem dX10_asksNow_111 : decode cX10_asksNow 111 = .ok (.iload 8, 2) := by decide +kernel
theorem dX10_asksNow_113 : decode cX10_asksNow 113 = .ok (.ifCond .eq 8, 3) := by decide +kernel
theorem dX10_asksNow_116 : decode cX10_asksNow 116 = .ok (.iload 6, 2) := by decide +kernel
theorem dX10_asksNow_118 : decode cX10_asksNow 118 = .ok (.goto 5, 3) := by decide +kernel
theorem dX10_asksNow_121 : decode cX10_asksNow 121 = .ok (.iload 4, 2) := by decide +kernel
theorem dX10_asksNow_123 : decode cX10_asksNow 123 = .ok (.istore 4, 2) := by decide +kernel
theorem dX10_asksNow_125 : decode cX10_asksNow 125 = .ok (.iinc 5 1, 3) := by decide +kernel
theorem dX10_asksNow_128 : decode cX10_asksNow 128 = .ok (.goto (-116), 3) := by decide +kernel
theorem dX10_asksNow_131 : decode cX10_asksNow 131 = .ok (.iload 4, 2) := by decide +kernel
theorem dX10_asksNow_133 : decode cX10_asksNow 133 = .ok (.ireturn, 1) := by decide +kernel
set_option maxRecDepth 20000 in
theorem ggX10_asks_X10_isChild : GoodIn wsX10_asks wsX10_isChild := goodIn_r _ [5, 6, 7, 8, 4, 9, 25, 26, 27, 28, 29, 30, 31, 32, 33, 34, 35, 36, 37, 38, 39, 40, 41, 42, 43, 44, 45, 46, 47, 48, 49] (by decide +kernel) (by decide +kernel)
set_option maxRecDepth 20000 in
theorem gX10_asks_X10_isChild : GoodIn wsX10_asks (wsV RX10 88 RX10 yX10_isChild wsX10_isChild) := goodIn_app (goodIn_of _ (by decide +kernel)) ggX10_asks_X10_isChild
set_option maxRecDepth 20000 in
theorem ggX10_asks_X10_isSubject : GoodIn wsX10_asks wsX10_isSubject := goodIn_r _ [12, 7, 8, 4, 9] (by decide +kernel) (by decide +kernel)
set_option maxRecDepth 20000 in
theorem gX10_asks_X10_isSubject : GoodIn wsX10_asks (va_wsS RX10 99 yX10_isSubject wsX10_isSubject) := goodIn_app (goodIn_of _ (by decide +kernel)) ggX10_asks_X10_isSubject
set_option maxRecDepth 20000 in
theorem ggX10_asks_X10_asksNow : GoodIn wsX10_asks wsX10_asksNow := goodIn_r _ [16, 17, 18, 19, 20, 21, 22, 23, 4, 24, 25, 26, 27, 28, 29, 30, 31, 32, 33, 34, 35, 36, 37, 38, 39, 40, 41, 42, 43, 44, 45, 46, 47, 48, 49] (by decide +kernel) (by decide +kernel)
set_option maxRecDepth 20000 in
theorem gX10_asks_X10_asksNow : GoodIn wsX10_asks (wsV RX10 163 RX10 yX10_asksNow wsX10_asksNow) := goodIn_app (goodIn_of _ (by decide +kernel)) ggX10_asks_X10_asksNow
theorem dX10_asks_0 : decode cX10_asks 0 = .ok (.aload_n 0, 1) := by decide +kernel
theorem dX10_asks_1 : decode cX10_asks 1 = .ok (.iload_n 1, 1) := by decide +kernel
theorem dX10_asks_2 : decode cX10_asks 2 = .ok (.invokevirtual 88, 3) := by decide +kernel
theorem dX10_asks_5 : decode cX10_asks 5 = .ok (.ifCond .eq 19, 3) := by decide +kernel
theorem dX10_asks_8 : decode cX10_asks 8 = .ok (.iload_n 2, 1) := by decide +kernel
theorem dX10_asks_9 : decode cX10_asks 9 = .ok (.invokestatic 99, 3) := by decide +kernel
theorem dX10_asks_12 : decode cX10_asks 12 = .ok (.ifCond .eq 12, 3) := by decide +kernel
theorem dX10_asks_15 : decode cX10_asks 15 = .ok (.aload_n 0, 1) := by decide +kernel
theorem dX10_asks_16 : decode cX10_asks 16 = .ok (.iload_n 1, 1) := by decide +kernel
theorem dX10_asks_17 : decode cX10_asks 17 = .ok (.iload_n 2, 1) := by decide +kernel
theorem dX10_asks_18 : decode cX10_asks 18 = .ok (.invokevirtual 163, 3) := by decide +kernel
theorem dX10_asks_21 : decode cX10_asks 21 = .ok (.goto 5, 3) := by decide +kernel
theorem dX10_asks_24 : decode cX10_asks 24 = .ok (.bipush (-101), 2) := by decide +kernel
theorem dX10_asks_26 : decode cX10_asks 26 = .ok (.ireturn, 1) := by decide +kernel
set_option maxRecDepth 20000 in
theorem ggX10_ordersNow_X10_orderMany : GoodIn wsX10_ordersNow wsX10_orderMany := goodIn_r _ [8, 9, 38, 39, 40, 41, 42, 43, 44, 45, 46, 47, 48, 49, 50, 51, 52, 53, 54, 55, 56, 57, 58, 59, 60, 61, 62] (by decide +kernel) (by decide +kernel)
set_option maxRecDepth 20000 in
theorem gX10_ordersNow_X10_orderMany : GoodIn wsX10_ordersNow (wsV RX10 129 RX10 yX10_orderMany wsX10_orderMany) := goodIn_app (goodIn_of _ (by decide +kernel)) ggX10_ordersNow_X10_orderMany
set_option maxRecDepth 20000 in
theorem ggX10_ordersNow_X10_tryOrder : GoodIn wsX10_ordersNow wsX10_tryOrder := goodIn_r _ [13, 14, 15, 16, 7, 17, 18, 1, 19, 20, 21, 22, 9, 2, 4, 5, 6, 8, 23, 24, 25, 26, 27, 28, 29, 30, 31, 32, 33, 34, 35, 36, 37, 38, 39, 40, 41, 42, 43, 44, 45, 46, 47, 48, 49, 50, 51, 52, 53, 54, 55, 56, 57, 58, 59, 60, 61, 62] (by decide +kernel) (by decide +kernel)
set_option maxRecDepth 20000 in
theorem gX10_ordersNow_X10_tryOrder : GoodIn wsX10_ordersNow (wsV RX10 139 RX10 yX10_tryOrder wsX10_tryOrder) := goodIn_app (goodIn_of _ (by decide +kernel)) ggX10_ordersNow_X10_tryOrder
theorem dX10_ordersNow_0 : decode cX10_ordersNow 0 = .ok (.iconst 0, 1) := by decide +kernel
theorem dX10_ordersNow_1 : decode cX10_ordersNow 1 = .ok (.istore 4, 2) := by decide +kernel
theorem dX10_ordersNow_3 : decode cX10_ordersNow 3 = .ok (.iconst 0, 1) := by decide +kernel
theorem dX10_ordersNow_4 : decode cX10_ordersNow 4 = .ok (.istore 5, 2) := by decide +kernel
theorem dX10_ordersNow_6 : decode cX10_ordersNow 6 = .ok (.iload 5, 2) := by decide +kernel
theorem dX10_ordersNow_8 : decode cX10_ordersNow 8 = .ok (.aload_n 0, 1) := by decide +kernel
theorem dX10_ordersNow_9 : decode cX10_ordersNow 9 = .ok (.invokevirtual 129, 3) := by decide +kernel
theorem dX10_ordersNow_12 : decode cX10_ordersNow 12 = .ok (.if_icmp .ge 74, 3) := by decide +kernel
theorem dX10_ordersNow_15 : decode cX10_ordersNow 15 = .ok (.aload_n 0, 1) := by decide +kernel
theorem dX10_ordersNow_16 : decode cX10_ordersNow 16 = .ok (.iload 5, 2) := by decide +kernel
theorem dX10_ordersNow_18 : decode cX10_ordersNow 18 = .ok (.invokevirtual 139, 3) := by decide +kernel
theorem dX10_ordersNow_21 : decode cX10_ordersNow 21 = .ok (.aload_n 0, 1) := by decide +kernel
theorem dX10_ordersNow_22 : decode cX10_ordersNow 22 = .ok (.getfield 28, 3) := by decide +kernel
theorem dX10_ordersNow_25 : decode cX10_ordersNow 25 = .ok (.bipush 24, 2) := by decide +kernel
theorem dX10_ordersNow_27 : decode cX10_ordersNow 27 = .ok (.iconst 4, 1) := by decide +kernel
theorem dX10_ordersNow_28 : decode cX10_ordersNow 28 = .ok (.iload_n 1, 1) := by decide +kernel
theorem dX10_ordersNow_29 : decode cX10_ordersNow 29 = .ok (.imul, 1) := by decide +kernel
theorem dX10_ordersNow_30 : decode cX10_ordersNow 30 = .ok (.iadd, 1) := by decide +kernel
theorem dX10_ordersNow_31 : decode cX10_ordersNow 31 = .ok (.iaload, 1) := by decide +kernel
theorem dX10_ordersNow_32 : decode cX10_ordersNow 32 = .ok (.iload_n 2, 1) := by decide +kernel
theorem dX10_ordersNow_33 : decode cX10_ordersNow 33 = .ok (.if_icmp .ne 7, 3) := by decide +kernel
theorem dX10_ordersNow_36 : decode cX10_ordersNow 36 = .ok (.iconst 1, 1) := by decide +kernel
theorem dX10_ordersNow_37 : decode cX10_ordersNow 37 = .ok (.goto 4, 3) := by decide +kernel
theorem dX10_ordersNow_40 : decode cX10_ordersNow 40 = .ok (.iconst 0, 1) := by decide +kernel
theorem dX10_ordersNow_41 : decode cX10_ordersNow 41 = .ok (.istore 6, 2) := by decide +kernel
theorem dX10_ordersNow_43 : decode cX10_ordersNow 43 = .ok (.iload 4, 2) := by decide +kernel
theorem dX10_ordersNow_45 : decode cX10_ordersNow 45 = .ok (.iload 6, 2) := by decide +kernel
theorem dX10_ordersNow_47 : decode cX10_ordersNow 47 = .ok (.ifCond .eq 29, 3) := by decide +kernel
theorem dX10_ordersNow_50 : decode cX10_ordersNow 50 = .ok (.iload_n 3, 1) := by decide +kernel
theorem dX10_ordersNow_51 : decode cX10_ordersNow 51 = .ok (.ifCond .eq 21, 3) := by decide +kernel
theorem dX10_ordersNow_54 : decode cX10_ordersNow 54 = .ok (.aload_n 0, 1) := by decide +kernel
theorem dX10_ordersNow_55 : decode cX10_ordersNow 55 = .ok (.getfield 31, 3) := by decide +kernel
theorem dX10_ordersNow_58 : decode cX10_ordersNow 58 = .ok (.bipush 6, 2) := by decide +kernel
theorem dX10_ordersNow_60 : decode cX10_ordersNow 60 = .ok (.aload_n 0, 1) := by decide +kernel
theorem dX10_ordersNow_61 : decode cX10_ordersNow 61 = .ok (.getfield 16, 3) := by decide +kernel
theorem dX10_ordersNow_64 : decode cX10_ordersNow 64 = .ok (.iload_n 1, 1) := by decide +kernel
theorem dX10_ordersNow_65 : decode cX10_ordersNow 65 = .ok (.iaload, 1) := by decide +kernel
theorem dX10_ordersNow_66 : decode cX10_ordersNow 66 = .ok (.iadd, 1) := by decide +kernel
theorem dX10_ordersNow_67 : decode cX10_ordersNow 67 = .ok (.iaload, 1) := by decide +kernel
theorem dX10_ordersNow_68 : decode cX10_ordersNow 68 = .ok (.iload_n 1, 1) := by decide +kernel
theorem dX10_ordersNow_69 : decode cX10_ordersNow 69 = .ok (.if_icmp .ne 7, 3) := by decide +kernel
theorem dX10_ordersNow_72 : decode cX10_ordersNow 72 = .ok (.iconst 1, 1) := by decide +kernel
theorem dX10_ordersNow_73 : decode cX10_ordersNow 73 = .ok (.goto 4, 3) := by decide +kernel
theorem dX10_ordersNow_76 : decode cX10_ordersNow 76 = .ok (.iconst 0, 1) := by decide +kernel
theorem dX10_ordersNow_77 : decode cX10_ordersNow 77 = .ok (.iadd, 1) := by decide +kernel
theorem dX10_ordersNow_78 : decode cX10_ordersNow 78 = .ok (.istore 4, 2) := by decide +kernel
theorem dX10_ordersNow_80 : decode cX10_ordersNow 80 = .ok (.iinc 5 1, 3) := by decide +kernel
theorem dX10_ordersNow_83 : decode cX10_ordersNow 83 = .ok (.goto (-77), 3) := by decide +kernel
theorem dX10_ordersNow_86 : decode cX10_ordersNow 86 = .ok (.iload 4, 2) := by decide +kernel
theorem dX10_ordersNow_88 : decode cX10_ordersNow 88 = .ok (.ireturn, 1) := by decide +kernel
set_option maxRecDepth 20000 in
theorem ggX10_orders_X10_isChild : GoodIn wsX10_orders wsX10_isChild := goodIn_r _ [6, 1, 7, 8, 5, 9, 49, 50, 51, 52, 53, 54, 55, 56, 57, 58, 59, 60, 61, 62, 63, 64, 65, 66, 67, 68, 69, 70, 71, 72, 73] (by decide +kernel) (by decide +kernel)
set_option maxRecDepth 20000 in
theorem gX10_orders_X10_isChild : GoodIn wsX10_orders (wsV RX10 88 RX10 yX10_isChild wsX10_isChild) := goodIn_app (goodIn_of _ (by decide +kernel)) ggX10_orders_X10_isChild
set_option maxRecDepth 20000 in
theorem ggX10_orders_X10_within : GoodIn wsX10_orders wsX10_within := goodIn_r _ [9] (by decide +kernel) (by decide +kernel)
set_option maxRecDepth 20000 in
theorem gX10_orders_X10_within : GoodIn wsX10_orders (va_wsS RX10 53 yX10_within wsX10_within) := goodIn_app (goodIn_of _ (by decide +kernel)) ggX10_orders_X10_within
set_option maxRecDepth 20000 in
theorem ggX10_orders_X10_ordersNow : GoodIn wsX10_orders wsX10_ordersNow := goodIn_r _ [13, 14, 15, 16, 17, 18, 19, 5, 20, 1, 21, 22, 23, 24, 25, 26, 27, 28, 29, 30, 31, 32, 33, 34, 35, 36, 37, 38, 39, 40, 41, 42, 43, 44, 45, 46, 47, 48, 49, 50, 51, 52, 53, 54, 55, 56, 57, 58, 59, 60, 61, 62, 63, 64, 65, 66, 67, 68, 69, 70, 71, 72, 73] (by decide +kernel) (by decide +kernel)
set_option maxRecDepth 20000 in
theorem gX10_orders_X10_ordersNow : GoodIn wsX10_orders (wsV RX10 166 RX10 yX10_ordersNow wsX10_ordersNow) := goodIn_app (goodIn_of _ (by decide +kernel)) ggX10_orders_X10_ordersNow
theorem dX10_orders_0 : decode cX10_orders 0 = .ok (.aload_n 0, 1) := by decide +kernel
theorem dX10_orders_1 : decode cX10_orders 1 = .ok (.iload_n 1, 1) := by decide +kernel
theorem dX10_orders_2 : decode cX10_orders 2 = .ok (.invokevirtual 88, 3) := by decide +kernel
theorem dX10_orders_5 : decode cX10_orders 5 = .ok (.ifCond .ne 6, 3) := by decide +kernel
theorem dX10_orders_8 : decode cX10_orders 8 = .ok (.bipush (-101), 2) := by decide +kernel
theorem dX10_orders_10 : decode cX10_orders 10 = .ok (.ireturn, 1) := by decide +kernel
theorem dX10_orders_11 : decode cX10_orders 11 = .ok (.iload_n 2, 1) := by decide +kernel
theorem dX10_orders_12 : decode cX10_orders 12 = .ok (.iconst 0, 1) := by decide +kernel
theorem dX10_orders_13 : decode cX10_orders 13 = .ok (.iconst 1, 1) := by decide +kernel
theorem dX10_orders_14 : decode cX10_orders 14 = .ok (.aload_n 0, 1) := by decide +kernel
theorem dX10_orders_15 : decode cX10_orders 15 = .ok (.getfield 79, 3) := by decide +kernel
theorem dX10_orders_18 : decode cX10_orders 18 = .ok (.ishl, 1) := by decide +kernel
theorem dX10_orders_19 : decode cX10_orders 19 = .ok (.iconst 1, 1) := by decide +kernel
theorem dX10_orders_20 : decode cX10_orders 20 = .ok (.isub, 1) := by decide +kernel
theorem dX10_orders_21 : decode cX10_orders 21 = .ok (.invokestatic 53, 3) := by decide +kernel
theorem dX10_orders_24 : decode cX10_orders 24 = .ok (.ifCond .eq 12, 3) := by decide +kernel
theorem dX10_orders_27 : decode cX10_orders 27 = .ok (.iload_n 3, 1) := by decide +kernel
theorem dX10_orders_28 : decode cX10_orders 28 = .ok (.iconst 0, 1) := by decide +kernel
theorem dX10_orders_29 : decode cX10_orders 29 = .ok (.iconst 1, 1) := by decide +kernel
theorem dX10_orders_30 : decode cX10_orders 30 = .ok (.invokestatic 53, 3) := by decide +kernel
theorem dX10_orders_33 : decode cX10_orders 33 = .ok (.ifCond .ne 6, 3) := by decide +kernel
theorem dX10_orders_36 : decode cX10_orders 36 = .ok (.bipush (-102), 2) := by decide +kernel
theorem dX10_orders_38 : decode cX10_orders 38 = .ok (.ireturn, 1) := by decide +kernel
theorem dX10_orders_39 : decode cX10_orders 39 = .ok (.aload_n 0, 1) := by decide +kernel
theorem dX10_orders_40 : decode cX10_orders 40 = .ok (.iload_n 1, 1) := by decide +kernel
theorem dX10_orders_41 : decode cX10_orders 41 = .ok (.iload_n 2, 1) := by decide +kernel
theorem dX10_orders_42 : decode cX10_orders 42 = .ok (.iload_n 3, 1) := by decide +kernel
theorem dX10_orders_43 : decode cX10_orders 43 = .ok (.invokevirtual 166, 3) := by decide +kernel
theorem dX10_orders_46 : decode cX10_orders 46 = .ok (.ireturn, 1) := by decide +kernel
set_option maxRecDepth 20000 in
theorem ggX10_tell_X10_isChild : GoodIn wsX10_tell wsX10_isChild := goodIn_r _ [6, 7, 8, 9, 5, 10, 11, 12, 13, 14, 15, 16, 17, 18, 19, 20, 21, 22, 23, 24, 25, 26, 27, 28, 29, 30, 31, 32, 33, 34, 35] (by decide +kernel) (by decide +kernel)
set_option maxRecDepth 20000 in
theorem gX10_tell_X10_isChild : GoodIn wsX10_tell (wsV RX10 88 RX10 yX10_isChild wsX10_isChild) := goodIn_app (goodIn_of _ (by decide +kernel)) ggX10_tell_X10_isChild
set_option maxRecDepth 20000 in
theorem ggX10_tell_X10_within : GoodIn wsX10_tell wsX10_within := goodIn_r _ [10] (by decide +kernel) (by decide +kernel)
set_option maxRecDepth 20000 in
theorem gX10_tell_X10_within : GoodIn wsX10_tell (va_wsS RX10 53 yX10_within wsX10_within) := goodIn_app (goodIn_of _ (by decide +kernel)) ggX10_tell_X10_within
theorem dX10_tell_0 : decode cX10_tell 0 = .ok (.aload_n 0, 1) := by decide +kernel
theorem dX10_tell_1 : decode cX10_tell 1 = .ok (.iload_n 1, 1) := by decide +kernel
theorem dX10_tell_2 : decode cX10_tell 2 = .ok (.invokevirtual 88, 3) := by decide +kernel
theorem dX10_tell_5 : decode cX10_tell 5 = .ok (.ifCond .ne 6, 3) := by decide +kernel
theorem dX10_tell_8 : decode cX10_tell 8 = .ok (.bipush (-101), 2) := by decide +kernel
theorem dX10_tell_10 : decode cX10_tell 10 = .ok (.ireturn, 1) := by decide +kernel
theorem dX10_tell_11 : decode cX10_tell 11 = .ok (.iload_n 2, 1) := by decide +kernel
theorem dX10_tell_12 : decode cX10_tell 12 = .ok (.iconst (-1), 1) := by decide +kernel
theorem dX10_tell_13 : decode cX10_tell 13 = .ok (.iconst 1, 1) := by decide +kernel
theorem dX10_tell_14 : decode cX10_tell 14 = .ok (.invokestatic 53, 3) := by decide +kernel
theorem dX10_tell_17 : decode cX10_tell 17 = .ok (.ifCond .ne 6, 3) := by decide +kernel
theorem dX10_tell_20 : decode cX10_tell 20 = .ok (.bipush (-102), 2) := by decide +kernel
theorem dX10_tell_22 : decode cX10_tell 22 = .ok (.ireturn, 1) := by decide +kernel
theorem dX10_tell_23 : decode cX10_tell 23 = .ok (.aload_n 0, 1) := by decide +kernel
theorem dX10_tell_24 : decode cX10_tell 24 = .ok (.getfield 22, 3) := by decide +kernel
theorem dX10_tell_27 : decode cX10_tell 27 = .ok (.iload_n 1, 1) := by decide +kernel
theorem dX10_tell_28 : decode cX10_tell 28 = .ok (.iaload, 1) := by decide +kernel
theorem dX10_tell_29 : decode cX10_tell 29 = .ok (.istore_n 3, 1) := by decide +kernel
theorem dX10_tell_30 : decode cX10_tell 30 = .ok (.aload_n 0, 1) := by decide +kernel
theorem dX10_tell_31 : decode cX10_tell 31 = .ok (.getfield 22, 3) := by decide +kernel
theorem dX10_tell_34 : decode cX10_tell 34 = .ok (.iload_n 1, 1) := by decide +kernel
theorem dX10_tell_35 : decode cX10_tell 35 = .ok (.iload_n 2, 1) := by decide +kernel
theorem dX10_tell_36 : decode cX10_tell 36 = .ok (.iastore, 1) := by decide +kernel
theorem dX10_tell_37 : decode cX10_tell 37 = .ok (.iload_n 3, 1) := by decide +kernel
theorem dX10_tell_38 : decode cX10_tell 38 = .ok (.ireturn, 1) := by decide +kernel
set_option maxRecDepth 20000 in
theorem ggX10_isSickSo_X10_clear : GoodIn wsX10_isSickSo wsX10_clear := goodIn_r _ [8, 2, 9, 26, 27, 28, 29, 30, 31, 32, 33, 34, 35, 36, 37, 38, 39, 40, 41, 42, 43, 44, 45, 46, 47, 48, 49, 50] (by decide +kernel) (by decide +kernel)
set_option maxRecDepth 20000 in
theorem gX10_isSickSo_X10_clear : GoodIn wsX10_isSickSo (wsV RX10 132 RX10 yX10_clear wsX10_clear) := goodIn_app (goodIn_of _ (by decide +kernel)) ggX10_isSickSo_X10_clear
set_option maxRecDepth 20000 in
theorem ggX10_isSickSo_X10_teach : GoodIn wsX10_isSickSo wsX10_teach := goodIn_r _ [13, 14, 15, 1, 16, 2, 9, 17, 18, 19, 20, 7, 21, 22, 23, 24, 25, 26, 27, 28, 29, 30, 31, 32, 33, 34, 35, 36, 37, 38, 39, 40, 41, 42, 43, 44, 45, 46, 47, 48, 49, 50] (by decide +kernel) (by decide +kernel)
set_option maxRecDepth 20000 in
theorem gX10_isSickSo_X10_teach : GoodIn wsX10_isSickSo (wsV RX10 122 RX10 yX10_teach wsX10_teach) := goodIn_app (goodIn_of _ (by decide +kernel)) ggX10_isSickSo_X10_teach
theorem dX10_isSickSo_0 : decode cX10_isSickSo 0 = .ok (.aload_n 0, 1) := by decide +kernel
theorem dX10_isSickSo_1 : decode cX10_isSickSo 1 = .ok (.invokevirtual 132, 3) := by decide +kernel
theorem dX10_isSickSo_4 : decode cX10_isSickSo 4 = .ok (.aload_n 0, 1) := by decide +kernel
theorem dX10_isSickSo_5 : decode cX10_isSickSo 5 = .ok (.bipush 24, 2) := by decide +kernel
theorem dX10_isSickSo_7 : decode cX10_isSickSo 7 = .ok (.bipush 6, 2) := by decide +kernel
theorem dX10_isSickSo_9 : decode cX10_isSickSo 9 = .ok (.iconst 0, 1) := by decide +kernel
theorem dX10_isSickSo_10 : decode cX10_isSickSo 10 = .ok (.iconst 0, 1) := by decide +kernel
theorem dX10_isSickSo_11 : decode cX10_isSickSo 11 = .ok (.iload_n 1, 1) := by decide +kernel
theorem dX10_isSickSo_12 : decode cX10_isSickSo 12 = .ok (.invokevirtual 122, 3) := by decide +kernel
theorem dX10_isSickSo_15 : decode cX10_isSickSo 15 = .ok (.pop, 1) := by decide +kernel
theorem dX10_isSickSo_16 : decode cX10_isSickSo 16 = .ok (.iconst 1, 1) := by decide +kernel
theorem dX10_isSickSo_17 : decode cX10_isSickSo 17 = .ok (.istore_n 2, 1) := by decide +kernel
theorem dX10_isSickSo_18 : decode cX10_isSickSo 18 = .ok (.iconst 0, 1) := by decide +kernel
theorem dX10_isSickSo_19 : decode cX10_isSickSo 19 = .ok (.istore_n 3, 1) := by decide +kernel
theorem dX10_isSickSo_20 : decode cX10_isSickSo 20 = .ok (.iload_n 3, 1) := by decide +kernel
theorem dX10_isSickSo_21 : decode cX10_isSickSo 21 = .ok (.aload_n 0, 1) := by decide +kernel
theorem dX10_isSickSo_22 : decode cX10_isSickSo 22 = .ok (.getfield 79, 3) := by decide +kernel
theorem dX10_isSickSo_25 : decode cX10_isSickSo 25 = .ok (.if_icmp .ge 61, 3) := by decide +kernel
theorem dX10_isSickSo_28 : decode cX10_isSickSo 28 = .ok (.aload_n 0, 1) := by decide +kernel
theorem dX10_isSickSo_29 : decode cX10_isSickSo 29 = .ok (.getfield 25, 3) := by decide +kernel
theorem dX10_isSickSo_32 : decode cX10_isSickSo 32 = .ok (.bipush 24, 2) := by decide +kernel
theorem dX10_isSickSo_34 : decode cX10_isSickSo 34 = .ok (.iconst 4, 1) := by decide +kernel
theorem dX10_isSickSo_35 : decode cX10_isSickSo 35 = .ok (.iload_n 3, 1) := by decide +kernel
theorem dX10_isSickSo_36 : decode cX10_isSickSo 36 = .ok (.imul, 1) := by decide +kernel
theorem dX10_isSickSo_37 : decode cX10_isSickSo 37 = .ok (.iadd, 1) := by decide +kernel
theorem dX10_isSickSo_38 : decode cX10_isSickSo 38 = .ok (.iaload, 1) := by decide +kernel
theorem dX10_isSickSo_39 : decode cX10_isSickSo 39 = .ok (.ifCond .le 7, 3) := by decide +kernel
theorem dX10_isSickSo_42 : decode cX10_isSickSo 42 = .ok (.iconst 1, 1) := by decide +kernel
theorem dX10_isSickSo_43 : decode cX10_isSickSo 43 = .ok (.goto 4, 3) := by decide +kernel
theorem dX10_isSickSo_46 : decode cX10_isSickSo 46 = .ok (.iconst 0, 1) := by decide +kernel
theorem dX10_isSickSo_47 : decode cX10_isSickSo 47 = .ok (.istore 4, 2) := by decide +kernel
theorem dX10_isSickSo_49 : decode cX10_isSickSo 49 = .ok (.iload_n 2, 1) := by decide +kernel
theorem dX10_isSickSo_50 : decode cX10_isSickSo 50 = .ok (.ifCond .eq 28, 3) := by decide +kernel
theorem dX10_isSickSo_53 : decode cX10_isSickSo 53 = .ok (.aload_n 0, 1) := by decide +kernel
theorem dX10_isSickSo_54 : decode cX10_isSickSo 54 = .ok (.getfield 22, 3) := by decide +kernel
theorem dX10_isSickSo_57 : decode cX10_isSickSo 57 = .ok (.iload_n 3, 1) := by decide +kernel
theorem dX10_isSickSo_58 : decode cX10_isSickSo 58 = .ok (.iaload, 1) := by decide +kernel
theorem dX10_isSickSo_59 : decode cX10_isSickSo 59 = .ok (.iconst (-1), 1) := by decide +kernel
theorem dX10_isSickSo_60 : decode cX10_isSickSo 60 = .ok (.if_icmp .eq 14, 3) := by decide +kernel
theorem dX10_isSickSo_63 : decode cX10_isSickSo 63 = .ok (.aload_n 0, 1) := by decide +kernel
theorem dX10_isSickSo_64 : decode cX10_isSickSo 64 = .ok (.getfield 22, 3) := by decide +kernel
theorem dX10_isSickSo_67 : decode cX10_isSickSo 67 = .ok (.iload_n 3, 1) := by decide +kernel
theorem dX10_isSickSo_68 : decode cX10_isSickSo 68 = .ok (.iaload, 1) := by decide +kernel
theorem dX10_isSickSo_69 : decode cX10_isSickSo 69 = .ok (.iload 4, 2) := by decide +kernel
theorem dX10_isSickSo_71 : decode cX10_isSickSo 71 = .ok (.if_icmp .ne 7, 3) := by decide +kernel
theorem dX10_isSickSo_74 : decode cX10_isSickSo 74 = .ok (.iconst 1, 1) := by decide +kernel
theorem dX10_isSickSo_75 : decode cX10_isSickSo 75 = .ok (.goto 4, 3) := by decide +kernel
theorem dX10_isSickSo_78 : decode cX10_isSickSo 78 = .ok (.iconst 0, 1) := by decide +kernel
theorem dX10_isSickSo_79 : decode cX10_isSickSo 79 = .ok (.istore_n 2, 1) := by decide +kernel
theorem dX10_isSickSo_80 : decode cX10_isSickSo 80 = .ok (.iinc 3 1, 3) := by decide +kernel
theorem dX10_isSickSo_83 : decode cX10_isSickSo 83 = .ok (.goto (-63), 3) := by decide +kernel
theorem dX10_isSickSo_86 : decode cX10_isSickSo 86 = .ok (.iload_n 2, 1) := by decide +kernel
theorem dX10_isSickSo_87 : decode cX10_isSickSo 87 = .ok (.ireturn, 1) := by decide +kernel
set_option maxRecDepth 20000 in
theorem ggX10_sickNow_X10_isSickSo : GoodIn wsX10_sickNow wsX10_isSickSo := goodIn_r _ [7, 1, 8, 9, 10, 11, 12, 6, 13, 14, 15, 16, 17, 18, 19, 20, 2, 21, 22, 23, 24, 25, 26, 27, 28, 29, 30, 31, 32, 33, 34, 35, 36, 37, 38, 39, 40, 41, 42, 43, 44, 45, 46, 47, 48, 49, 50, 51, 52, 53, 54] (by decide +kernel) (by decide +kernel)
set_option maxRecDepth 20000 in
theorem gX10_sickNow_X10_isSickSo : GoodIn wsX10_sickNow (wsV RX10 169 RX10 yX10_isSickSo wsX10_isSickSo) := goodIn_app (goodIn_of _ (by decide +kernel)) ggX10_sickNow_X10_isSickSo
theorem dX10_sickNow_0 : decode cX10_sickNow 0 = .ok (.iconst 0, 1) := by decide +kernel
theorem dX10_sickNow_1 : decode cX10_sickNow 1 = .ok (.istore_n 2, 1) := by decide +kernel
theorem dX10_sickNow_2 : decode cX10_sickNow 2 = .ok (.iconst 1, 1) := by decide +kernel
theorem dX10_sickNow_3 : decode cX10_sickNow 3 = .ok (.aload_n 0, 1) := by decide +kernel
theorem dX10_sickNow_4 : decode cX10_sickNow 4 = .ok (.getfield 79, 3) := by decide +kernel
theorem dX10_sickNow_7 : decode cX10_sickNow 7 = .ok (.ishl, 1) := by decide +kernel
theorem dX10_sickNow_8 : decode cX10_sickNow 8 = .ok (.iconst 1, 1) := by decide +kernel
theorem dX10_sickNow_9 : decode cX10_sickNow 9 = .ok (.isub, 1) := by decide +kernel
theorem dX10_sickNow_10 : decode cX10_sickNow 10 = .ok (.istore_n 3, 1) := by decide +kernel
theorem dX10_sickNow_11 : decode cX10_sickNow 11 = .ok (.iconst 0, 1) := by decide +kernel
theorem dX10_sickNow_12 : decode cX10_sickNow 12 = .ok (.istore 4, 2) := by decide +kernel
theorem dX10_sickNow_14 : decode cX10_sickNow 14 = .ok (.iload 4, 2) := by decide +kernel
theorem dX10_sickNow_16 : decode cX10_sickNow 16 = .ok (.aload_n 0, 1) := by decide +kernel
theorem dX10_sickNow_17 : decode cX10_sickNow 17 = .ok (.getfield 79, 3) := by decide +kernel
theorem dX10_sickNow_20 : decode cX10_sickNow 20 = .ok (.if_icmp .ge 26, 3) := by decide +kernel
theorem dX10_sickNow_23 : decode cX10_sickNow 23 = .ok (.aload_n 0, 1) := by decide +kernel
theorem dX10_sickNow_24 : decode cX10_sickNow 24 = .ok (.getfield 31, 3) := by decide +kernel
theorem dX10_sickNow_27 : decode cX10_sickNow 27 = .ok (.bipush 6, 2) := by decide +kernel
theorem dX10_sickNow_29 : decode cX10_sickNow 29 = .ok (.iload 4, 2) := by decide +kernel
theorem dX10_sickNow_31 : decode cX10_sickNow 31 = .ok (.iadd, 1) := by decide +kernel
theorem dX10_sickNow_32 : decode cX10_sickNow 32 = .ok (.aload_n 0, 1) := by decide +kernel
theorem dX10_sickNow_33 : decode cX10_sickNow 33 = .ok (.getfield 31, 3) := by decide +kernel
theorem dX10_sickNow_36 : decode cX10_sickNow 36 = .ok (.iload 4, 2) := by decide +kernel
theorem dX10_sickNow_38 : decode cX10_sickNow 38 = .ok (.iaload, 1) := by decide +kernel
theorem dX10_sickNow_39 : decode cX10_sickNow 39 = .ok (.iastore, 1) := by decide +kernel
theorem dX10_sickNow_40 : decode cX10_sickNow 40 = .ok (.iinc 4 1, 3) := by decide +kernel
theorem dX10_sickNow_43 : decode cX10_sickNow 43 = .ok (.goto (-29), 3) := by decide +kernel
theorem dX10_sickNow_46 : decode cX10_sickNow 46 = .ok (.iconst 0, 1) := by decide +kernel
theorem dX10_sickNow_47 : decode cX10_sickNow 47 = .ok (.istore 4, 2) := by decide +kernel
theorem dX10_sickNow_49 : decode cX10_sickNow 49 = .ok (.iload 4, 2) := by decide +kernel
theorem dX10_sickNow_51 : decode cX10_sickNow 51 = .ok (.iconst 1, 1) := by decide +kernel
theorem dX10_sickNow_52 : decode cX10_sickNow 52 = .ok (.aload_n 0, 1) := by decide +kernel
theorem dX10_sickNow_53 : decode cX10_sickNow 53 = .ok (.getfield 79, 3) := by decide +kernel
theorem dX10_sickNow_56 : decode cX10_sickNow 56 = .ok (.ishl, 1) := by decide +kernel
theorem dX10_sickNow_57 : decode cX10_sickNow 57 = .ok (.if_icmp .ge 26, 3) := by decide +kernel
theorem dX10_sickNow_60 : decode cX10_sickNow 60 = .ok (.aload_n 0, 1) := by decide +kernel
theorem dX10_sickNow_61 : decode cX10_sickNow 61 = .ok (.iload 4, 2) := by decide +kernel
theorem dX10_sickNow_63 : decode cX10_sickNow 63 = .ok (.invokevirtual 169, 3) := by decide +kernel
theorem dX10_sickNow_66 : decode cX10_sickNow 66 = .ok (.ifCond .eq 11, 3) := by decide +kernel
theorem dX10_sickNow_69 : decode cX10_sickNow 69 = .ok (.iinc 2 1, 3) := by decide +kernel
theorem dX10_sickNow_72 : decode cX10_sickNow 72 = .ok (.iload_n 3, 1) := by decide +kernel
theorem dX10_sickNow_73 : decode cX10_sickNow 73 = .ok (.iload 4, 2) := by decide +kernel
theorem dX10_sickNow_75 : decode cX10_sickNow 75 = .ok (.iand, 1) := by decide +kernel
theorem dX10_sickNow_76 : decode cX10_sickNow 76 = .ok (.istore_n 3, 1) := by decide +kernel
theorem dX10_sickNow_77 : decode cX10_sickNow 77 = .ok (.iinc 4 1, 3) := by decide +kernel
theorem dX10_sickNow_80 : decode cX10_sickNow 80 = .ok (.goto (-31), 3) := by decide +kernel
theorem dX10_sickNow_83 : decode cX10_sickNow 83 = .ok (.iload_n 1, 1) := by decide +kernel
theorem dX10_sickNow_84 : decode cX10_sickNow 84 = .ok (.ifCond .ne 7, 3) := by decide +kernel
theorem dX10_sickNow_87 : decode cX10_sickNow 87 = .ok (.iload_n 2, 1) := by decide +kernel
theorem dX10_sickNow_88 : decode cX10_sickNow 88 = .ok (.goto 12, 3) := by decide +kernel
theorem dX10_sickNow_91 : decode cX10_sickNow 91 = .ok (.iload_n 2, 1) := by decide +kernel
theorem dX10_sickNow_92 : decode cX10_sickNow 92 = .ok (.ifCond .ne 7, 3) := by decide +kernel
theorem dX10_sickNow_95 : decode cX10_sickNow 95 = .ok (.iconst 0, 1) := by decide +kernel
theorem dX10_sickNow_96 : decode cX10_sickNow 96 = .ok (.goto 4, 3) := by decide +kernel
theorem dX10_sickNow_99 : decode cX10_sickNow 99 = .ok (.iload_n 3, 1) := by decide +kernel
theorem dX10_sickNow_100 : decode cX10_sickNow 100 = .ok (.ireturn, 1) := by decide +kernel
set_option maxRecDepth 20000 in
theorem ggX10_sick_X10_within : GoodIn wsX10_sick wsX10_within := goodIn_r _ [5] (by decide +kernel) (by decide +kernel)
set_option maxRecDepth 20000 in
theorem gX10_sick_X10_within : GoodIn wsX10_sick (va_wsS RX10 53 yX10_within wsX10_within) := goodIn_app (goodIn_of _ (by decide +kernel)) ggX10_sick_X10_within
set_option maxRecDepth 20000 in
theorem ggX10_sick_X10_sickNow : GoodIn wsX10_sick wsX10_sickNow := goodIn_r _ [9, 1, 10, 11, 12, 13, 4, 14, 15, 16, 17, 18, 19, 20, 21, 22, 23, 24, 25, 26, 27, 28, 29, 30, 31, 32, 33, 34, 35, 36, 37, 38, 39, 40, 41, 42, 43, 44, 45, 46, 47, 48, 49, 50, 51, 52, 53, 54, 55, 56, 57, 58, 59, 60, 61] (by decide +kernel) (by decide +kernel)
set_option maxRecDepth 20000 in
theorem gX10_sick_X10_sickNow : GoodIn wsX10_sick (wsV RX10 172 RX10 yX10_sickNow wsX10_sickNow) := goodIn_app (goodIn_of _ (by decide +kernel)) ggX10_sick_X10_sickNow
theorem dX10_sick_0 : decode cX10_sick 0 = .ok (.iload_n 1, 1) := by decide +kernel
theorem dX10_sick_1 : decode cX10_sick 1 = .ok (.iconst 0, 1) := by decide +kernel
theorem dX10_sick_2 : decode cX10_sick 2 = .ok (.iconst 1, 1) := by decide +kernel
theorem dX10_sick_3 : decode cX10_sick 3 = .ok (.invokestatic 53, 3) := by decide +kernel
theorem dX10_sick_6 : decode cX10_sick 6 = .ok (.ifCond .ne 6, 3) := by decide +kernel
theorem dX10_sick_9 : decode cX10_sick 9 = .ok (.bipush (-102), 2) := by decide +kernel
theorem dX10_sick_11 : decode cX10_sick 11 = .ok (.ireturn, 1) := by decide +kernel
theorem dX10_sick_12 : decode cX10_sick 12 = .ok (.aload_n 0, 1) := by decide +kernel
theorem dX10_sick_13 : decode cX10_sick 13 = .ok (.getfield 79, 3) := by decide +kernel
theorem dX10_sick_16 : decode cX10_sick 16 = .ok (.ifCond .ne 8, 3) := by decide +kernel
theorem dX10_sick_19 : decode cX10_sick 19 = .ok (.bipush (-103), 2) := by decide +kernel
theorem dX10_sick_21 : decode cX10_sick 21 = .ok (.goto 8, 3) := by decide +kernel
theorem dX10_sick_24 : decode cX10_sick 24 = .ok (.aload_n 0, 1) := by decide +kernel
theorem dX10_sick_25 : decode cX10_sick 25 = .ok (.iload_n 1, 1) := by decide +kernel
theorem dX10_sick_26 : decode cX10_sick 26 = .ok (.invokevirtual 172, 3) := by decide +kernel
theorem dX10_sick_29 : decode cX10_sick 29 = .ok (.ireturn, 1) := by decide +kernel
theorem dX10_draw_0 : decode cX10_draw 0 = .ok (.aload_n 0, 1) := by decide +kernel
theorem dX10_draw_1 : decode cX10_draw 1 = .ok (.ldc2_w 175, 3) := by decide +kernel
theorem dX10_draw_4 : decode cX10_draw 4 = .ok (.aload_n 0, 1) := by decide +kernel
theorem dX10_draw_5 : decode cX10_draw 5 = .ok (.getfield 177, 3) := by decide +kernel
theorem dX10_draw_8 : decode cX10_draw 8 = .ok (.lmul, 1) := by decide +kernel
theorem dX10_draw_9 : decode cX10_draw 9 = .ok (.ldc2_w 181, 3) := by decide +kernel
theorem dX10_draw_12 : decode cX10_draw 12 = .ok (.ladd, 1) := by decide +kernel
theorem dX10_draw_13 : decode cX10_draw 13 = .ok (.ldc2_w 183, 3) := by decide +kernel
theorem dX10_draw_16 : decode cX10_draw 16 = .ok (.land, 1) := by decide +kernel
theorem dX10_draw_17 : decode cX10_draw 17 = .ok (.putfield 177, 3) := by decide +kernel
theorem dX10_draw_20 : decode cX10_draw 20 = .ok (.aload_n 0, 1) := by decide +kernel
theorem dX10_draw_21 : decode cX10_draw 21 = .ok (.getfield 177, 3) := by decide +kernel
theorem dX10_draw_24 : decode cX10_draw 24 = .ok (.ldc2_w 185, 3) := by decide +kernel
theorem dX10_draw_27 : decode cX10_draw 27 = .ok (.ldiv, 1) := by decide +kernel
theorem dX10_draw_28 : decode cX10_draw 28 = .ok (.iload_n 1, 1) := by decide +kernel
theorem dX10_draw_29 : decode cX10_draw 29 = .ok (.i2l, 1) := by decide +kernel
theorem dX10_draw_30 : decode cX10_draw 30 = .ok (.lrem, 1) := by decide +kernel
theorem dX10_draw_31 : decode cX10_draw 31 = .ok (.l2i, 1) := by decide +kernel
theorem dX10_draw_32 : decode cX10_draw 32 = .ok (.ireturn, 1) := by decide +kernel
set_option maxRecDepth 20000 in
theorem ggX10_goYear_X10_draw : GoodIn wsX10_goYear wsX10_draw := goodIn_r _ [7, 8, 9, 10, 11, 12, 40, 41, 42, 43, 44, 45, 46, 47, 48, 49, 50, 51, 52, 53, 54, 55, 56, 57, 58, 59, 60, 61, 62, 63, 64] (by decide +kernel) (by decide +kernel)
set_option maxRecDepth 20000 in
theorem gX10_goYear_X10_draw : GoodIn wsX10_goYear (wsV RX10 187 RX10 yX10_draw wsX10_draw) := goodIn_app (goodIn_of _ (by decide +kernel)) ggX10_goYear_X10_draw
set_option maxRecDepth 20000 in
theorem ggX10_goYear_X10_illSet : GoodIn wsX10_goYear wsX10_illSet := goodIn_r _ [16, 1, 17, 40, 41, 42, 43, 44, 45, 46, 47, 48, 49, 50, 51, 52, 53, 54, 55, 56, 57, 58, 59, 60, 61, 62, 63, 64] (by decide +kernel) (by decide +kernel)
set_option maxRecDepth 20000 in
theorem gX10_goYear_X10_illSet : GoodIn wsX10_goYear (wsV RX10 119 RX10 yX10_illSet wsX10_illSet) := goodIn_app (goodIn_of _ (by decide +kernel)) ggX10_goYear_X10_illSet
set_option maxRecDepth 20000 in
theorem ggX10_goYear_X10_teach : GoodIn wsX10_goYear wsX10_teach := goodIn_r _ [21, 22, 23, 1, 2, 24, 25, 26, 27, 28, 29, 6, 30, 31, 32, 33, 34, 40, 41, 42, 43, 44, 45, 46, 47, 48, 49, 50, 51, 52, 53, 54, 55, 56, 57, 58, 59, 60, 61, 62, 63, 64] (by decide +kernel) (by decide +kernel)
set_option maxRecDepth 20000 in
theorem gX10_goYear_X10_teach : GoodIn wsX10_goYear (wsV RX10 122 RX10 yX10_teach wsX10_teach) := goodIn_app (goodIn_of _ (by decide +kernel)) ggX10_goYear_X10_teach
set_option maxRecDepth 20000 in
theorem ggX10_goYear_X10_goSummer : GoodIn wsX10_goYear wsX10_goSummer := goodIn_r _ [38, 1, 26, 24, 39, 25, 32, 33, 6, 34, 40, 41, 42, 43, 44, 45, 46, 47, 48, 49, 50, 51, 52, 53, 54, 55, 56, 57, 58, 59, 60, 61, 62, 63, 64] (by decide +kernel) (by decide +kernel)
set_option maxRecDepth 20000 in
theorem gX10_goYear_X10_goSummer : GoodIn wsX10_goYear (wsV RX10 126 RX10 yX10_goSummer wsX10_goSummer) := goodIn_app (goodIn_of _ (by decide +kernel)) ggX10_goYear_X10_goSummer
theorem dX10_goYear_0 : decode cX10_goYear 0 = .ok (.aload_n 0, 1) := by decide +kernel
theorem dX10_goYear_1 : decode cX10_goYear 1 = .ok (.bipush 6, 2) := by decide +kernel
theorem dX10_goYear_3 : decode cX10_goYear 3 = .ok (.invokevirtual 187, 3) := by decide +kernel
theorem dX10_goYear_6 : decode cX10_goYear 6 = .ok (.istore_n 1, 1) := by decide +kernel
theorem dX10_goYear_7 : decode cX10_goYear 7 = .ok (.iload_n 1, 1) := by decide +kernel
theorem dX10_goYear_8 : decode cX10_goYear 8 = .ok (.iconst 4, 1) := by decide +kernel
theorem dX10_goYear_9 : decode cX10_goYear 9 = .ok (.if_icmp .ge 21, 3) := by decide +kernel
theorem dX10_goYear_12 : decode cX10_goYear 12 = .ok (.aload_n 0, 1) := by decide +kernel
theorem dX10_goYear_13 : decode cX10_goYear 13 = .ok (.bipush 24, 2) := by decide +kernel
theorem dX10_goYear_15 : decode cX10_goYear 15 = .ok (.bipush 6, 2) := by decide +kernel
theorem dX10_goYear_17 : decode cX10_goYear 17 = .ok (.iload_n 1, 1) := by decide +kernel
theorem dX10_goYear_18 : decode cX10_goYear 18 = .ok (.iconst 0, 1) := by decide +kernel
theorem dX10_goYear_19 : decode cX10_goYear 19 = .ok (.aload_n 0, 1) := by decide +kernel
theorem dX10_goYear_20 : decode cX10_goYear 20 = .ok (.invokevirtual 119, 3) := by decide +kernel
theorem dX10_goYear_23 : decode cX10_goYear 23 = .ok (.invokevirtual 122, 3) := by decide +kernel
theorem dX10_goYear_26 : decode cX10_goYear 26 = .ok (.pop, 1) := by decide +kernel
theorem dX10_goYear_27 : decode cX10_goYear 27 = .ok (.goto 76, 3) := by decide +kernel
theorem dX10_goYear_30 : decode cX10_goYear 30 = .ok (.iload_n 1, 1) := by decide +kernel
theorem dX10_goYear_31 : decode cX10_goYear 31 = .ok (.iconst 4, 1) := by decide +kernel
theorem dX10_goYear_32 : decode cX10_goYear 32 = .ok (.if_icmp .ne 13, 3) := by decide +kernel
theorem dX10_goYear_35 : decode cX10_goYear 35 = .ok (.aload_n 0, 1) := by decide +kernel
theorem dX10_goYear_36 : decode cX10_goYear 36 = .ok (.bipush 24, 2) := by decide +kernel
theorem dX10_goYear_38 : decode cX10_goYear 38 = .ok (.invokevirtual 126, 3) := by decide +kernel
theorem dX10_goYear_41 : decode cX10_goYear 41 = .ok (.pop, 1) := by decide +kernel
theorem dX10_goYear_42 : decode cX10_goYear 42 = .ok (.goto 61, 3) := by decide +kernel
theorem dX10_goYear_45 : decode cX10_goYear 45 = .ok (.aload_n 0, 1) := by decide +kernel
theorem dX10_goYear_46 : decode cX10_goYear 46 = .ok (.aload_n 0, 1) := by decide +kernel
theorem dX10_goYear_47 : decode cX10_goYear 47 = .ok (.getfield 79, 3) := by decide +kernel
theorem dX10_goYear_50 : decode cX10_goYear 50 = .ok (.invokevirtual 187, 3) := by decide +kernel
theorem dX10_goYear_53 : decode cX10_goYear 53 = .ok (.istore_n 2, 1) := by decide +kernel
theorem dX10_goYear_54 : decode cX10_goYear 54 = .ok (.aload_n 0, 1) := by decide +kernel
theorem dX10_goYear_55 : decode cX10_goYear 55 = .ok (.aload_n 0, 1) := by decide +kernel
theorem dX10_goYear_56 : decode cX10_goYear 56 = .ok (.getfield 79, 3) := by decide +kernel
theorem dX10_goYear_59 : decode cX10_goYear 59 = .ok (.invokevirtual 187, 3) := by decide +kernel
theorem dX10_goYear_62 : decode cX10_goYear 62 = .ok (.istore_n 3, 1) := by decide +kernel
theorem dX10_goYear_63 : decode cX10_goYear 63 = .ok (.aload_n 0, 1) := by decide +kernel
theorem dX10_goYear_64 : decode cX10_goYear 64 = .ok (.getfield 31, 3) := by decide +kernel
theorem dX10_goYear_67 : decode cX10_goYear 67 = .ok (.bipush 6, 2) := by decide +kernel
theorem dX10_goYear_69 : decode cX10_goYear 69 = .ok (.iload_n 2, 1) := by decide +kernel
theorem dX10_goYear_70 : decode cX10_goYear 70 = .ok (.iadd, 1) := by decide +kernel
theorem dX10_goYear_71 : decode cX10_goYear 71 = .ok (.iaload, 1) := by decide +kernel
theorem dX10_goYear_72 : decode cX10_goYear 72 = .ok (.istore 4, 2) := by decide +kernel
theorem dX10_goYear_74 : decode cX10_goYear 74 = .ok (.aload_n 0, 1) := by decide +kernel
theorem dX10_goYear_75 : decode cX10_goYear 75 = .ok (.getfield 31, 3) := by decide +kernel
theorem dX10_goYear_78 : decode cX10_goYear 78 = .ok (.bipush 6, 2) := by decide +kernel
theorem dX10_goYear_80 : decode cX10_goYear 80 = .ok (.iload_n 2, 1) := by decide +kernel
theorem dX10_goYear_81 : decode cX10_goYear 81 = .ok (.iadd, 1) := by decide +kernel
theorem dX10_goYear_82 : decode cX10_goYear 82 = .ok (.aload_n 0, 1) := by decide +kernel
theorem dX10_goYear_83 : decode cX10_goYear 83 = .ok (.getfield 31, 3) := by decide +kernel
theorem dX10_goYear_86 : decode cX10_goYear 86 = .ok (.bipush 6, 2) := by decide +kernel
theorem dX10_goYear_88 : decode cX10_goYear 88 = .ok (.iload_n 3, 1) := by decide +kernel
theorem dX10_goYear_89 : decode cX10_goYear 89 = .ok (.iadd, 1) := by decide +kernel
theorem dX10_goYear_90 : decode cX10_goYear 90 = .ok (.iaload, 1) := by decide +kernel
theorem dX10_goYear_91 : decode cX10_goYear 91 = .ok (.iastore, 1) := by decide +kernel
theorem dX10_goYear_92 : decode cX10_goYear 92 = .ok (.aload_n 0, 1) := by decide +kernel
theorem dX10_goYear_93 : decode cX10_goYear 93 = .ok (.getfield 31, 3) := by decide +kernel
theorem dX10_goYear_96 : decode cX10_goYear 96 = .ok (.bipush 6, 2) := by decide +kernel
theorem dX10_goYear_98 : decode cX10_goYear 98 = .ok (.iload_n 3, 1) := by decide +kernel
theorem dX10_goYear_99 : decode cX10_goYear 99 = .ok (.iadd, 1) := by decide +kernel
theorem dX10_goYear_100 : decode cX10_goYear 100 = .ok (.iload 4, 2) := by decide +kernel
theorem dX10_goYear_102 : decode cX10_goYear 102 = .ok (.iastore, 1) := by decide +kernel
theorem dX10_goYear_103 : decode cX10_goYear 103 = .ok (.return_, 1) := by decide +kernel
set_option maxRecDepth 20000 in
theorem ggX10_yearsNow_X10_copy : GoodIn wsX10_yearsNow wsX10_copy := goodIn_r _ [8, 9, 10, 59, 60, 61, 62, 63, 64, 65, 66, 67, 68, 69, 70, 71, 72, 73, 74, 75, 76, 77, 78, 79, 80, 81, 82, 83] (by decide +kernel) (by decide +kernel)
set_option maxRecDepth 20000 in
theorem gX10_yearsNow_X10_copy : GoodIn wsX10_yearsNow (wsV RX10 154 RX10 yX10_copy wsX10_copy) := goodIn_app (goodIn_of _ (by decide +kernel)) ggX10_yearsNow_X10_copy
set_option maxRecDepth 20000 in
theorem ggX10_yearsNow_X10_goYear : GoodIn wsX10_yearsNow wsX10_goYear := goodIn_r _ [14, 1, 2, 15, 16, 17, 7, 18, 19, 3, 20, 21, 22, 23, 24, 25, 26, 27, 28, 29, 30, 31, 32, 33, 9, 10, 34, 35, 36, 37, 38, 39, 40, 41, 42, 43, 44, 45, 46, 47, 59, 60, 61, 62, 63, 64, 65, 66, 67, 68, 69, 70, 71, 72, 73, 74, 75, 76, 77, 78, 79, 80, 81, 82, 83] (by decide +kernel) (by decide +kernel)
set_option maxRecDepth 20000 in
theorem gX10_yearsNow_X10_goYear : GoodIn wsX10_yearsNow (wsV RX10 190 RX10 yX10_goYear wsX10_goYear) := goodIn_app (goodIn_of _ (by decide +kernel)) ggX10_yearsNow_X10_goYear
set_option maxRecDepth 20000 in
theorem ggX10_yearsNow_X10_allParts : GoodIn wsX10_yearsNow wsX10_allParts := goodIn_r _ [51, 1, 9, 59, 60, 61, 62, 63, 64, 65, 66, 67, 68, 69, 70, 71, 72, 73, 74, 75, 76, 77, 78, 79, 80, 81, 82, 83] (by decide +kernel) (by decide +kernel)
set_option maxRecDepth 20000 in
theorem gX10_yearsNow_X10_allParts : GoodIn wsX10_yearsNow (wsV RX10 157 RX10 yX10_allParts wsX10_allParts) := goodIn_app (goodIn_of _ (by decide +kernel)) ggX10_yearsNow_X10_allParts
set_option maxRecDepth 20000 in
theorem ggX10_yearsNow_X10_allWrong : GoodIn wsX10_yearsNow wsX10_allWrong := goodIn_r _ [55, 1, 10, 56, 57, 7, 58, 59, 60, 61, 62, 63, 64, 65, 66, 67, 68, 69, 70, 71, 72, 73, 74, 75, 76, 77, 78, 79, 80, 81, 82, 83] (by decide +kernel) (by decide +kernel)
set_option maxRecDepth 20000 in
theorem gX10_yearsNow_X10_allWrong : GoodIn wsX10_yearsNow (wsV RX10 193 RX10 yX10_allWrong wsX10_allWrong) := goodIn_app (goodIn_of _ (by decide +kernel)) ggX10_yearsNow_X10_allWrong
theorem dX10_yearsNow_0 : decode cX10_yearsNow 0 = .ok (.aload_n 0, 1) := by decide +kernel
