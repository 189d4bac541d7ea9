set_option maxRecDepth 20000 in
theorem gX10_wipe_X10_isSubject : GoodIn wsX10_wipe (va_wsS RX10 99 yX10_isSubject wsX10_isSubject) := goodIn_app (goodIn_of _ (by decide +kernel)) ggX10_wipe_X10_isSubject
theorem dX10_wipe_0 : decode cX10_wipe 0 = .ok (.aload_n 0, 1) := by decide +kernel
theorem dX10_wipe_1 : decode cX10_wipe 1 = .ok (.iload_n 1, 1) := by decide +kernel
theorem dX10_wipe_2 : decode cX10_wipe 2 = .ok (.invokevirtual 88, 3) := by decide +kernel
theorem dX10_wipe_5 : decode cX10_wipe 5 = .ok (.ifCond .eq 10, 3) := by decide +kernel
theorem dX10_wipe_8 : decode cX10_wipe 8 = .ok (.iload_n 2, 1) := by decide +kernel
theorem dX10_wipe_9 : decode cX10_wipe 9 = .ok (.invokestatic 99, 3) := by decide +kernel
theorem dX10_wipe_12 : decode cX10_wipe 12 = .ok (.ifCond .ne 6, 3) := by decide +kernel
theorem dX10_wipe_15 : decode cX10_wipe 15 = .ok (.bipush (-101), 2) := by decide +kernel
theorem dX10_wipe_17 : decode cX10_wipe 17 = .ok (.ireturn, 1) := by decide +kernel
theorem dX10_wipe_18 : decode cX10_wipe 18 = .ok (.iconst 4, 1) := by decide +kernel
theorem dX10_wipe_19 : decode cX10_wipe 19 = .ok (.iload_n 1, 1) := by decide +kernel
theorem dX10_wipe_20 : decode cX10_wipe 20 = .ok (.imul, 1) := by decide +kernel
theorem dX10_wipe_21 : decode cX10_wipe 21 = .ok (.iload_n 2, 1) := by decide +kernel
theorem dX10_wipe_22 : decode cX10_wipe 22 = .ok (.iadd, 1) := by decide +kernel
theorem dX10_wipe_23 : decode cX10_wipe 23 = .ok (.istore_n 3, 1) := by decide +kernel
theorem dX10_wipe_24 : decode cX10_wipe 24 = .ok (.aload_n 0, 1) := by decide +kernel
theorem dX10_wipe_25 : decode cX10_wipe 25 = .ok (.getfield 25, 3) := by decide +kernel
theorem dX10_wipe_28 : decode cX10_wipe 28 = .ok (.iload_n 3, 1) := by decide +kernel
theorem dX10_wipe_29 : decode cX10_wipe 29 = .ok (.iaload, 1) := by decide +kernel
theorem dX10_wipe_30 : decode cX10_wipe 30 = .ok (.istore 4, 2) := by decide +kernel
theorem dX10_wipe_32 : decode cX10_wipe 32 = .ok (.aload_n 0, 1) := by decide +kernel
theorem dX10_wipe_33 : decode cX10_wipe 33 = .ok (.getfield 25, 3) := by decide +kernel
theorem dX10_wipe_36 : decode cX10_wipe 36 = .ok (.iload_n 3, 1) := by decide +kernel
theorem dX10_wipe_37 : decode cX10_wipe 37 = .ok (.iconst 0, 1) := by decide +kernel
theorem dX10_wipe_38 : decode cX10_wipe 38 = .ok (.iastore, 1) := by decide +kernel
theorem dX10_wipe_39 : decode cX10_wipe 39 = .ok (.aload_n 0, 1) := by decide +kernel
theorem dX10_wipe_40 : decode cX10_wipe 40 = .ok (.getfield 28, 3) := by decide +kernel
theorem dX10_wipe_43 : decode cX10_wipe 43 = .ok (.iload_n 3, 1) := by decide +kernel
theorem dX10_wipe_44 : decode cX10_wipe 44 = .ok (.iconst 0, 1) := by decide +kernel
theorem dX10_wipe_45 : decode cX10_wipe 45 = .ok (.iastore, 1) := by decide +kernel
theorem dX10_wipe_46 : decode cX10_wipe 46 = .ok (.iload 4, 2) := by decide +kernel
theorem dX10_wipe_48 : decode cX10_wipe 48 = .ok (.ireturn, 1) := by decide +kernel
theorem dX10_clear_0 : decode cX10_clear 0 = .ok (.bipush 24, 2) := by decide +kernel
theorem dX10_clear_2 : decode cX10_clear 2 = .ok (.istore_n 1, 1) := by decide +kernel
theorem dX10_clear_3 : decode cX10_clear 3 = .ok (.iload_n 1, 1) := by decide +kernel
theorem dX10_clear_4 : decode cX10_clear 4 = .ok (.bipush 48, 2) := by decide +kernel
theorem dX10_clear_6 : decode cX10_clear 6 = .ok (.if_icmp .ge 23, 3) := by decide +kernel
theorem dX10_clear_9 : decode cX10_clear 9 = .ok (.aload_n 0, 1) := by decide +kernel
theorem dX10_clear_10 : decode cX10_clear 10 = .ok (.getfield 25, 3) := by decide +kernel
theorem dX10_clear_13 : decode cX10_clear 13 = .ok (.iload_n 1, 1) := by decide +kernel
theorem dX10_clear_14 : decode cX10_clear 14 = .ok (.iconst 0, 1) := by decide +kernel
theorem dX10_clear_15 : decode cX10_clear 15 = .ok (.iastore, 1) := by decide +kernel
theorem dX10_clear_16 : decode cX10_clear 16 = .ok (.aload_n 0, 1) := by decide +kernel
theorem dX10_clear_17 : decode cX10_clear 17 = .ok (.getfield 28, 3) := by decide +kernel
theorem dX10_clear_20 : decode cX10_clear 20 = .ok (.iload_n 1, 1) := by decide +kernel
theorem dX10_clear_21 : decode cX10_clear 21 = .ok (.iconst 0, 1) := by decide +kernel
theorem dX10_clear_22 : decode cX10_clear 22 = .ok (.iastore, 1) := by decide +kernel
theorem dX10_clear_23 : decode cX10_clear 23 = .ok (.iinc 1 1, 3) := by decide +kernel
theorem dX10_clear_26 : decode cX10_clear 26 = .ok (.goto (-23), 3) := by decide +kernel
theorem dX10_clear_29 : decode cX10_clear 29 = .ok (.return_, 1) := by decide +kernel
theorem dX10_copy_0 : decode cX10_copy 0 = .ok (.iconst 0, 1) := by decide +kernel
theorem dX10_copy_1 : decode cX10_copy 1 = .ok (.istore_n 1, 1) := by decide +kernel
theorem dX10_copy_2 : decode cX10_copy 2 = .ok (.iload_n 1, 1) := by decide +kernel
theorem dX10_copy_3 : decode cX10_copy 3 = .ok (.bipush 24, 2) := by decide +kernel
theorem dX10_copy_5 : decode cX10_copy 5 = .ok (.if_icmp .ge 39, 3) := by decide +kernel
theorem dX10_copy_8 : decode cX10_copy 8 = .ok (.aload_n 0, 1) := by decide +kernel
theorem dX10_copy_9 : decode cX10_copy 9 = .ok (.getfield 25, 3) := by decide +kernel
theorem dX10_copy_12 : decode cX10_copy 12 = .ok (.bipush 24, 2) := by decide +kernel
theorem dX10_copy_14 : decode cX10_copy 14 = .ok (.iload_n 1, 1) := by decide +kernel
theorem dX10_copy_15 : decode cX10_copy 15 = .ok (.iadd, 1) := by decide +kernel
theorem dX10_copy_16 : decode cX10_copy 16 = .ok (.aload_n 0, 1) := by decide +kernel
theorem dX10_copy_17 : decode cX10_copy 17 = .ok (.getfield 25, 3) := by decide +kernel
theorem dX10_copy_20 : decode cX10_copy 20 = .ok (.iload_n 1, 1) := by decide +kernel
theorem dX10_copy_21 : decode cX10_copy 21 = .ok (.iaload, 1) := by decide +kernel
theorem dX10_copy_22 : decode cX10_copy 22 = .ok (.iastore, 1) := by decide +kernel
theorem dX10_copy_23 : decode cX10_copy 23 = .ok (.aload_n 0, 1) := by decide +kernel
theorem dX10_copy_24 : decode cX10_copy 24 = .ok (.getfield 28, 3) := by decide +kernel
theorem dX10_copy_27 : decode cX10_copy 27 = .ok (.bipush 24, 2) := by decide +kernel
theorem dX10_copy_29 : decode cX10_copy 29 = .ok (.iload_n 1, 1) := by decide +kernel
theorem dX10_copy_30 : decode cX10_copy 30 = .ok (.iadd, 1) := by decide +kernel
theorem dX10_copy_31 : decode cX10_copy 31 = .ok (.aload_n 0, 1) := by decide +kernel
theorem dX10_copy_32 : decode cX10_copy 32 = .ok (.getfield 28, 3) := by decide +kernel
theorem dX10_copy_35 : decode cX10_copy 35 = .ok (.iload_n 1, 1) := by decide +kernel
theorem dX10_copy_36 : decode cX10_copy 36 = .ok (.iaload, 1) := by decide +kernel
theorem dX10_copy_37 : decode cX10_copy 37 = .ok (.iastore, 1) := by decide +kernel
theorem dX10_copy_38 : decode cX10_copy 38 = .ok (.iinc 1 1, 3) := by decide +kernel
theorem dX10_copy_41 : decode cX10_copy 41 = .ok (.goto (-39), 3) := by decide +kernel
theorem dX10_copy_44 : decode cX10_copy 44 = .ok (.return_, 1) := by decide +kernel
theorem dX10_orderMany_0 : decode cX10_orderMany 0 = .ok (.iconst 1, 1) := by decide +kernel
theorem dX10_orderMany_1 : decode cX10_orderMany 1 = .ok (.istore_n 1, 1) := by decide +kernel
theorem dX10_orderMany_2 : decode cX10_orderMany 2 = .ok (.iconst 2, 1) := by decide +kernel
theorem dX10_orderMany_3 : decode cX10_orderMany 3 = .ok (.istore_n 2, 1) := by decide +kernel
theorem dX10_orderMany_4 : decode cX10_orderMany 4 = .ok (.iload_n 2, 1) := by decide +kernel
theorem dX10_orderMany_5 : decode cX10_orderMany 5 = .ok (.aload_n 0, 1) := by decide +kernel
theorem dX10_orderMany_6 : decode cX10_orderMany 6 = .ok (.getfield 79, 3) := by decide +kernel
theorem dX10_orderMany_9 : decode cX10_orderMany 9 = .ok (.if_icmp .gt 13, 3) := by decide +kernel
theorem dX10_orderMany_12 : decode cX10_orderMany 12 = .ok (.iload_n 1, 1) := by decide +kernel
theorem dX10_orderMany_13 : decode cX10_orderMany 13 = .ok (.iload_n 2, 1) := by decide +kernel
theorem dX10_orderMany_14 : decode cX10_orderMany 14 = .ok (.imul, 1) := by decide +kernel
theorem dX10_orderMany_15 : decode cX10_orderMany 15 = .ok (.istore_n 1, 1) := by decide +kernel
theorem dX10_orderMany_16 : decode cX10_orderMany 16 = .ok (.iinc 2 1, 3) := by decide +kernel
theorem dX10_orderMany_19 : decode cX10_orderMany 19 = .ok (.goto (-15), 3) := by decide +kernel
theorem dX10_orderMany_22 : decode cX10_orderMany 22 = .ok (.iload_n 1, 1) := by decide +kernel
theorem dX10_orderMany_23 : decode cX10_orderMany 23 = .ok (.ireturn, 1) := by decide +kernel
set_option maxRecDepth 20000 in
theorem ggX10_sit_X10_orderMany : GoodIn wsX10_sit wsX10_orderMany := goodIn_r _ [7, 1, 8, 9, 10, 11, 12, 13, 14, 15, 16, 17, 18, 19, 20, 21, 22, 23, 24, 25, 26, 27, 28, 29, 30, 31, 32] (by decide +kernel) (by decide +kernel)
set_option maxRecDepth 20000 in
theorem gX10_sit_X10_orderMany : GoodIn wsX10_sit (wsV RX10 129 RX10 yX10_orderMany wsX10_orderMany) := goodIn_app (goodIn_of _ (by decide +kernel)) ggX10_sit_X10_orderMany
theorem dX10_sit_0 : decode cX10_sit 0 = .ok (.iload_n 1, 1) := by decide +kernel
theorem dX10_sit_1 : decode cX10_sit 1 = .ok (.istore_n 2, 1) := by decide +kernel
theorem dX10_sit_2 : decode cX10_sit 2 = .ok (.aload_n 0, 1) := by decide +kernel
theorem dX10_sit_3 : decode cX10_sit 3 = .ok (.invokevirtual 129, 3) := by decide +kernel
theorem dX10_sit_6 : decode cX10_sit 6 = .ok (.istore_n 3, 1) := by decide +kernel
theorem dX10_sit_7 : decode cX10_sit 7 = .ok (.iconst 0, 1) := by decide +kernel
theorem dX10_sit_8 : decode cX10_sit 8 = .ok (.istore 4, 2) := by decide +kernel
theorem dX10_sit_10 : decode cX10_sit 10 = .ok (.iconst 0, 1) := by decide +kernel
theorem dX10_sit_11 : decode cX10_sit 11 = .ok (.istore 5, 2) := by decide +kernel
theorem dX10_sit_13 : decode cX10_sit 13 = .ok (.iload 5, 2) := by decide +kernel
theorem dX10_sit_15 : decode cX10_sit 15 = .ok (.aload_n 0, 1) := by decide +kernel
theorem dX10_sit_16 : decode cX10_sit 16 = .ok (.getfield 79, 3) := by decide +kernel
theorem dX10_sit_19 : decode cX10_sit 19 = .ok (.if_icmp .ge 94, 3) := by decide +kernel
theorem dX10_sit_22 : decode cX10_sit 22 = .ok (.iload_n 3, 1) := by decide +kernel
theorem dX10_sit_23 : decode cX10_sit 23 = .ok (.aload_n 0, 1) := by decide +kernel
theorem dX10_sit_24 : decode cX10_sit 24 = .ok (.getfield 79, 3) := by decide +kernel
theorem dX10_sit_27 : decode cX10_sit 27 = .ok (.iload 5, 2) := by decide +kernel
theorem dX10_sit_29 : decode cX10_sit 29 = .ok (.isub, 1) := by decide +kernel
theorem dX10_sit_30 : decode cX10_sit 30 = .ok (.idiv, 1) := by decide +kernel
theorem dX10_sit_31 : decode cX10_sit 31 = .ok (.istore_n 3, 1) := by decide +kernel
theorem dX10_sit_32 : decode cX10_sit 32 = .ok (.iload_n 2, 1) := by decide +kernel
theorem dX10_sit_33 : decode cX10_sit 33 = .ok (.iload_n 3, 1) := by decide +kernel
theorem dX10_sit_34 : decode cX10_sit 34 = .ok (.idiv, 1) := by decide +kernel
theorem dX10_sit_35 : decode cX10_sit 35 = .ok (.istore 6, 2) := by decide +kernel
theorem dX10_sit_37 : decode cX10_sit 37 = .ok (.iload_n 2, 1) := by decide +kernel
theorem dX10_sit_38 : decode cX10_sit 38 = .ok (.iload_n 3, 1) := by decide +kernel
theorem dX10_sit_39 : decode cX10_sit 39 = .ok (.irem, 1) := by decide +kernel
theorem dX10_sit_40 : decode cX10_sit 40 = .ok (.istore_n 2, 1) := by decide +kernel
theorem dX10_sit_41 : decode cX10_sit 41 = .ok (.iconst 0, 1) := by decide +kernel
theorem dX10_sit_42 : decode cX10_sit 42 = .ok (.istore 7, 2) := by decide +kernel
theorem dX10_sit_44 : decode cX10_sit 44 = .ok (.iload 4, 2) := by decide +kernel
theorem dX10_sit_46 : decode cX10_sit 46 = .ok (.iload 7, 2) := by decide +kernel
theorem dX10_sit_48 : decode cX10_sit 48 = .ok (.ishr, 1) := by decide +kernel
theorem dX10_sit_49 : decode cX10_sit 49 = .ok (.iconst 1, 1) := by decide +kernel
theorem dX10_sit_50 : decode cX10_sit 50 = .ok (.iand, 1) := by decide +kernel
theorem dX10_sit_51 : decode cX10_sit 51 = .ok (.iconst 1, 1) := by decide +kernel
theorem dX10_sit_52 : decode cX10_sit 52 = .ok (.if_icmp .eq 8, 3) := by decide +kernel
theorem dX10_sit_55 : decode cX10_sit 55 = .ok (.iload 6, 2) := by decide +kernel
theorem dX10_sit_57 : decode cX10_sit 57 = .ok (.ifCond .le 29, 3) := by decide +kernel
theorem dX10_sit_60 : decode cX10_sit 60 = .ok (.iload 6, 2) := by decide +kernel
theorem dX10_sit_62 : decode cX10_sit 62 = .ok (.iload 4, 2) := by decide +kernel
theorem dX10_sit_64 : decode cX10_sit 64 = .ok (.iload 7, 2) := by decide +kernel
theorem dX10_sit_66 : decode cX10_sit 66 = .ok (.ishr, 1) := by decide +kernel
theorem dX10_sit_67 : decode cX10_sit 67 = .ok (.iconst 1, 1) := by decide +kernel
theorem dX10_sit_68 : decode cX10_sit 68 = .ok (.iand, 1) := by decide +kernel
theorem dX10_sit_69 : decode cX10_sit 69 = .ok (.ifCond .ne 7, 3) := by decide +kernel
theorem dX10_sit_72 : decode cX10_sit 72 = .ok (.iconst 1, 1) := by decide +kernel
theorem dX10_sit_73 : decode cX10_sit 73 = .ok (.goto 4, 3) := by decide +kernel
theorem dX10_sit_76 : decode cX10_sit 76 = .ok (.iconst 0, 1) := by decide +kernel
theorem dX10_sit_77 : decode cX10_sit 77 = .ok (.isub, 1) := by decide +kernel
theorem dX10_sit_78 : decode cX10_sit 78 = .ok (.istore 6, 2) := by decide +kernel
theorem dX10_sit_80 : decode cX10_sit 80 = .ok (.iinc 7 1, 3) := by decide +kernel
theorem dX10_sit_83 : decode cX10_sit 83 = .ok (.goto (-39), 3) := by decide +kernel
theorem dX10_sit_86 : decode cX10_sit 86 = .ok (.iload 4, 2) := by decide +kernel
theorem dX10_sit_88 : decode cX10_sit 88 = .ok (.iconst 1, 1) := by decide +kernel
theorem dX10_sit_89 : decode cX10_sit 89 = .ok (.iload 7, 2) := by decide +kernel
theorem dX10_sit_91 : decode cX10_sit 91 = .ok (.ishl, 1) := by decide +kernel
theorem dX10_sit_92 : decode cX10_sit 92 = .ok (.ior, 1) := by decide +kernel
theorem dX10_sit_93 : decode cX10_sit 93 = .ok (.istore 4, 2) := by decide +kernel
theorem dX10_sit_95 : decode cX10_sit 95 = .ok (.aload_n 0, 1) := by decide +kernel
theorem dX10_sit_96 : decode cX10_sit 96 = .ok (.getfield 31, 3) := by decide +kernel
theorem dX10_sit_99 : decode cX10_sit 99 = .ok (.bipush 6, 2) := by decide +kernel
theorem dX10_sit_101 : decode cX10_sit 101 = .ok (.iload 5, 2) := by decide +kernel
theorem dX10_sit_103 : decode cX10_sit 103 = .ok (.iadd, 1) := by decide +kernel
theorem dX10_sit_104 : decode cX10_sit 104 = .ok (.iload 7, 2) := by decide +kernel
theorem dX10_sit_106 : decode cX10_sit 106 = .ok (.iastore, 1) := by decide +kernel
theorem dX10_sit_107 : decode cX10_sit 107 = .ok (.iinc 5 1, 3) := by decide +kernel
theorem dX10_sit_110 : decode cX10_sit 110 = .ok (.goto (-97), 3) := by decide +kernel
theorem dX10_sit_113 : decode cX10_sit 113 = .ok (.return_, 1) := by decide +kernel
set_option maxRecDepth 20000 in
theorem ggX10_tryOrder_X10_clear : GoodIn wsX10_tryOrder wsX10_clear := goodIn_r _ [5, 6, 7, 33, 34, 35, 36, 37, 38, 39, 40, 41, 42, 43, 44, 45, 46, 47, 48, 49, 50, 51, 52, 53, 54, 55, 56, 57] (by decide +kernel) (by decide +kernel)
set_option maxRecDepth 20000 in
theorem gX10_tryOrder_X10_clear : GoodIn wsX10_tryOrder (wsV RX10 132 RX10 yX10_clear wsX10_clear) := goodIn_app (goodIn_of _ (by decide +kernel)) ggX10_tryOrder_X10_clear
set_option maxRecDepth 20000 in
theorem ggX10_tryOrder_X10_sit : GoodIn wsX10_tryOrder wsX10_sit := goodIn_r _ [11, 12, 13, 14, 15, 16, 4, 17, 33, 34, 35, 36, 37, 38, 39, 40, 41, 42, 43, 44, 45, 46, 47, 48, 49, 50, 51, 52, 53, 54, 55, 56, 57] (by decide +kernel) (by decide +kernel)
set_option maxRecDepth 20000 in
theorem gX10_tryOrder_X10_sit : GoodIn wsX10_tryOrder (wsV RX10 135 RX10 yX10_sit wsX10_sit) := goodIn_app (goodIn_of _ (by decide +kernel)) ggX10_tryOrder_X10_sit
set_option maxRecDepth 20000 in
theorem ggX10_tryOrder_X10_teach : GoodIn wsX10_tryOrder wsX10_teach := goodIn_r _ [21, 22, 23, 12, 13, 6, 7, 24, 25, 26, 27, 4, 28, 29, 30, 31, 32, 33, 34, 35, 36, 37, 38, 39, 40, 41, 42, 43, 44, 45, 46, 47, 48, 49, 50, 51, 52, 53, 54, 55, 56, 57] (by decide +kernel) (by decide +kernel)
set_option maxRecDepth 20000 in
theorem gX10_tryOrder_X10_teach : GoodIn wsX10_tryOrder (wsV RX10 122 RX10 yX10_teach wsX10_teach) := goodIn_app (goodIn_of _ (by decide +kernel)) ggX10_tryOrder_X10_teach
theorem dX10_tryOrder_0 : decode cX10_tryOrder 0 = .ok (.aload_n 0, 1) := by decide +kernel
theorem dX10_tryOrder_1 : decode cX10_tryOrder 1 = .ok (.invokevirtual 132, 3) := by decide +kernel
theorem dX10_tryOrder_4 : decode cX10_tryOrder 4 = .ok (.aload_n 0, 1) := by decide +kernel
theorem dX10_tryOrder_5 : decode cX10_tryOrder 5 = .ok (.iload_n 1, 1) := by decide +kernel
theorem dX10_tryOrder_6 : decode cX10_tryOrder 6 = .ok (.invokevirtual 135, 3) := by decide +kernel
theorem dX10_tryOrder_9 : decode cX10_tryOrder 9 = .ok (.aload_n 0, 1) := by decide +kernel
theorem dX10_tryOrder_10 : decode cX10_tryOrder 10 = .ok (.bipush 24, 2) := by decide +kernel
theorem dX10_tryOrder_12 : decode cX10_tryOrder 12 = .ok (.bipush 6, 2) := by decide +kernel
theorem dX10_tryOrder_14 : decode cX10_tryOrder 14 = .ok (.iconst 0, 1) := by decide +kernel
theorem dX10_tryOrder_15 : decode cX10_tryOrder 15 = .ok (.iconst 0, 1) := by decide +kernel
theorem dX10_tryOrder_16 : decode cX10_tryOrder 16 = .ok (.iconst 0, 1) := by decide +kernel
theorem dX10_tryOrder_17 : decode cX10_tryOrder 17 = .ok (.invokevirtual 122, 3) := by decide +kernel
theorem dX10_tryOrder_20 : decode cX10_tryOrder 20 = .ok (.pop, 1) := by decide +kernel
theorem dX10_tryOrder_21 : decode cX10_tryOrder 21 = .ok (.return_, 1) := by decide +kernel
set_option maxRecDepth 20000 in
theorem ggX10_bestOrder_X10_orderMany : GoodIn wsX10_bestOrder wsX10_orderMany := goodIn_r _ [9, 2, 40, 41, 42, 43, 44, 45, 46, 47, 48, 49, 50, 51, 52, 53, 54, 55, 56, 57, 58, 59, 60, 61, 62, 63, 64] (by decide +kernel) (by decide +kernel)
set_option maxRecDepth 20000 in
theorem gX10_bestOrder_X10_orderMany : GoodIn wsX10_bestOrder (wsV RX10 129 RX10 yX10_orderMany wsX10_orderMany) := goodIn_app (goodIn_of _ (by decide +kernel)) ggX10_bestOrder_X10_orderMany
set_option maxRecDepth 20000 in
theorem ggX10_bestOrder_X10_tryOrder : GoodIn wsX10_bestOrder wsX10_tryOrder := goodIn_r _ [13, 14, 15, 16, 8, 17, 4, 3, 18, 19, 20, 21, 2, 1, 5, 6, 7, 9, 22, 23, 24, 25, 26, 27, 28, 29, 30, 31, 32, 33, 34, 35, 36, 40, 41, 42, 43, 44, 45, 46, 47, 48, 49, 50, 51, 52, 53, 54, 55, 56, 57, 58, 59, 60, 61, 62, 63, 64] (by decide +kernel) (by decide +kernel)
set_option maxRecDepth 20000 in
theorem gX10_bestOrder_X10_tryOrder : GoodIn wsX10_bestOrder (wsV RX10 139 RX10 yX10_tryOrder wsX10_tryOrder) := goodIn_app (goodIn_of _ (by decide +kernel)) ggX10_bestOrder_X10_tryOrder
set_option maxRecDepth 20000 in
theorem ggX10_bestOrder_X10_size : GoodIn wsX10_bestOrder wsX10_size := goodIn_r _ [39] (by decide +kernel) (by decide +kernel)
set_option maxRecDepth 20000 in
theorem gX10_bestOrder_X10_size : GoodIn wsX10_bestOrder (va_wsS RX10 142 yX10_size wsX10_size) := goodIn_app (goodIn_of _ (by decide +kernel)) ggX10_bestOrder_X10_size
theorem dX10_bestOrder_0 : decode cX10_bestOrder 0 = .ok (.iconst 0, 1) := by decide +kernel
theorem dX10_bestOrder_1 : decode cX10_bestOrder 1 = .ok (.istore_n 1, 1) := by decide +kernel
theorem dX10_bestOrder_2 : decode cX10_bestOrder 2 = .ok (.iconst (-1), 1) := by decide +kernel
theorem dX10_bestOrder_3 : decode cX10_bestOrder 3 = .ok (.istore_n 2, 1) := by decide +kernel
theorem dX10_bestOrder_4 : decode cX10_bestOrder 4 = .ok (.bipush 7, 2) := by decide +kernel
theorem dX10_bestOrder_6 : decode cX10_bestOrder 6 = .ok (.istore_n 3, 1) := by decide +kernel
theorem dX10_bestOrder_7 : decode cX10_bestOrder 7 = .ok (.iconst 0, 1) := by decide +kernel
theorem dX10_bestOrder_8 : decode cX10_bestOrder 8 = .ok (.istore 4, 2) := by decide +kernel
theorem dX10_bestOrder_10 : decode cX10_bestOrder 10 = .ok (.iload 4, 2) := by decide +kernel
theorem dX10_bestOrder_12 : decode cX10_bestOrder 12 = .ok (.aload_n 0, 1) := by decide +kernel
theorem dX10_bestOrder_13 : decode cX10_bestOrder 13 = .ok (.invokevirtual 129, 3) := by decide +kernel
theorem dX10_bestOrder_16 : decode cX10_bestOrder 16 = .ok (.if_icmp .ge 124, 3) := by decide +kernel
theorem dX10_bestOrder_19 : decode cX10_bestOrder 19 = .ok (.aload_n 0, 1) := by decide +kernel
theorem dX10_bestOrder_20 : decode cX10_bestOrder 20 = .ok (.iload 4, 2) := by decide +kernel
theorem dX10_bestOrder_22 : decode cX10_bestOrder 22 = .ok (.invokevirtual 139, 3) := by decide +kernel
theorem dX10_bestOrder_25 : decode cX10_bestOrder 25 = .ok (.bipush 24, 2) := by decide +kernel
theorem dX10_bestOrder_27 : decode cX10_bestOrder 27 = .ok (.iconst 4, 1) := by decide +kernel
theorem dX10_bestOrder_28 : decode cX10_bestOrder 28 = .ok (.aload_n 0, 1) := by decide +kernel
theorem dX10_bestOrder_29 : decode cX10_bestOrder 29 = .ok (.getfield 31, 3) := by decide +kernel
theorem dX10_bestOrder_32 : decode cX10_bestOrder 32 = .ok (.bipush 6, 2) := by decide +kernel
theorem dX10_bestOrder_34 : decode cX10_bestOrder 34 = .ok (.aload_n 0, 1) := by decide +kernel
theorem dX10_bestOrder_35 : decode cX10_bestOrder 35 = .ok (.getfield 79, 3) := by decide +kernel
theorem dX10_bestOrder_38 : decode cX10_bestOrder 38 = .ok (.iadd, 1) := by decide +kernel
theorem dX10_bestOrder_39 : decode cX10_bestOrder 39 = .ok (.iconst 1, 1) := by decide +kernel
theorem dX10_bestOrder_40 : decode cX10_bestOrder 40 = .ok (.isub, 1) := by decide +kernel
theorem dX10_bestOrder_41 : decode cX10_bestOrder 41 = .ok (.iaload, 1) := by decide +kernel
theorem dX10_bestOrder_42 : decode cX10_bestOrder 42 = .ok (.imul, 1) := by decide +kernel
theorem dX10_bestOrder_43 : decode cX10_bestOrder 43 = .ok (.iadd, 1) := by decide +kernel
theorem dX10_bestOrder_44 : decode cX10_bestOrder 44 = .ok (.istore 5, 2) := by decide +kernel
theorem dX10_bestOrder_46 : decode cX10_bestOrder 46 = .ok (.aload_n 0, 1) := by decide +kernel
theorem dX10_bestOrder_47 : decode cX10_bestOrder 47 = .ok (.getfield 28, 3) := by decide +kernel
theorem dX10_bestOrder_50 : decode cX10_bestOrder 50 = .ok (.iload 5, 2) := by decide +kernel
theorem dX10_bestOrder_52 : decode cX10_bestOrder 52 = .ok (.iaload, 1) := by decide +kernel
theorem dX10_bestOrder_53 : decode cX10_bestOrder 53 = .ok (.invokestatic 142, 3) := by decide +kernel
theorem dX10_bestOrder_56 : decode cX10_bestOrder 56 = .ok (.istore 6, 2) := by decide +kernel
theorem dX10_bestOrder_58 : decode cX10_bestOrder 58 = .ok (.aload_n 0, 1) := by decide +kernel
theorem dX10_bestOrder_59 : decode cX10_bestOrder 59 = .ok (.getfield 25, 3) := by decide +kernel
theorem dX10_bestOrder_62 : decode cX10_bestOrder 62 = .ok (.iload 5, 2) := by decide +kernel
theorem dX10_bestOrder_64 : decode cX10_bestOrder 64 = .ok (.iaload, 1) := by decide +kernel
theorem dX10_bestOrder_65 : decode cX10_bestOrder 65 = .ok (.iload_n 2, 1) := by decide +kernel
theorem dX10_bestOrder_66 : decode cX10_bestOrder 66 = .ok (.if_icmp .gt 20, 3) := by decide +kernel
theorem dX10_bestOrder_69 : decode cX10_bestOrder 69 = .ok (.aload_n 0, 1) := by decide +kernel
theorem dX10_bestOrder_70 : decode cX10_bestOrder 70 = .ok (.getfield 25, 3) := by decide +kernel
theorem dX10_bestOrder_73 : decode cX10_bestOrder 73 = .ok (.iload 5, 2) := by decide +kernel
theorem dX10_bestOrder_75 : decode cX10_bestOrder 75 = .ok (.iaload, 1) := by decide +kernel
theorem dX10_bestOrder_76 : decode cX10_bestOrder 76 = .ok (.iload_n 2, 1) := by decide +kernel
theorem dX10_bestOrder_77 : decode cX10_bestOrder 77 = .ok (.if_icmp .ne 13, 3) := by decide +kernel
theorem dX10_bestOrder_80 : decode cX10_bestOrder 80 = .ok (.iload 6, 2) := by decide +kernel
theorem dX10_bestOrder_82 : decode cX10_bestOrder 82 = .ok (.iload_n 3, 1) := by decide +kernel
theorem dX10_bestOrder_83 : decode cX10_bestOrder 83 = .ok (.if_icmp .ge 7, 3) := by decide +kernel
theorem dX10_bestOrder_86 : decode cX10_bestOrder 86 = .ok (.iconst 1, 1) := by decide +kernel
theorem dX10_bestOrder_87 : decode cX10_bestOrder 87 = .ok (.goto 4, 3) := by decide +kernel
theorem dX10_bestOrder_90 : decode cX10_bestOrder 90 = .ok (.iconst 0, 1) := by decide +kernel
theorem dX10_bestOrder_91 : decode cX10_bestOrder 91 = .ok (.istore 7, 2) := by decide +kernel
theorem dX10_bestOrder_93 : decode cX10_bestOrder 93 = .ok (.iload 7, 2) := by decide +kernel
theorem dX10_bestOrder_95 : decode cX10_bestOrder 95 = .ok (.ifCond .eq 8, 3) := by decide +kernel
theorem dX10_bestOrder_98 : decode cX10_bestOrder 98 = .ok (.iload 4, 2) := by decide +kernel
theorem dX10_bestOrder_100 : decode cX10_bestOrder 100 = .ok (.goto 4, 3) := by decide +kernel
theorem dX10_bestOrder_103 : decode cX10_bestOrder 103 = .ok (.iload_n 1, 1) := by decide +kernel
theorem dX10_bestOrder_104 : decode cX10_bestOrder 104 = .ok (.istore_n 1, 1) := by decide +kernel
theorem dX10_bestOrder_105 : decode cX10_bestOrder 105 = .ok (.iload 7, 2) := by decide +kernel
theorem dX10_bestOrder_107 : decode cX10_bestOrder 107 = .ok (.ifCond .eq 8, 3) := by decide +kernel
theorem dX10_bestOrder_110 : decode cX10_bestOrder 110 = .ok (.iload 6, 2) := by decide +kernel
theorem dX10_bestOrder_112 : decode cX10_bestOrder 112 = .ok (.goto 4, 3) := by decide +kernel
theorem dX10_bestOrder_115 : decode cX10_bestOrder 115 = .ok (.iload_n 3, 1) := by decide +kernel
theorem dX10_bestOrder_116 : decode cX10_bestOrder 116 = .ok (.istore_n 3, 1) := by decide +kernel
theorem dX10_bestOrder_117 : decode cX10_bestOrder 117 = .ok (.iload 7, 2) := by decide +kernel
theorem dX10_bestOrder_119 : decode cX10_bestOrder 119 = .ok (.ifCond .eq 13, 3) := by decide +kernel
theorem dX10_bestOrder_122 : decode cX10_bestOrder 122 = .ok (.aload_n 0, 1) := by decide +kernel
theorem dX10_bestOrder_123 : decode cX10_bestOrder 123 = .ok (.getfield 25, 3) := by decide +kernel
theorem dX10_bestOrder_126 : decode cX10_bestOrder 126 = .ok (.iload 5, 2) := by decide +kernel
theorem dX10_bestOrder_128 : decode cX10_bestOrder 128 = .ok (.iaload, 1) := by decide +kernel
theorem dX10_bestOrder_129 : decode cX10_bestOrder 129 = .ok (.goto 4, 3) := by decide +kernel
theorem dX10_bestOrder_132 : decode cX10_bestOrder 132 = .ok (.iload_n 2, 1) := by decide +kernel
theorem dX10_bestOrder_133 : decode cX10_bestOrder 133 = .ok (.istore_n 2, 1) := by decide +kernel
theorem dX10_bestOrder_134 : decode cX10_bestOrder 134 = .ok (.iinc 4 1, 3) := by decide +kernel
theorem dX10_bestOrder_137 : decode cX10_bestOrder 137 = .ok (.goto (-127), 3) := by decide +kernel
theorem dX10_bestOrder_140 : decode cX10_bestOrder 140 = .ok (.iload_n 1, 1) := by decide +kernel
theorem dX10_bestOrder_141 : decode cX10_bestOrder 141 = .ok (.ireturn, 1) := by decide +kernel
set_option maxRecDepth 20000 in
theorem ggX10_orderNow_X10_bestOrder : GoodIn wsX10_orderNow wsX10_bestOrder := goodIn_r _ [9, 1, 2, 4, 3, 10, 11, 12, 8, 13, 14, 15, 16, 17, 18, 19, 20, 21, 22, 23, 24, 25, 26, 27, 28, 29, 30, 31, 32, 33, 34, 35, 36, 37, 38, 39, 40, 41, 42, 43, 44, 45, 46, 47, 48, 49, 50, 51, 52, 53, 54, 55, 56, 57, 58, 59, 60, 61, 62, 63, 64, 65, 66, 67, 68] (by decide +kernel) (by decide +kernel)
set_option maxRecDepth 20000 in
theorem gX10_orderNow_X10_bestOrder : GoodIn wsX10_orderNow (wsV RX10 145 RX10 yX10_bestOrder wsX10_bestOrder) := goodIn_app (goodIn_of _ (by decide +kernel)) ggX10_orderNow_X10_bestOrder
set_option maxRecDepth 20000 in
theorem ggX10_orderNow_X10_tryOrder : GoodIn wsX10_orderNow wsX10_tryOrder := goodIn_r _ [17, 18, 19, 20, 8, 21, 3, 4, 22, 23, 24, 25, 2, 1, 10, 11, 12, 13, 26, 27, 28, 29, 30, 31, 32, 33, 34, 35, 36, 37, 38, 39, 40, 44, 45, 46, 47, 48, 49, 50, 51, 52, 53, 54, 55, 56, 57, 58, 59, 60, 61, 62, 63, 64, 65, 66, 67, 68] (by decide +kernel) (by decide +kernel)
set_option maxRecDepth 20000 in
theorem gX10_orderNow_X10_tryOrder : GoodIn wsX10_orderNow (wsV RX10 139 RX10 yX10_tryOrder wsX10_tryOrder) := goodIn_app (goodIn_of _ (by decide +kernel)) ggX10_orderNow_X10_tryOrder
set_option maxRecDepth 20000 in
theorem ggX10_orderNow_X10_size : GoodIn wsX10_orderNow wsX10_size := goodIn_r _ [43] (by decide +kernel) (by decide +kernel)
set_option maxRecDepth 20000 in
theorem gX10_orderNow_X10_size : GoodIn wsX10_orderNow (va_wsS RX10 142 yX10_size wsX10_size) := goodIn_app (goodIn_of _ (by decide +kernel)) ggX10_orderNow_X10_size
theorem dX10_orderNow_0 : decode cX10_orderNow 0 = .ok (.aload_n 0, 1) := by decide +kernel
theorem dX10_orderNow_1 : decode cX10_orderNow 1 = .ok (.invokevirtual 145, 3) := by decide +kernel
theorem dX10_orderNow_4 : decode cX10_orderNow 4 = .ok (.istore_n 2, 1) := by decide +kernel
theorem dX10_orderNow_5 : decode cX10_orderNow 5 = .ok (.aload_n 0, 1) := by decide +kernel
theorem dX10_orderNow_6 : decode cX10_orderNow 6 = .ok (.iload_n 2, 1) := by decide +kernel
theorem dX10_orderNow_7 : decode cX10_orderNow 7 = .ok (.invokevirtual 139, 3) := by decide +kernel
theorem dX10_orderNow_10 : decode cX10_orderNow 10 = .ok (.bipush 24, 2) := by decide +kernel
theorem dX10_orderNow_12 : decode cX10_orderNow 12 = .ok (.iconst 4, 1) := by decide +kernel
theorem dX10_orderNow_13 : decode cX10_orderNow 13 = .ok (.aload_n 0, 1) := by decide +kernel
theorem dX10_orderNow_14 : decode cX10_orderNow 14 = .ok (.getfield 31, 3) := by decide +kernel
theorem dX10_orderNow_17 : decode cX10_orderNow 17 = .ok (.bipush 6, 2) := by decide +kernel
theorem dX10_orderNow_19 : decode cX10_orderNow 19 = .ok (.aload_n 0, 1) := by decide +kernel
theorem dX10_orderNow_20 : decode cX10_orderNow 20 = .ok (.getfield 79, 3) := by decide +kernel
theorem dX10_orderNow_23 : decode cX10_orderNow 23 = .ok (.iadd, 1) := by decide +kernel
theorem dX10_orderNow_24 : decode cX10_orderNow 24 = .ok (.iconst 1, 1) := by decide +kernel
theorem dX10_orderNow_25 : decode cX10_orderNow 25 = .ok (.isub, 1) := by decide +kernel
theorem dX10_orderNow_26 : decode cX10_orderNow 26 = .ok (.iaload, 1) := by decide +kernel
theorem dX10_orderNow_27 : decode cX10_orderNow 27 = .ok (.imul, 1) := by decide +kernel
theorem dX10_orderNow_28 : decode cX10_orderNow 28 = .ok (.iadd, 1) := by decide +kernel
theorem dX10_orderNow_29 : decode cX10_orderNow 29 = .ok (.istore_n 3, 1) := by decide +kernel
theorem dX10_orderNow_30 : decode cX10_orderNow 30 = .ok (.iload_n 1, 1) := by decide +kernel
theorem dX10_orderNow_31 : decode cX10_orderNow 31 = .ok (.iconst 2, 1) := by decide +kernel
theorem dX10_orderNow_32 : decode cX10_orderNow 32 = .ok (.if_icmp .ge 26, 3) := by decide +kernel
theorem dX10_orderNow_35 : decode cX10_orderNow 35 = .ok (.iload_n 1, 1) := by decide +kernel
theorem dX10_orderNow_36 : decode cX10_orderNow 36 = .ok (.ifCond .ne 12, 3) := by decide +kernel
theorem dX10_orderNow_39 : decode cX10_orderNow 39 = .ok (.aload_n 0, 1) := by decide +kernel
theorem dX10_orderNow_40 : decode cX10_orderNow 40 = .ok (.getfield 25, 3) := by decide +kernel
theorem dX10_orderNow_43 : decode cX10_orderNow 43 = .ok (.iload_n 3, 1) := by decide +kernel
theorem dX10_orderNow_44 : decode cX10_orderNow 44 = .ok (.iaload, 1) := by decide +kernel
theorem dX10_orderNow_45 : decode cX10_orderNow 45 = .ok (.goto 12, 3) := by decide +kernel
theorem dX10_orderNow_48 : decode cX10_orderNow 48 = .ok (.aload_n 0, 1) := by decide +kernel
theorem dX10_orderNow_49 : decode cX10_orderNow 49 = .ok (.getfield 28, 3) := by decide +kernel
theorem dX10_orderNow_52 : decode cX10_orderNow 52 = .ok (.iload_n 3, 1) := by decide +kernel
theorem dX10_orderNow_53 : decode cX10_orderNow 53 = .ok (.iaload, 1) := by decide +kernel
theorem dX10_orderNow_54 : decode cX10_orderNow 54 = .ok (.invokestatic 142, 3) := by decide +kernel
theorem dX10_orderNow_57 : decode cX10_orderNow 57 = .ok (.ireturn, 1) := by decide +kernel
theorem dX10_orderNow_58 : decode cX10_orderNow 58 = .ok (.iload_n 1, 1) := by decide +kernel
theorem dX10_orderNow_59 : decode cX10_orderNow 59 = .ok (.bipush 10, 2) := by decide +kernel
theorem dX10_orderNow_61 : decode cX10_orderNow 61 = .ok (.isub, 1) := by decide +kernel
theorem dX10_orderNow_62 : decode cX10_orderNow 62 = .ok (.aload_n 0, 1) := by decide +kernel
theorem dX10_orderNow_63 : decode cX10_orderNow 63 = .ok (.getfield 79, 3) := by decide +kernel
theorem dX10_orderNow_66 : decode cX10_orderNow 66 = .ok (.if_icmp .ge 18, 3) := by decide +kernel
theorem dX10_orderNow_69 : decode cX10_orderNow 69 = .ok (.aload_n 0, 1) := by decide +kernel
theorem dX10_orderNow_70 : decode cX10_orderNow 70 = .ok (.getfield 31, 3) := by decide +kernel
theorem dX10_orderNow_73 : decode cX10_orderNow 73 = .ok (.bipush 6, 2) := by decide +kernel
theorem dX10_orderNow_75 : decode cX10_orderNow 75 = .ok (.iload_n 1, 1) := by decide +kernel
theorem dX10_orderNow_76 : decode cX10_orderNow 76 = .ok (.iadd, 1) := by decide +kernel
theorem dX10_orderNow_77 : decode cX10_orderNow 77 = .ok (.bipush 10, 2) := by decide +kernel
theorem dX10_orderNow_79 : decode cX10_orderNow 79 = .ok (.isub, 1) := by decide +kernel
theorem dX10_orderNow_80 : decode cX10_orderNow 80 = .ok (.iaload, 1) := by decide +kernel
theorem dX10_orderNow_81 : decode cX10_orderNow 81 = .ok (.goto 4, 3) := by decide +kernel
theorem dX10_orderNow_84 : decode cX10_orderNow 84 = .ok (.iconst (-1), 1) := by decide +kernel
theorem dX10_orderNow_85 : decode cX10_orderNow 85 = .ok (.ireturn, 1) := by decide +kernel
set_option maxRecDepth 20000 in
theorem ggX10_order_X10_within : GoodIn wsX10_order wsX10_within := goodIn_r _ [5] (by decide +kernel) (by decide +kernel)
set_option maxRecDepth 20000 in
theorem gX10_order_X10_within : GoodIn wsX10_order (va_wsS RX10 53 yX10_within wsX10_within) := goodIn_app (goodIn_of _ (by decide +kernel)) ggX10_order_X10_within
set_option maxRecDepth 20000 in
theorem ggX10_order_X10_orderNow : GoodIn wsX10_order wsX10_orderNow := goodIn_r _ [9, 10, 1, 11, 12, 13, 14, 15, 4, 16, 17, 18, 19, 20, 21, 22, 23, 24, 25, 26, 27, 28, 29, 30, 31, 32, 33, 34, 35, 36, 37, 38, 39, 40, 41, 42, 43, 44, 45, 46, 47, 48, 49, 50, 51, 52, 53, 54, 55, 56, 57, 58, 59, 60, 61, 62, 63, 64, 65, 66, 67, 68, 69, 70, 71, 72, 73, 74, 75] (by decide +kernel) (by decide +kernel)
set_option maxRecDepth 20000 in
theorem gX10_order_X10_orderNow : GoodIn wsX10_order (wsV RX10 148 RX10 yX10_orderNow wsX10_orderNow) := goodIn_app (goodIn_of _ (by decide +kernel)) ggX10_order_X10_orderNow
theorem dX10_order_0 : decode cX10_order 0 = .ok (.iload_n 1, 1) := by decide +kernel
theorem dX10_order_1 : decode cX10_order 1 = .ok (.iconst 0, 1) := by decide +kernel
theorem dX10_order_2 : decode cX10_order 2 = .ok (.iconst 1, 1) := by decide +kernel
theorem dX10_order_3 : decode cX10_order 3 = .ok (.invokestatic 53, 3) := by decide +kernel
theorem dX10_order_6 : decode cX10_order 6 = .ok (.ifCond .ne 17, 3) := by decide +kernel
theorem dX10_order_9 : decode cX10_order 9 = .ok (.iload_n 1, 1) := by decide +kernel
theorem dX10_order_10 : decode cX10_order 10 = .ok (.bipush 10, 2) := by decide +kernel
theorem dX10_order_12 : decode cX10_order 12 = .ok (.bipush 15, 2) := by decide +kernel
theorem dX10_order_14 : decode cX10_order 14 = .ok (.invokestatic 53, 3) := by decide +kernel
theorem dX10_order_17 : decode cX10_order 17 = .ok (.ifCond .ne 6, 3) := by decide +kernel
theorem dX10_order_20 : decode cX10_order 20 = .ok (.bipush (-102), 2) := by decide +kernel
theorem dX10_order_22 : decode cX10_order 22 = .ok (.ireturn, 1) := by decide +kernel
theorem dX10_order_23 : decode cX10_order 23 = .ok (.aload_n 0, 1) := by decide +kernel
theorem dX10_order_24 : decode cX10_order 24 = .ok (.getfield 79, 3) := by decide +kernel
theorem dX10_order_27 : decode cX10_order 27 = .ok (.ifCond .ne 8, 3) := by decide +kernel
theorem dX10_order_30 : decode cX10_order 30 = .ok (.bipush (-103), 2) := by decide +kernel
theorem dX10_order_32 : decode cX10_order 32 = .ok (.goto 8, 3) := by decide +kernel
theorem dX10_order_35 : decode cX10_order 35 = .ok (.aload_n 0, 1) := by decide +kernel
theorem dX10_order_36 : decode cX10_order 36 = .ok (.iload_n 1, 1) := by decide +kernel
theorem dX10_order_37 : decode cX10_order 37 = .ok (.invokevirtual 148, 3) := by decide +kernel
theorem dX10_order_40 : decode cX10_order 40 = .ok (.ireturn, 1) := by decide +kernel
set_option maxRecDepth 20000 in
theorem ggX10_songsNow_X10_sungParts : GoodIn wsX10_songsNow wsX10_sungParts := goodIn_r _ [8, 9, 10, 11, 7, 12, 13, 14, 15, 16, 17, 18, 1, 19, 20, 21, 22, 23, 24, 25, 2, 26, 27, 28, 29, 30, 31, 32, 33, 34, 35, 36, 37, 38, 39, 40, 41, 42, 43, 44, 45, 46, 47, 48, 49, 50, 51, 52, 53, 54, 55, 56, 57, 58, 59, 60, 61, 62, 63] (by decide +kernel) (by decide +kernel)
set_option maxRecDepth 20000 in
theorem gX10_songsNow_X10_sungParts : GoodIn wsX10_songsNow (wsV RX10 151 RX10 yX10_sungParts wsX10_sungParts) := goodIn_app (goodIn_of _ (by decide +kernel)) ggX10_songsNow_X10_sungParts
theorem dX10_songsNow_0 : decode cX10_songsNow 0 = .ok (.iconst (-1), 1) := by decide +kernel
theorem dX10_songsNow_1 : decode cX10_songsNow 1 = .ok (.istore_n 3, 1) := by decide +kernel
theorem dX10_songsNow_2 : decode cX10_songsNow 2 = .ok (.iconst (-1), 1) := by decide +kernel
theorem dX10_songsNow_3 : decode cX10_songsNow 3 = .ok (.istore 4, 2) := by decide +kernel
theorem dX10_songsNow_5 : decode cX10_songsNow 5 = .ok (.iconst 0, 1) := by decide +kernel
theorem dX10_songsNow_6 : decode cX10_songsNow 6 = .ok (.istore 5, 2) := by decide +kernel
theorem dX10_songsNow_8 : decode cX10_songsNow 8 = .ok (.iload 5, 2) := by decide +kernel
theorem dX10_songsNow_10 : decode cX10_songsNow 10 = .ok (.aload_n 0, 1) := by decide +kernel
theorem dX10_songsNow_11 : decode cX10_songsNow 11 = .ok (.getfield 79, 3) := by decide +kernel
theorem dX10_songsNow_14 : decode cX10_songsNow 14 = .ok (.if_icmp .ge 26, 3) := by decide +kernel
theorem dX10_songsNow_17 : decode cX10_songsNow 17 = .ok (.aload_n 0, 1) := by decide +kernel
theorem dX10_songsNow_18 : decode cX10_songsNow 18 = .ok (.getfield 31, 3) := by decide +kernel
theorem dX10_songsNow_21 : decode cX10_songsNow 21 = .ok (.bipush 6, 2) := by decide +kernel
theorem dX10_songsNow_23 : decode cX10_songsNow 23 = .ok (.iload 5, 2) := by decide +kernel
theorem dX10_songsNow_25 : decode cX10_songsNow 25 = .ok (.iadd, 1) := by decide +kernel
theorem dX10_songsNow_26 : decode cX10_songsNow 26 = .ok (.aload_n 0, 1) := by decide +kernel
theorem dX10_songsNow_27 : decode cX10_songsNow 27 = .ok (.getfield 31, 3) := by decide +kernel
theorem dX10_songsNow_30 : decode cX10_songsNow 30 = .ok (.iload 5, 2) := by decide +kernel
theorem dX10_songsNow_32 : decode cX10_songsNow 32 = .ok (.iaload, 1) := by decide +kernel
theorem dX10_songsNow_33 : decode cX10_songsNow 33 = .ok (.iastore, 1) := by decide +kernel
theorem dX10_songsNow_34 : decode cX10_songsNow 34 = .ok (.iinc 5 1, 3) := by decide +kernel
theorem dX10_songsNow_37 : decode cX10_songsNow 37 = .ok (.goto (-29), 3) := by decide +kernel
theorem dX10_songsNow_40 : decode cX10_songsNow 40 = .ok (.iconst 0, 1) := by decide +kernel
theorem dX10_songsNow_41 : decode cX10_songsNow 41 = .ok (.istore 5, 2) := by decide +kernel
theorem dX10_songsNow_43 : decode cX10_songsNow 43 = .ok (.iload 5, 2) := by decide +kernel
theorem dX10_songsNow_45 : decode cX10_songsNow 45 = .ok (.bipush 16, 2) := by decide +kernel
theorem dX10_songsNow_47 : decode cX10_songsNow 47 = .ok (.if_icmp .ge 98, 3) := by decide +kernel
theorem dX10_songsNow_50 : decode cX10_songsNow 50 = .ok (.iconst 0, 1) := by decide +kernel
theorem dX10_songsNow_51 : decode cX10_songsNow 51 = .ok (.istore 6, 2) := by decide +kernel
theorem dX10_songsNow_53 : decode cX10_songsNow 53 = .ok (.iconst 0, 1) := by decide +kernel
theorem dX10_songsNow_54 : decode cX10_songsNow 54 = .ok (.istore 7, 2) := by decide +kernel
theorem dX10_songsNow_56 : decode cX10_songsNow 56 = .ok (.iload 7, 2) := by decide +kernel
theorem dX10_songsNow_58 : decode cX10_songsNow 58 = .ok (.iconst 4, 1) := by decide +kernel
theorem dX10_songsNow_59 : decode cX10_songsNow 59 = .ok (.if_icmp .ge 36, 3) := by decide +kernel
theorem dX10_songsNow_62 : decode cX10_songsNow 62 = .ok (.iload 6, 2) := by decide +kernel
theorem dX10_songsNow_64 : decode cX10_songsNow 64 = .ok (.iload 5, 2) := by decide +kernel
theorem dX10_songsNow_66 : decode cX10_songsNow 66 = .ok (.iload 7, 2) := by decide +kernel
theorem dX10_songsNow_68 : decode cX10_songsNow 68 = .ok (.ishr, 1) := by decide +kernel
theorem dX10_songsNow_69 : decode cX10_songsNow 69 = .ok (.iconst 1, 1) := by decide +kernel
theorem dX10_songsNow_70 : decode cX10_songsNow 70 = .ok (.iand, 1) := by decide +kernel
theorem dX10_songsNow_71 : decode cX10_songsNow 71 = .ok (.iconst 1, 1) := by decide +kernel
theorem dX10_songsNow_72 : decode cX10_songsNow 72 = .ok (.if_icmp .ne 13, 3) := by decide +kernel
theorem dX10_songsNow_75 : decode cX10_songsNow 75 = .ok (.aload_n 0, 1) := by decide +kernel
theorem dX10_songsNow_76 : decode cX10_songsNow 76 = .ok (.getfield 7, 3) := by decide +kernel
theorem dX10_songsNow_79 : decode cX10_songsNow 79 = .ok (.iload 7, 2) := by decide +kernel
theorem dX10_songsNow_81 : decode cX10_songsNow 81 = .ok (.iaload, 1) := by decide +kernel
theorem dX10_songsNow_82 : decode cX10_songsNow 82 = .ok (.goto 4, 3) := by decide +kernel
theorem dX10_songsNow_85 : decode cX10_songsNow 85 = .ok (.iconst 0, 1) := by decide +kernel
theorem dX10_songsNow_86 : decode cX10_songsNow 86 = .ok (.iadd, 1) := by decide +kernel
theorem dX10_songsNow_87 : decode cX10_songsNow 87 = .ok (.istore 6, 2) := by decide +kernel
theorem dX10_songsNow_89 : decode cX10_songsNow 89 = .ok (.iinc 7 1, 3) := by decide +kernel
theorem dX10_songsNow_92 : decode cX10_songsNow 92 = .ok (.goto (-36), 3) := by decide +kernel
theorem dX10_songsNow_95 : decode cX10_songsNow 95 = .ok (.iload 6, 2) := by decide +kernel
theorem dX10_songsNow_97 : decode cX10_songsNow 97 = .ok (.iload_n 1, 1) := by decide +kernel
theorem dX10_songsNow_98 : decode cX10_songsNow 98 = .ok (.if_icmp .gt 41, 3) := by decide +kernel
theorem dX10_songsNow_101 : decode cX10_songsNow 101 = .ok (.aload_n 0, 1) := by decide +kernel
theorem dX10_songsNow_102 : decode cX10_songsNow 102 = .ok (.iload 5, 2) := by decide +kernel
theorem dX10_songsNow_104 : decode cX10_songsNow 104 = .ok (.invokevirtual 151, 3) := by decide +kernel
theorem dX10_songsNow_107 : decode cX10_songsNow 107 = .ok (.istore 7, 2) := by decide +kernel
theorem dX10_songsNow_109 : decode cX10_songsNow 109 = .ok (.iload 7, 2) := by decide +kernel
theorem dX10_songsNow_111 : decode cX10_songsNow 111 = .ok (.iload 4, 2) := by decide +kernel
theorem dX10_songsNow_113 : decode cX10_songsNow 113 = .ok (.if_icmp .le 8, 3) := by decide +kernel
theorem dX10_songsNow_116 : decode cX10_songsNow 116 = .ok (.iload 5, 2) := by decide +kernel
theorem dX10_songsNow_118 : decode cX10_songsNow 118 = .ok (.goto 4, 3) := by decide +kernel
theorem dX10_songsNow_121 : decode cX10_songsNow 121 = .ok (.iload_n 3, 1) := by decide +kernel
theorem dX10_songsNow_122 : decode cX10_songsNow 122 = .ok (.istore_n 3, 1) := by decide +kernel
theorem dX10_songsNow_123 : decode cX10_songsNow 123 = .ok (.iload 7, 2) := by decide +kernel
theorem dX10_songsNow_125 : decode cX10_songsNow 125 = .ok (.iload 4, 2) := by decide +kernel
theorem dX10_songsNow_127 : decode cX10_songsNow 127 = .ok (.if_icmp .le 8, 3) := by decide +kernel
theorem dX10_songsNow_130 : decode cX10_songsNow 130 = .ok (.iload 7, 2) := by decide +kernel
theorem dX10_songsNow_132 : decode cX10_songsNow 132 = .ok (.goto 5, 3) := by decide +kernel
theorem dX10_songsNow_135 : decode cX10_songsNow 135 = .ok (.iload 4, 2) := by decide +kernel
theorem dX10_songsNow_137 : decode cX10_songsNow 137 = .ok (.istore 4, 2) := by decide +kernel
theorem dX10_songsNow_139 : decode cX10_songsNow 139 = .ok (.iinc 5 1, 3) := by decide +kernel
theorem dX10_songsNow_142 : decode cX10_songsNow 142 = .ok (.goto (-99), 3) := by decide +kernel
theorem dX10_songsNow_145 : decode cX10_songsNow 145 = .ok (.iload_n 2, 1) := by decide +kernel
theorem dX10_songsNow_146 : decode cX10_songsNow 146 = .ok (.ifCond .ne 7, 3) := by decide +kernel
theorem dX10_songsNow_149 : decode cX10_songsNow 149 = .ok (.iload_n 3, 1) := by decide +kernel
theorem dX10_songsNow_150 : decode cX10_songsNow 150 = .ok (.goto 5, 3) := by decide +kernel
theorem dX10_songsNow_153 : decode cX10_songsNow 153 = .ok (.iload 4, 2) := by decide +kernel
theorem dX10_songsNow_155 : decode cX10_songsNow 155 = .ok (.ireturn, 1) := by decide +kernel
set_option maxRecDepth 20000 in
theorem ggX10_sungParts_X10_copy : GoodIn wsX10_sungParts wsX10_copy := goodIn_r _ [5, 6, 7, 34, 35, 36, 37, 38, 39, 40, 41, 42, 43, 44, 45, 46, 47, 48, 49, 50, 51, 52, 53, 54, 55, 56, 57, 58] (by decide +kernel) (by decide +kernel)
set_option maxRecDepth 20000 in
theorem gX10_sungParts_X10_copy : GoodIn wsX10_sungParts (wsV RX10 154 RX10 yX10_copy wsX10_copy) := goodIn_app (goodIn_of _ (by decide +kernel)) ggX10_sungParts_X10_copy
set_option maxRecDepth 20000 in
theorem ggX10_sungParts_X10_illSet : GoodIn wsX10_sungParts wsX10_illSet := goodIn_r _ [11, 12, 13, 34, 35, 36, 37, 38, 39, 40, 41, 42, 43, 44, 45, 46, 47, 48, 49, 50, 51, 52, 53, 54, 55, 56, 57, 58] (by decide +kernel) (by decide +kernel)
set_option maxRecDepth 20000 in
theorem gX10_sungParts_X10_illSet : GoodIn wsX10_sungParts (wsV RX10 119 RX10 yX10_illSet wsX10_illSet) := goodIn_app (goodIn_of _ (by decide +kernel)) ggX10_sungParts_X10_illSet
set_option maxRecDepth 20000 in
theorem ggX10_sungParts_X10_teach : GoodIn wsX10_sungParts wsX10_teach := goodIn_r _ [17, 18, 19, 12, 20, 6, 7, 21, 22, 23, 24, 4, 25, 26, 27, 28, 29, 34, 35, 36, 37, 38, 39, 40, 41, 42, 43, 44, 45, 46, 47, 48, 49, 50, 51, 52, 53, 54, 55, 56, 57, 58] (by decide +kernel) (by decide +kernel)
set_option maxRecDepth 20000 in
theorem gX10_sungParts_X10_teach : GoodIn wsX10_sungParts (wsV RX10 122 RX10 yX10_teach wsX10_teach) := goodIn_app (goodIn_of _ (by decide +kernel)) ggX10_sungParts_X10_teach
set_option maxRecDepth 20000 in
theorem ggX10_sungParts_X10_allParts : GoodIn wsX10_sungParts wsX10_allParts := goodIn_r _ [33, 12, 6, 34, 35, 36, 37, 38, 39, 40, 41, 42, 43, 44, 45, 46, 47, 48, 49, 50, 51, 52, 53, 54, 55, 56, 57, 58] (by decide +kernel) (by decide +kernel)
set_option maxRecDepth 20000 in
theorem gX10_sungParts_X10_allParts : GoodIn wsX10_sungParts (wsV RX10 157 RX10 yX10_allParts wsX10_allParts) := goodIn_app (goodIn_of _ (by decide +kernel)) ggX10_sungParts_X10_allParts
theorem dX10_sungParts_0 : decode cX10_sungParts 0 = .ok (.aload_n 0, 1) := by decide +kernel
theorem dX10_sungParts_1 : decode cX10_sungParts 1 = .ok (.invokevirtual 154, 3) := by decide +kernel
theorem dX10_sungParts_4 : decode cX10_sungParts 4 = .ok (.iconst 0, 1) := by decide +kernel
theorem dX10_sungParts_5 : decode cX10_sungParts 5 = .ok (.istore_n 2, 1) := by decide +kernel
theorem dX10_sungParts_6 : decode cX10_sungParts 6 = .ok (.iload_n 2, 1) := by decide +kernel
theorem dX10_sungParts_7 : decode cX10_sungParts 7 = .ok (.iconst 4, 1) := by decide +kernel
theorem dX10_sungParts_8 : decode cX10_sungParts 8 = .ok (.if_icmp .ge 37, 3) := by decide +kernel
theorem dX10_sungParts_11 : decode cX10_sungParts 11 = .ok (.aload_n 0, 1) := by decide +kernel
theorem dX10_sungParts_12 : decode cX10_sungParts 12 = .ok (.bipush 24, 2) := by decide +kernel
theorem dX10_sungParts_14 : decode cX10_sungParts 14 = .ok (.bipush 6, 2) := by decide +kernel
theorem dX10_sungParts_16 : decode cX10_sungParts 16 = .ok (.iload_n 2, 1) := by decide +kernel
theorem dX10_sungParts_17 : decode cX10_sungParts 17 = .ok (.iload_n 1, 1) := by decide +kernel
theorem dX10_sungParts_18 : decode cX10_sungParts 18 = .ok (.iload_n 2, 1) := by decide +kernel
theorem dX10_sungParts_19 : decode cX10_sungParts 19 = .ok (.ishr, 1) := by decide +kernel
theorem dX10_sungParts_20 : decode cX10_sungParts 20 = .ok (.iconst 1, 1) := by decide +kernel
theorem dX10_sungParts_21 : decode cX10_sungParts 21 = .ok (.iand, 1) := by decide +kernel
theorem dX10_sungParts_22 : decode cX10_sungParts 22 = .ok (.iconst 1, 1) := by decide +kernel
theorem dX10_sungParts_23 : decode cX10_sungParts 23 = .ok (.if_icmp .ne 7, 3) := by decide +kernel
theorem dX10_sungParts_26 : decode cX10_sungParts 26 = .ok (.iconst 1, 1) := by decide +kernel
theorem dX10_sungParts_27 : decode cX10_sungParts 27 = .ok (.goto 4, 3) := by decide +kernel
theorem dX10_sungParts_30 : decode cX10_sungParts 30 = .ok (.iconst 0, 1) := by decide +kernel
theorem dX10_sungParts_31 : decode cX10_sungParts 31 = .ok (.aload_n 0, 1) := by decide +kernel
theorem dX10_sungParts_32 : decode cX10_sungParts 32 = .ok (.invokevirtual 119, 3) := by decide +kernel
theorem dX10_sungParts_35 : decode cX10_sungParts 35 = .ok (.invokevirtual 122, 3) := by decide +kernel
theorem dX10_sungParts_38 : decode cX10_sungParts 38 = .ok (.pop, 1) := by decide +kernel
theorem dX10_sungParts_39 : decode cX10_sungParts 39 = .ok (.iinc 2 1, 3) := by decide +kernel
theorem dX10_sungParts_42 : decode cX10_sungParts 42 = .ok (.goto (-36), 3) := by decide +kernel
theorem dX10_sungParts_45 : decode cX10_sungParts 45 = .ok (.aload_n 0, 1) := by decide +kernel
theorem dX10_sungParts_46 : decode cX10_sungParts 46 = .ok (.bipush 24, 2) := by decide +kernel
theorem dX10_sungParts_48 : decode cX10_sungParts 48 = .ok (.invokevirtual 157, 3) := by decide +kernel
theorem dX10_sungParts_51 : decode cX10_sungParts 51 = .ok (.ireturn, 1) := by decide +kernel
theorem dX10_allParts_0 : decode cX10_allParts 0 = .ok (.iconst 0, 1) := by decide +kernel
theorem dX10_allParts_1 : decode cX10_allParts 1 = .ok (.istore_n 2, 1) := by decide +kernel
theorem dX10_allParts_2 : decode cX10_allParts 2 = .ok (.iconst 0, 1) := by decide +kernel
theorem dX10_allParts_3 : decode cX10_allParts 3 = .ok (.istore_n 3, 1) := by decide +kernel
theorem dX10_allParts_4 : decode cX10_allParts 4 = .ok (.iload_n 3, 1) := by decide +kernel
theorem dX10_allParts_5 : decode cX10_allParts 5 = .ok (.iconst 4, 1) := by decide +kernel
theorem dX10_allParts_6 : decode cX10_allParts 6 = .ok (.aload_n 0, 1) := by decide +kernel
theorem dX10_allParts_7 : decode cX10_allParts 7 = .ok (.getfield 79, 3) := by decide +kernel
theorem dX10_allParts_10 : decode cX10_allParts 10 = .ok (.imul, 1) := by decide +kernel
theorem dX10_allParts_11 : decode cX10_allParts 11 = .ok (.if_icmp .ge 20, 3) := by decide +kernel
theorem dX10_allParts_14 : decode cX10_allParts 14 = .ok (.iload_n 2, 1) := by decide +kernel
theorem dX10_allParts_15 : decode cX10_allParts 15 = .ok (.aload_n 0, 1) := by decide +kernel
theorem dX10_allParts_16 : decode cX10_allParts 16 = .ok (.getfield 25, 3) := by decide +kernel
theorem dX10_allParts_19 : decode cX10_allParts 19 = .ok (.iload_n 1, 1) := by decide +kernel
theorem dX10_allParts_20 : decode cX10_allParts 20 = .ok (.iload_n 3, 1) := by decide +kernel
theorem dX10_allParts_21 : decode cX10_allParts 21 = .ok (.iadd, 1) := by decide +kernel
theorem dX10_allParts_22 : decode cX10_allParts 22 = .ok (.iaload, 1) := by decide +kernel
theorem dX10_allParts_23 : decode cX10_allParts 23 = .ok (.iadd, 1) := by decide +kernel
theorem dX10_allParts_24 : decode cX10_allParts 24 = .ok (.istore_n 2, 1) := by decide +kernel
theorem dX10_allParts_25 : decode cX10_allParts 25 = .ok (.iinc 3 1, 3) := by decide +kernel
theorem dX10_allParts_28 : decode cX10_allParts 28 = .ok (.goto (-24), 3) := by decide +kernel
theorem dX10_allParts_31 : decode cX10_allParts 31 = .ok (.iload_n 2, 1) := by decide +kernel
theorem dX10_allParts_32 : decode cX10_allParts 32 = .ok (.ireturn, 1) := by decide +kernel
