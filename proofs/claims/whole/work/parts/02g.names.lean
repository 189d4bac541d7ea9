theorem dX9_isIn_0 : decode cX9_isIn 0 = .ok (.iload_n 0, 1) := by decide +kernel
theorem dX9_isIn_1 : decode cX9_isIn 1 = .ok (.iload_n 1, 1) := by decide +kernel
theorem dX9_isIn_2 : decode cX9_isIn 2 = .ok (.ishr, 1) := by decide +kernel
theorem dX9_isIn_3 : decode cX9_isIn 3 = .ok (.iconst 1, 1) := by decide +kernel
theorem dX9_isIn_4 : decode cX9_isIn 4 = .ok (.iand, 1) := by decide +kernel
theorem dX9_isIn_5 : decode cX9_isIn 5 = .ok (.iconst 1, 1) := by decide +kernel
theorem dX9_isIn_6 : decode cX9_isIn 6 = .ok (.if_icmp .ne 7, 3) := by decide +kernel
theorem dX9_isIn_9 : decode cX9_isIn 9 = .ok (.iconst 1, 1) := by decide +kernel
theorem dX9_isIn_10 : decode cX9_isIn 10 = .ok (.goto 4, 3) := by decide +kernel
theorem dX9_isIn_13 : decode cX9_isIn 13 = .ok (.iconst 0, 1) := by decide +kernel
theorem dX9_isIn_14 : decode cX9_isIn 14 = .ok (.ireturn, 1) := by decide +kernel
set_option maxRecDepth 20000 in
theorem ggX9_tryYears_X9_nextSeed : GoodIn wsX9_tryYears wsX9_nextSeed := goodIn_r _ [6, 7, 8, 9] (by decide +kernel) (by decide +kernel)
set_option maxRecDepth 20000 in
theorem gX9_tryYears_X9_nextSeed : GoodIn wsX9_tryYears (va_wsS RX9 259 yX9_nextSeed wsX9_nextSeed) := goodIn_app (goodIn_of _ (by decide +kernel)) ggX9_tryYears_X9_nextSeed
set_option maxRecDepth 20000 in
theorem ggX9_tryYears_X9_draw : GoodIn wsX9_tryYears wsX9_draw := goodIn_r _ [12, 13] (by decide +kernel) (by decide +kernel)
set_option maxRecDepth 20000 in
theorem gX9_tryYears_X9_draw : GoodIn wsX9_tryYears (va_wsS RX9 263 yX9_draw wsX9_draw) := goodIn_app (goodIn_of _ (by decide +kernel)) ggX9_tryYears_X9_draw
set_option maxRecDepth 20000 in
theorem ggX9_tryYears_X4_teachDown : GoodIn wsX9_tryYears wsX4_teachDown := goodIn_r _ [18, 19, 20, 21, 22, 23, 24, 25, 26, 27, 28, 29, 30, 31, 32, 33, 34, 35, 36, 37, 17, 38, 39, 40, 5, 41, 42, 43, 44, 45, 46, 47, 48, 49, 50, 51, 52, 53, 54, 55, 56, 57, 58, 59, 60, 61, 62, 63, 64, 65, 66, 67, 68, 69, 70, 71, 72, 73, 74, 75, 76, 77, 78, 79, 80, 81, 82, 83, 84, 85, 86, 87, 88, 89, 90, 91, 92, 93, 94, 95, 96, 97, 98, 99, 100, 101, 102, 103, 104, 105, 106, 107, 108, 109, 110, 147, 148, 149, 150, 151, 152, 153, 154, 155, 156, 157, 158, 159, 160, 161] (by decide +kernel) (by decide +kernel)
set_option maxRecDepth 20000 in
theorem gX9_tryYears_X4_teachDown : GoodIn wsX9_tryYears (wsV RX9 135 RX4 yX4_teachDown wsX4_teachDown) := goodIn_app (goodIn_of _ (by decide +kernel)) ggX9_tryYears_X4_teachDown
set_option maxRecDepth 20000 in
theorem ggX9_tryYears_X4_passSummer : GoodIn wsX9_tryYears wsX4_passSummer := goodIn_r _ [114, 19, 21, 22, 23, 24, 25, 26, 27, 28, 42, 43, 44, 45, 46, 47, 48, 49, 50, 51, 52, 30, 31, 32, 33, 34, 53, 54, 17, 55, 29, 115, 116, 117, 118, 79, 119, 120, 121, 63, 122, 84, 85, 86, 123, 124, 125, 126, 127, 128, 129, 130, 131, 132, 56, 57, 58, 59, 147, 148, 149, 150, 151, 152, 153, 154, 155, 156, 157, 158, 159, 160, 161] (by decide +kernel) (by decide +kernel)
set_option maxRecDepth 20000 in
theorem gX9_tryYears_X4_passSummer : GoodIn wsX9_tryYears (wsV RX9 139 RX4 yX4_passSummer wsX4_passSummer) := goodIn_app (goodIn_of _ (by decide +kernel)) ggX9_tryYears_X4_passSummer
set_option maxRecDepth 20000 in
theorem ggX9_tryYears_X5_size : GoodIn wsX9_tryYears wsX5_size := goodIn_r _ [27, 28, 153, 154, 155, 156, 157, 158, 159, 160] (by decide +kernel) (by decide +kernel)
set_option maxRecDepth 20000 in
theorem gX9_tryYears_X5_size : GoodIn wsX9_tryYears (wsV RX9 77 RX5 yX5_size wsX5_size) := goodIn_app (goodIn_of _ (by decide +kernel)) ggX9_tryYears_X5_size
set_option maxRecDepth 20000 in
theorem ggX9_tryYears_X4_changeSeats : GoodIn wsX9_tryYears wsX4_changeSeats := goodIn_r _ [137, 20, 29, 30, 31, 32, 33, 34, 56, 57, 58, 59, 147, 148, 149, 150, 151, 152, 161] (by decide +kernel) (by decide +kernel)
set_option maxRecDepth 20000 in
theorem gX9_tryYears_X4_changeSeats : GoodIn wsX9_tryYears (wsV RX9 111 RX4 yX4_changeSeats wsX4_changeSeats) := goodIn_app (goodIn_of _ (by decide +kernel)) ggX9_tryYears_X4_changeSeats
theorem dX9_tryYears_0 : decode cX9_tryYears 0 = .ok (.lload_n 2, 1) := by decide +kernel
theorem dX9_tryYears_1 : decode cX9_tryYears 1 = .ok (.lstore 4, 2) := by decide +kernel
theorem dX9_tryYears_3 : decode cX9_tryYears 3 = .ok (.iconst 0, 1) := by decide +kernel
theorem dX9_tryYears_4 : decode cX9_tryYears 4 = .ok (.istore 6, 2) := by decide +kernel
theorem dX9_tryYears_6 : decode cX9_tryYears 6 = .ok (.iload 6, 2) := by decide +kernel
theorem dX9_tryYears_8 : decode cX9_tryYears 8 = .ok (.iload_n 1, 1) := by decide +kernel
theorem dX9_tryYears_9 : decode cX9_tryYears 9 = .ok (.if_icmp .ge 107, 3) := by decide +kernel
theorem dX9_tryYears_12 : decode cX9_tryYears 12 = .ok (.lload 4, 2) := by decide +kernel
theorem dX9_tryYears_14 : decode cX9_tryYears 14 = .ok (.invokestatic 259, 3) := by decide +kernel
theorem dX9_tryYears_17 : decode cX9_tryYears 17 = .ok (.lstore 4, 2) := by decide +kernel
theorem dX9_tryYears_19 : decode cX9_tryYears 19 = .ok (.lload 4, 2) := by decide +kernel
theorem dX9_tryYears_21 : decode cX9_tryYears 21 = .ok (.bipush 6, 2) := by decide +kernel
theorem dX9_tryYears_23 : decode cX9_tryYears 23 = .ok (.invokestatic 263, 3) := by decide +kernel
theorem dX9_tryYears_26 : decode cX9_tryYears 26 = .ok (.istore 7, 2) := by decide +kernel
theorem dX9_tryYears_28 : decode cX9_tryYears 28 = .ok (.iload 7, 2) := by decide +kernel
theorem dX9_tryYears_30 : decode cX9_tryYears 30 = .ok (.iconst 4, 1) := by decide +kernel
theorem dX9_tryYears_31 : decode cX9_tryYears 31 = .ok (.if_icmp .ge 17, 3) := by decide +kernel
theorem dX9_tryYears_34 : decode cX9_tryYears 34 = .ok (.aload_n 0, 1) := by decide +kernel
theorem dX9_tryYears_35 : decode cX9_tryYears 35 = .ok (.getfield 35, 3) := by decide +kernel
theorem dX9_tryYears_38 : decode cX9_tryYears 38 = .ok (.iload 7, 2) := by decide +kernel
theorem dX9_tryYears_40 : decode cX9_tryYears 40 = .ok (.iconst 0, 1) := by decide +kernel
theorem dX9_tryYears_41 : decode cX9_tryYears 41 = .ok (.invokevirtual 135, 3) := by decide +kernel
theorem dX9_tryYears_44 : decode cX9_tryYears 44 = .ok (.pop, 1) := by decide +kernel
theorem dX9_tryYears_45 : decode cX9_tryYears 45 = .ok (.goto 65, 3) := by decide +kernel
theorem dX9_tryYears_48 : decode cX9_tryYears 48 = .ok (.iload 7, 2) := by decide +kernel
theorem dX9_tryYears_50 : decode cX9_tryYears 50 = .ok (.iconst 4, 1) := by decide +kernel
theorem dX9_tryYears_51 : decode cX9_tryYears 51 = .ok (.if_icmp .ne 14, 3) := by decide +kernel
theorem dX9_tryYears_54 : decode cX9_tryYears 54 = .ok (.aload_n 0, 1) := by decide +kernel
theorem dX9_tryYears_55 : decode cX9_tryYears 55 = .ok (.getfield 35, 3) := by decide +kernel
theorem dX9_tryYears_58 : decode cX9_tryYears 58 = .ok (.invokevirtual 139, 3) := by decide +kernel
theorem dX9_tryYears_61 : decode cX9_tryYears 61 = .ok (.pop, 1) := by decide +kernel
theorem dX9_tryYears_62 : decode cX9_tryYears 62 = .ok (.goto 48, 3) := by decide +kernel
theorem dX9_tryYears_65 : decode cX9_tryYears 65 = .ok (.lload 4, 2) := by decide +kernel
theorem dX9_tryYears_67 : decode cX9_tryYears 67 = .ok (.invokestatic 259, 3) := by decide +kernel
theorem dX9_tryYears_70 : decode cX9_tryYears 70 = .ok (.lstore 8, 2) := by decide +kernel
theorem dX9_tryYears_72 : decode cX9_tryYears 72 = .ok (.lload 8, 2) := by decide +kernel
theorem dX9_tryYears_74 : decode cX9_tryYears 74 = .ok (.invokestatic 259, 3) := by decide +kernel
theorem dX9_tryYears_77 : decode cX9_tryYears 77 = .ok (.lstore 4, 2) := by decide +kernel
theorem dX9_tryYears_79 : decode cX9_tryYears 79 = .ok (.aload_n 0, 1) := by decide +kernel
theorem dX9_tryYears_80 : decode cX9_tryYears 80 = .ok (.getfield 35, 3) := by decide +kernel
theorem dX9_tryYears_83 : decode cX9_tryYears 83 = .ok (.lload 8, 2) := by decide +kernel
theorem dX9_tryYears_85 : decode cX9_tryYears 85 = .ok (.aload_n 0, 1) := by decide +kernel
theorem dX9_tryYears_86 : decode cX9_tryYears 86 = .ok (.getfield 19, 3) := by decide +kernel
theorem dX9_tryYears_89 : decode cX9_tryYears 89 = .ok (.invokevirtual 77, 3) := by decide +kernel
theorem dX9_tryYears_92 : decode cX9_tryYears 92 = .ok (.invokestatic 263, 3) := by decide +kernel
theorem dX9_tryYears_95 : decode cX9_tryYears 95 = .ok (.lload 4, 2) := by decide +kernel
theorem dX9_tryYears_97 : decode cX9_tryYears 97 = .ok (.aload_n 0, 1) := by decide +kernel
theorem dX9_tryYears_98 : decode cX9_tryYears 98 = .ok (.getfield 19, 3) := by decide +kernel
theorem dX9_tryYears_101 : decode cX9_tryYears 101 = .ok (.invokevirtual 77, 3) := by decide +kernel
theorem dX9_tryYears_104 : decode cX9_tryYears 104 = .ok (.invokestatic 263, 3) := by decide +kernel
theorem dX9_tryYears_107 : decode cX9_tryYears 107 = .ok (.invokevirtual 111, 3) := by decide +kernel
theorem dX9_tryYears_110 : decode cX9_tryYears 110 = .ok (.iinc 6 1, 3) := by decide +kernel
theorem dX9_tryYears_113 : decode cX9_tryYears 113 = .ok (.goto (-107), 3) := by decide +kernel
theorem dX9_tryYears_116 : decode cX9_tryYears 116 = .ok (.lload 4, 2) := by decide +kernel
theorem dX9_tryYears_118 : decode cX9_tryYears 118 = .ok (.lreturn, 1) := by decide +kernel
theorem dX9_nextSeed_0 : decode cX9_nextSeed 0 = .ok (.ldc2_w 267, 3) := by decide +kernel
theorem dX9_nextSeed_3 : decode cX9_nextSeed 3 = .ok (.lload_n 0, 1) := by decide +kernel
theorem dX9_nextSeed_4 : decode cX9_nextSeed 4 = .ok (.lmul, 1) := by decide +kernel
theorem dX9_nextSeed_5 : decode cX9_nextSeed 5 = .ok (.ldc2_w 269, 3) := by decide +kernel
theorem dX9_nextSeed_8 : decode cX9_nextSeed 8 = .ok (.ladd, 1) := by decide +kernel
theorem dX9_nextSeed_9 : decode cX9_nextSeed 9 = .ok (.ldc2_w 271, 3) := by decide +kernel
theorem dX9_nextSeed_12 : decode cX9_nextSeed 12 = .ok (.land, 1) := by decide +kernel
theorem dX9_nextSeed_13 : decode cX9_nextSeed 13 = .ok (.lreturn, 1) := by decide +kernel
theorem dX9_draw_0 : decode cX9_draw 0 = .ok (.iload_n 2, 1) := by decide +kernel
theorem dX9_draw_1 : decode cX9_draw 1 = .ok (.ifCond .le 15, 3) := by decide +kernel
theorem dX9_draw_4 : decode cX9_draw 4 = .ok (.lload_n 0, 1) := by decide +kernel
theorem dX9_draw_5 : decode cX9_draw 5 = .ok (.ldc2_w 273, 3) := by decide +kernel
theorem dX9_draw_8 : decode cX9_draw 8 = .ok (.ldiv, 1) := by decide +kernel
theorem dX9_draw_9 : decode cX9_draw 9 = .ok (.iload_n 2, 1) := by decide +kernel
theorem dX9_draw_10 : decode cX9_draw 10 = .ok (.i2l, 1) := by decide +kernel
theorem dX9_draw_11 : decode cX9_draw 11 = .ok (.lrem, 1) := by decide +kernel
theorem dX9_draw_12 : decode cX9_draw 12 = .ok (.l2i, 1) := by decide +kernel
theorem dX9_draw_13 : decode cX9_draw 13 = .ok (.goto 4, 3) := by decide +kernel
theorem dX9_draw_16 : decode cX9_draw 16 = .ok (.iconst 0, 1) := by decide +kernel
theorem dX9_draw_17 : decode cX9_draw 17 = .ok (.ireturn, 1) := by decide +kernel
theorem dX10_init_0 : decode cX10_init 0 = .ok (.aload_n 0, 1) := by decide +kernel
theorem dX10_init_1 : decode cX10_init 1 = .ok (.invokespecial 1, 3) := by decide +kernel
theorem dX10_init_4 : decode cX10_init 4 = .ok (.aload_n 0, 1) := by decide +kernel
theorem dX10_init_5 : decode cX10_init 5 = .ok (.iconst 4, 1) := by decide +kernel
theorem dX10_init_6 : decode cX10_init 6 = .ok (.newarray .int, 2) := by decide +kernel
theorem dX10_init_8 : decode cX10_init 8 = .ok (.putfield 7, 3) := by decide +kernel
theorem dX10_init_11 : decode cX10_init 11 = .ok (.aload_n 0, 1) := by decide +kernel
theorem dX10_init_12 : decode cX10_init 12 = .ok (.bipush 6, 2) := by decide +kernel
theorem dX10_init_14 : decode cX10_init 14 = .ok (.newarray .int, 2) := by decide +kernel
theorem dX10_init_16 : decode cX10_init 16 = .ok (.putfield 13, 3) := by decide +kernel
theorem dX10_init_19 : decode cX10_init 19 = .ok (.aload_n 0, 1) := by decide +kernel
theorem dX10_init_20 : decode cX10_init 20 = .ok (.bipush 6, 2) := by decide +kernel
theorem dX10_init_22 : decode cX10_init 22 = .ok (.newarray .int, 2) := by decide +kernel
theorem dX10_init_24 : decode cX10_init 24 = .ok (.putfield 16, 3) := by decide +kernel
theorem dX10_init_27 : decode cX10_init 27 = .ok (.aload_n 0, 1) := by decide +kernel
theorem dX10_init_28 : decode cX10_init 28 = .ok (.bipush 6, 2) := by decide +kernel
theorem dX10_init_30 : decode cX10_init 30 = .ok (.newarray .int, 2) := by decide +kernel
theorem dX10_init_32 : decode cX10_init 32 = .ok (.putfield 19, 3) := by decide +kernel
theorem dX10_init_35 : decode cX10_init 35 = .ok (.aload_n 0, 1) := by decide +kernel
theorem dX10_init_36 : decode cX10_init 36 = .ok (.bipush 6, 2) := by decide +kernel
theorem dX10_init_38 : decode cX10_init 38 = .ok (.newarray .int, 2) := by decide +kernel
theorem dX10_init_40 : decode cX10_init 40 = .ok (.putfield 22, 3) := by decide +kernel
theorem dX10_init_43 : decode cX10_init 43 = .ok (.aload_n 0, 1) := by decide +kernel
theorem dX10_init_44 : decode cX10_init 44 = .ok (.bipush 48, 2) := by decide +kernel
theorem dX10_init_46 : decode cX10_init 46 = .ok (.newarray .int, 2) := by decide +kernel
theorem dX10_init_48 : decode cX10_init 48 = .ok (.putfield 25, 3) := by decide +kernel
theorem dX10_init_51 : decode cX10_init 51 = .ok (.aload_n 0, 1) := by decide +kernel
theorem dX10_init_52 : decode cX10_init 52 = .ok (.bipush 48, 2) := by decide +kernel
theorem dX10_init_54 : decode cX10_init 54 = .ok (.newarray .int, 2) := by decide +kernel
theorem dX10_init_56 : decode cX10_init 56 = .ok (.putfield 28, 3) := by decide +kernel
theorem dX10_init_59 : decode cX10_init 59 = .ok (.aload_n 0, 1) := by decide +kernel
theorem dX10_init_60 : decode cX10_init 60 = .ok (.bipush 12, 2) := by decide +kernel
theorem dX10_init_62 : decode cX10_init 62 = .ok (.newarray .int, 2) := by decide +kernel
theorem dX10_init_64 : decode cX10_init 64 = .ok (.putfield 31, 3) := by decide +kernel
theorem dX10_init_67 : decode cX10_init 67 = .ok (.aload_n 0, 1) := by decide +kernel
theorem dX10_init_68 : decode cX10_init 68 = .ok (.bipush 14, 2) := by decide +kernel
theorem dX10_init_70 : decode cX10_init 70 = .ok (.newarray .byte, 2) := by decide +kernel
theorem dX10_init_72 : decode cX10_init 72 = .ok (.putfield 34, 3) := by decide +kernel
theorem dX10_init_75 : decode cX10_init 75 = .ok (.aload_n 0, 1) := by decide +kernel
theorem dX10_init_76 : decode cX10_init 76 = .ok (.bipush 6, 2) := by decide +kernel
theorem dX10_init_78 : decode cX10_init 78 = .ok (.newarray .int, 2) := by decide +kernel
theorem dX10_init_80 : decode cX10_init 80 = .ok (.putfield 38, 3) := by decide +kernel
theorem dX10_init_83 : decode cX10_init 83 = .ok (.aload_n 0, 1) := by decide +kernel
theorem dX10_init_84 : decode cX10_init 84 = .ok (.bipush 6, 2) := by decide +kernel
theorem dX10_init_86 : decode cX10_init 86 = .ok (.newarray .int, 2) := by decide +kernel
theorem dX10_init_88 : decode cX10_init 88 = .ok (.putfield 41, 3) := by decide +kernel
theorem dX10_init_91 : decode cX10_init 91 = .ok (.aload_n 0, 1) := by decide +kernel
theorem dX10_init_92 : decode cX10_init 92 = .ok (.bipush 6, 2) := by decide +kernel
theorem dX10_init_94 : decode cX10_init 94 = .ok (.newarray .int, 2) := by decide +kernel
theorem dX10_init_96 : decode cX10_init 96 = .ok (.putfield 44, 3) := by decide +kernel
theorem dX10_init_99 : decode cX10_init 99 = .ok (.aload_n 0, 1) := by decide +kernel
theorem dX10_init_100 : decode cX10_init 100 = .ok (.bipush 24, 2) := by decide +kernel
theorem dX10_init_102 : decode cX10_init 102 = .ok (.newarray .int, 2) := by decide +kernel
theorem dX10_init_104 : decode cX10_init 104 = .ok (.putfield 47, 3) := by decide +kernel
theorem dX10_init_107 : decode cX10_init 107 = .ok (.aload_n 0, 1) := by decide +kernel
theorem dX10_init_108 : decode cX10_init 108 = .ok (.bipush 24, 2) := by decide +kernel
theorem dX10_init_110 : decode cX10_init 110 = .ok (.newarray .int, 2) := by decide +kernel
theorem dX10_init_112 : decode cX10_init 112 = .ok (.putfield 50, 3) := by decide +kernel
theorem dX10_init_115 : decode cX10_init 115 = .ok (.return_, 1) := by decide +kernel
theorem dX10_within_0 : decode cX10_within 0 = .ok (.iload_n 0, 1) := by decide +kernel
theorem dX10_within_1 : decode cX10_within 1 = .ok (.iload_n 1, 1) := by decide +kernel
theorem dX10_within_2 : decode cX10_within 2 = .ok (.if_icmp .lt 12, 3) := by decide +kernel
theorem dX10_within_5 : decode cX10_within 5 = .ok (.iload_n 0, 1) := by decide +kernel
theorem dX10_within_6 : decode cX10_within 6 = .ok (.iload_n 2, 1) := by decide +kernel
theorem dX10_within_7 : decode cX10_within 7 = .ok (.if_icmp .gt 7, 3) := by decide +kernel
theorem dX10_within_10 : decode cX10_within 10 = .ok (.iconst 1, 1) := by decide +kernel
theorem dX10_within_11 : decode cX10_within 11 = .ok (.goto 4, 3) := by decide +kernel
theorem dX10_within_14 : decode cX10_within 14 = .ok (.iconst 0, 1) := by decide +kernel
theorem dX10_within_15 : decode cX10_within 15 = .ok (.ireturn, 1) := by decide +kernel
theorem dX10_size_0 : decode cX10_size 0 = .ok (.iconst 0, 1) := by decide +kernel
theorem dX10_size_1 : decode cX10_size 1 = .ok (.istore_n 1, 1) := by decide +kernel
theorem dX10_size_2 : decode cX10_size 2 = .ok (.iconst 0, 1) := by decide +kernel
theorem dX10_size_3 : decode cX10_size 3 = .ok (.istore_n 2, 1) := by decide +kernel
theorem dX10_size_4 : decode cX10_size 4 = .ok (.iload_n 2, 1) := by decide +kernel
theorem dX10_size_5 : decode cX10_size 5 = .ok (.bipush 6, 2) := by decide +kernel
theorem dX10_size_7 : decode cX10_size 7 = .ok (.if_icmp .ge 17, 3) := by decide +kernel
theorem dX10_size_10 : decode cX10_size 10 = .ok (.iload_n 1, 1) := by decide +kernel
theorem dX10_size_11 : decode cX10_size 11 = .ok (.iload_n 0, 1) := by decide +kernel
theorem dX10_size_12 : decode cX10_size 12 = .ok (.iload_n 2, 1) := by decide +kernel
theorem dX10_size_13 : decode cX10_size 13 = .ok (.ishr, 1) := by decide +kernel
theorem dX10_size_14 : decode cX10_size 14 = .ok (.iconst 1, 1) := by decide +kernel
theorem dX10_size_15 : decode cX10_size 15 = .ok (.iand, 1) := by decide +kernel
theorem dX10_size_16 : decode cX10_size 16 = .ok (.iadd, 1) := by decide +kernel
theorem dX10_size_17 : decode cX10_size 17 = .ok (.istore_n 1, 1) := by decide +kernel
theorem dX10_size_18 : decode cX10_size 18 = .ok (.iinc 2 1, 3) := by decide +kernel
theorem dX10_size_21 : decode cX10_size 21 = .ok (.goto (-17), 3) := by decide +kernel
theorem dX10_size_24 : decode cX10_size 24 = .ok (.iload_n 1, 1) := by decide +kernel
theorem dX10_size_25 : decode cX10_size 25 = .ok (.ireturn, 1) := by decide +kernel
set_option maxRecDepth 20000 in
theorem ggX10_letter_X10_within : GoodIn wsX10_letter wsX10_within := goodIn_r _ [6] (by decide +kernel) (by decide +kernel)
set_option maxRecDepth 20000 in
theorem gX10_letter_X10_within : GoodIn wsX10_letter (va_wsS RX10 53 yX10_within wsX10_within) := goodIn_app (goodIn_of _ (by decide +kernel)) ggX10_letter_X10_within
theorem dX10_letter_0 : decode cX10_letter 0 = .ok (.iload_n 1, 1) := by decide +kernel
theorem dX10_letter_1 : decode cX10_letter 1 = .ok (.bipush 32, 2) := by decide +kernel
theorem dX10_letter_3 : decode cX10_letter 3 = .ok (.bipush 126, 2) := by decide +kernel
theorem dX10_letter_5 : decode cX10_letter 5 = .ok (.invokestatic 53, 3) := by decide +kernel
theorem dX10_letter_8 : decode cX10_letter 8 = .ok (.ifCond .ne 6, 3) := by decide +kernel
theorem dX10_letter_11 : decode cX10_letter 11 = .ok (.bipush (-102), 2) := by decide +kernel
theorem dX10_letter_13 : decode cX10_letter 13 = .ok (.ireturn, 1) := by decide +kernel
theorem dX10_letter_14 : decode cX10_letter 14 = .ok (.aload_n 0, 1) := by decide +kernel
theorem dX10_letter_15 : decode cX10_letter 15 = .ok (.getfield 57, 3) := by decide +kernel
theorem dX10_letter_18 : decode cX10_letter 18 = .ok (.bipush 14, 2) := by decide +kernel
theorem dX10_letter_20 : decode cX10_letter 20 = .ok (.if_icmp .ne 6, 3) := by decide +kernel
theorem dX10_letter_23 : decode cX10_letter 23 = .ok (.bipush (-104), 2) := by decide +kernel
theorem dX10_letter_25 : decode cX10_letter 25 = .ok (.ireturn, 1) := by decide +kernel
theorem dX10_letter_26 : decode cX10_letter 26 = .ok (.aload_n 0, 1) := by decide +kernel
theorem dX10_letter_27 : decode cX10_letter 27 = .ok (.getfield 34, 3) := by decide +kernel
theorem dX10_letter_30 : decode cX10_letter 30 = .ok (.aload_n 0, 1) := by decide +kernel
theorem dX10_letter_31 : decode cX10_letter 31 = .ok (.getfield 57, 3) := by decide +kernel
theorem dX10_letter_34 : decode cX10_letter 34 = .ok (.iload_n 1, 1) := by decide +kernel
theorem dX10_letter_35 : decode cX10_letter 35 = .ok (.i2b, 1) := by decide +kernel
theorem dX10_letter_36 : decode cX10_letter 36 = .ok (.bastore, 1) := by decide +kernel
theorem dX10_letter_37 : decode cX10_letter 37 = .ok (.aload_n 0, 1) := by decide +kernel
theorem dX10_letter_38 : decode cX10_letter 38 = .ok (.dup, 1) := by decide +kernel
theorem dX10_letter_39 : decode cX10_letter 39 = .ok (.getfield 57, 3) := by decide +kernel
theorem dX10_letter_42 : decode cX10_letter 42 = .ok (.iconst 1, 1) := by decide +kernel
theorem dX10_letter_43 : decode cX10_letter 43 = .ok (.iadd, 1) := by decide +kernel
theorem dX10_letter_44 : decode cX10_letter 44 = .ok (.putfield 57, 3) := by decide +kernel
theorem dX10_letter_47 : decode cX10_letter 47 = .ok (.aload_n 0, 1) := by decide +kernel
theorem dX10_letter_48 : decode cX10_letter 48 = .ok (.getfield 57, 3) := by decide +kernel
theorem dX10_letter_51 : decode cX10_letter 51 = .ok (.ireturn, 1) := by decide +kernel
theorem dX10_blank_0 : decode cX10_blank 0 = .ok (.aload_n 0, 1) := by decide +kernel
theorem dX10_blank_1 : decode cX10_blank 1 = .ok (.getfield 57, 3) := by decide +kernel
theorem dX10_blank_4 : decode cX10_blank 4 = .ok (.istore_n 1, 1) := by decide +kernel
theorem dX10_blank_5 : decode cX10_blank 5 = .ok (.aload_n 0, 1) := by decide +kernel
theorem dX10_blank_6 : decode cX10_blank 6 = .ok (.iconst 0, 1) := by decide +kernel
theorem dX10_blank_7 : decode cX10_blank 7 = .ok (.putfield 57, 3) := by decide +kernel
theorem dX10_blank_10 : decode cX10_blank 10 = .ok (.iload_n 1, 1) := by decide +kernel
theorem dX10_blank_11 : decode cX10_blank 11 = .ok (.ireturn, 1) := by decide +kernel
theorem dX10_kindBy_0 : decode cX10_kindBy 0 = .ok (.iload_n 0, 1) := by decide +kernel
theorem dX10_kindBy_1 : decode cX10_kindBy 1 = .ok (.lookupswitch 61 #[(99, 51), (100, 55), (103, 57), (104, 59), (115, 53)], 51) := by decide +kernel
theorem dX10_kindBy_52 : decode cX10_kindBy 52 = .ok (.iconst 0, 1) := by decide +kernel
theorem dX10_kindBy_53 : decode cX10_kindBy 53 = .ok (.ireturn, 1) := by decide +kernel
theorem dX10_kindBy_54 : decode cX10_kindBy 54 = .ok (.iconst 1, 1) := by decide +kernel
theorem dX10_kindBy_55 : decode cX10_kindBy 55 = .ok (.ireturn, 1) := by decide +kernel
theorem dX10_kindBy_56 : decode cX10_kindBy 56 = .ok (.iconst 2, 1) := by decide +kernel
theorem dX10_kindBy_57 : decode cX10_kindBy 57 = .ok (.ireturn, 1) := by decide +kernel
theorem dX10_kindBy_58 : decode cX10_kindBy 58 = .ok (.iconst 3, 1) := by decide +kernel
theorem dX10_kindBy_59 : decode cX10_kindBy 59 = .ok (.ireturn, 1) := by decide +kernel
theorem dX10_kindBy_60 : decode cX10_kindBy 60 = .ok (.iconst 4, 1) := by decide +kernel
theorem dX10_kindBy_61 : decode cX10_kindBy 61 = .ok (.ireturn, 1) := by decide +kernel
theorem dX10_kindBy_62 : decode cX10_kindBy 62 = .ok (.iconst (-1), 1) := by decide +kernel
theorem dX10_kindBy_63 : decode cX10_kindBy 63 = .ok (.ireturn, 1) := by decide +kernel
set_option maxRecDepth 20000 in
theorem ggX10_isGood_X10_within : GoodIn wsX10_isGood wsX10_within := goodIn_r _ [5] (by decide +kernel) (by decide +kernel)
set_option maxRecDepth 20000 in
theorem gX10_isGood_X10_within : GoodIn wsX10_isGood (va_wsS RX10 53 yX10_within wsX10_within) := goodIn_app (goodIn_of _ (by decide +kernel)) ggX10_isGood_X10_within
set_option maxRecDepth 20000 in
theorem ggX10_isGood_X10_kindBy : GoodIn wsX10_isGood wsX10_kindBy := goodIn_r _ [8] (by decide +kernel) (by decide +kernel)
set_option maxRecDepth 20000 in
theorem gX10_isGood_X10_kindBy : GoodIn wsX10_isGood (va_wsS RX10 61 yX10_kindBy wsX10_kindBy) := goodIn_app (goodIn_of _ (by decide +kernel)) ggX10_isGood_X10_kindBy
theorem dX10_isGood_0 : decode cX10_isGood 0 = .ok (.aload_n 0, 1) := by decide +kernel
theorem dX10_isGood_1 : decode cX10_isGood 1 = .ok (.getfield 34, 3) := by decide +kernel
theorem dX10_isGood_4 : decode cX10_isGood 4 = .ok (.iload_n 1, 1) := by decide +kernel
theorem dX10_isGood_5 : decode cX10_isGood 5 = .ok (.baload, 1) := by decide +kernel
theorem dX10_isGood_6 : decode cX10_isGood 6 = .ok (.bipush 48, 2) := by decide +kernel
theorem dX10_isGood_8 : decode cX10_isGood 8 = .ok (.isub, 1) := by decide +kernel
theorem dX10_isGood_9 : decode cX10_isGood 9 = .ok (.istore_n 2, 1) := by decide +kernel
theorem dX10_isGood_10 : decode cX10_isGood 10 = .ok (.iload_n 1, 1) := by decide +kernel
theorem dX10_isGood_11 : decode cX10_isGood 11 = .ok (.iconst 2, 1) := by decide +kernel
theorem dX10_isGood_12 : decode cX10_isGood 12 = .ok (.if_icmp .ge 11, 3) := by decide +kernel
theorem dX10_isGood_15 : decode cX10_isGood 15 = .ok (.iload_n 2, 1) := by decide +kernel
theorem dX10_isGood_16 : decode cX10_isGood 16 = .ok (.iconst 0, 1) := by decide +kernel
theorem dX10_isGood_17 : decode cX10_isGood 17 = .ok (.bipush 9, 2) := by decide +kernel
theorem dX10_isGood_19 : decode cX10_isGood 19 = .ok (.invokestatic 53, 3) := by decide +kernel
theorem dX10_isGood_22 : decode cX10_isGood 22 = .ok (.ireturn, 1) := by decide +kernel
theorem dX10_isGood_23 : decode cX10_isGood 23 = .ok (.iload_n 1, 1) := by decide +kernel
theorem dX10_isGood_24 : decode cX10_isGood 24 = .ok (.bipush 6, 2) := by decide +kernel
theorem dX10_isGood_26 : decode cX10_isGood 26 = .ok (.if_icmp .ge 11, 3) := by decide +kernel
theorem dX10_isGood_29 : decode cX10_isGood 29 = .ok (.iload_n 2, 1) := by decide +kernel
theorem dX10_isGood_30 : decode cX10_isGood 30 = .ok (.iconst 1, 1) := by decide +kernel
theorem dX10_isGood_31 : decode cX10_isGood 31 = .ok (.bipush 9, 2) := by decide +kernel
theorem dX10_isGood_33 : decode cX10_isGood 33 = .ok (.invokestatic 53, 3) := by decide +kernel
theorem dX10_isGood_36 : decode cX10_isGood 36 = .ok (.ireturn, 1) := by decide +kernel
theorem dX10_isGood_37 : decode cX10_isGood 37 = .ok (.iload_n 1, 1) := by decide +kernel
theorem dX10_isGood_38 : decode cX10_isGood 38 = .ok (.bipush 6, 2) := by decide +kernel
theorem dX10_isGood_40 : decode cX10_isGood 40 = .ok (.if_icmp .ne 22, 3) := by decide +kernel
theorem dX10_isGood_43 : decode cX10_isGood 43 = .ok (.aload_n 0, 1) := by decide +kernel
theorem dX10_isGood_44 : decode cX10_isGood 44 = .ok (.getfield 34, 3) := by decide +kernel
theorem dX10_isGood_47 : decode cX10_isGood 47 = .ok (.iload_n 1, 1) := by decide +kernel
theorem dX10_isGood_48 : decode cX10_isGood 48 = .ok (.baload, 1) := by decide +kernel
theorem dX10_isGood_49 : decode cX10_isGood 49 = .ok (.bipush 58, 2) := by decide +kernel
theorem dX10_isGood_51 : decode cX10_isGood 51 = .ok (.if_icmp .ne 7, 3) := by decide +kernel
theorem dX10_isGood_54 : decode cX10_isGood 54 = .ok (.iconst 1, 1) := by decide +kernel
theorem dX10_isGood_55 : decode cX10_isGood 55 = .ok (.goto 31, 3) := by decide +kernel
theorem dX10_isGood_58 : decode cX10_isGood 58 = .ok (.iconst 0, 1) := by decide +kernel
theorem dX10_isGood_59 : decode cX10_isGood 59 = .ok (.goto 27, 3) := by decide +kernel
theorem dX10_isGood_62 : decode cX10_isGood 62 = .ok (.iload_n 1, 1) := by decide +kernel
theorem dX10_isGood_63 : decode cX10_isGood 63 = .ok (.bipush 13, 2) := by decide +kernel
theorem dX10_isGood_65 : decode cX10_isGood 65 = .ok (.if_icmp .ge 20, 3) := by decide +kernel
theorem dX10_isGood_68 : decode cX10_isGood 68 = .ok (.aload_n 0, 1) := by decide +kernel
theorem dX10_isGood_69 : decode cX10_isGood 69 = .ok (.getfield 34, 3) := by decide +kernel
theorem dX10_isGood_72 : decode cX10_isGood 72 = .ok (.iload_n 1, 1) := by decide +kernel
theorem dX10_isGood_73 : decode cX10_isGood 73 = .ok (.baload, 1) := by decide +kernel
theorem dX10_isGood_74 : decode cX10_isGood 74 = .ok (.invokestatic 61, 3) := by decide +kernel
theorem dX10_isGood_77 : decode cX10_isGood 77 = .ok (.iconst (-1), 1) := by decide +kernel
theorem dX10_isGood_78 : decode cX10_isGood 78 = .ok (.if_icmp .eq 7, 3) := by decide +kernel
theorem dX10_isGood_81 : decode cX10_isGood 81 = .ok (.iconst 1, 1) := by decide +kernel
theorem dX10_isGood_82 : decode cX10_isGood 82 = .ok (.goto 4, 3) := by decide +kernel
theorem dX10_isGood_85 : decode cX10_isGood 85 = .ok (.iconst 0, 1) := by decide +kernel
theorem dX10_isGood_86 : decode cX10_isGood 86 = .ok (.ireturn, 1) := by decide +kernel
set_option maxRecDepth 20000 in
theorem ggX10_faultNow_X10_isGood : GoodIn wsX10_faultNow wsX10_isGood := goodIn_r _ [6, 7, 8, 9, 5, 10, 11, 12, 13, 14, 15, 16, 17, 18, 19, 20, 21, 22, 23, 24, 25, 26, 27, 28, 29, 30, 31, 32, 33, 34, 35, 36, 37, 38] (by decide +kernel) (by decide +kernel)
set_option maxRecDepth 20000 in
theorem gX10_faultNow_X10_isGood : GoodIn wsX10_faultNow (wsV RX10 65 RX10 yX10_isGood wsX10_isGood) := goodIn_app (goodIn_of _ (by decide +kernel)) ggX10_faultNow_X10_isGood
theorem dX10_faultNow_0 : decode cX10_faultNow 0 = .ok (.iconst 0, 1) := by decide +kernel
theorem dX10_faultNow_1 : decode cX10_faultNow 1 = .ok (.istore_n 1, 1) := by decide +kernel
theorem dX10_faultNow_2 : decode cX10_faultNow 2 = .ok (.iload_n 1, 1) := by decide +kernel
theorem dX10_faultNow_3 : decode cX10_faultNow 3 = .ok (.aload_n 0, 1) := by decide +kernel
theorem dX10_faultNow_4 : decode cX10_faultNow 4 = .ok (.getfield 57, 3) := by decide +kernel
theorem dX10_faultNow_7 : decode cX10_faultNow 7 = .ok (.if_icmp .ge 17, 3) := by decide +kernel
theorem dX10_faultNow_10 : decode cX10_faultNow 10 = .ok (.aload_n 0, 1) := by decide +kernel
theorem dX10_faultNow_11 : decode cX10_faultNow 11 = .ok (.iload_n 1, 1) := by decide +kernel
theorem dX10_faultNow_12 : decode cX10_faultNow 12 = .ok (.invokevirtual 65, 3) := by decide +kernel
theorem dX10_faultNow_15 : decode cX10_faultNow 15 = .ok (.ifCond .eq 9, 3) := by decide +kernel
theorem dX10_faultNow_18 : decode cX10_faultNow 18 = .ok (.iinc 1 1, 3) := by decide +kernel
theorem dX10_faultNow_21 : decode cX10_faultNow 21 = .ok (.goto (-19), 3) := by decide +kernel
theorem dX10_faultNow_24 : decode cX10_faultNow 24 = .ok (.iload_n 1, 1) := by decide +kernel
theorem dX10_faultNow_25 : decode cX10_faultNow 25 = .ok (.ireturn, 1) := by decide +kernel
set_option maxRecDepth 20000 in
theorem ggX10_fault_X10_faultNow : GoodIn wsX10_fault wsX10_faultNow := goodIn_r _ [5, 6, 7, 8, 9, 4, 10, 11, 12, 13, 14, 15, 16, 17, 18, 19, 20, 21, 22, 23, 24, 25, 26, 27, 28, 29, 30, 31, 32, 33, 34, 35, 36, 37, 38, 39, 40, 41, 42] (by decide +kernel) (by decide +kernel)
set_option maxRecDepth 20000 in
theorem gX10_fault_X10_faultNow : GoodIn wsX10_fault (wsV RX10 69 RX10 yX10_faultNow wsX10_faultNow) := goodIn_app (goodIn_of _ (by decide +kernel)) ggX10_fault_X10_faultNow
theorem dX10_fault_0 : decode cX10_fault 0 = .ok (.aload_n 0, 1) := by decide +kernel
theorem dX10_fault_1 : decode cX10_fault 1 = .ok (.invokevirtual 69, 3) := by decide +kernel
theorem dX10_fault_4 : decode cX10_fault 4 = .ok (.ireturn, 1) := by decide +kernel
set_option maxRecDepth 20000 in
theorem ggX10_school_X10_faultNow : GoodIn wsX10_school wsX10_faultNow := goodIn_r _ [19, 1, 20, 21, 22, 18, 23, 2, 24, 25, 26, 27, 28, 29, 30, 31, 32, 33, 34, 35, 36, 37, 38, 39, 40, 41, 42, 43, 44, 45, 46, 47, 48, 49, 50, 51, 52, 53, 54] (by decide +kernel) (by decide +kernel)
set_option maxRecDepth 20000 in
theorem gX10_school_X10_faultNow : GoodIn wsX10_school (wsV RX10 69 RX10 yX10_faultNow wsX10_faultNow) := goodIn_app (goodIn_of _ (by decide +kernel)) ggX10_school_X10_faultNow
set_option maxRecDepth 20000 in
theorem ggX10_school_X10_kindBy : GoodIn wsX10_school wsX10_kindBy := goodIn_r _ [29] (by decide +kernel) (by decide +kernel)
set_option maxRecDepth 20000 in
theorem gX10_school_X10_kindBy : GoodIn wsX10_school (va_wsS RX10 61 yX10_kindBy wsX10_kindBy) := goodIn_app (goodIn_of _ (by decide +kernel)) ggX10_school_X10_kindBy
theorem dX10_school_0 : decode cX10_school 0 = .ok (.aload_n 0, 1) := by decide +kernel
theorem dX10_school_1 : decode cX10_school 1 = .ok (.invokevirtual 69, 3) := by decide +kernel
theorem dX10_school_4 : decode cX10_school 4 = .ok (.aload_n 0, 1) := by decide +kernel
theorem dX10_school_5 : decode cX10_school 5 = .ok (.getfield 57, 3) := by decide +kernel
theorem dX10_school_8 : decode cX10_school 8 = .ok (.if_icmp .ne 12, 3) := by decide +kernel
theorem dX10_school_11 : decode cX10_school 11 = .ok (.aload_n 0, 1) := by decide +kernel
theorem dX10_school_12 : decode cX10_school 12 = .ok (.getfield 57, 3) := by decide +kernel
theorem dX10_school_15 : decode cX10_school 15 = .ok (.bipush 8, 2) := by decide +kernel
theorem dX10_school_17 : decode cX10_school 17 = .ok (.if_icmp .ge 6, 3) := by decide +kernel
theorem dX10_school_20 : decode cX10_school 20 = .ok (.bipush (-103), 2) := by decide +kernel
theorem dX10_school_22 : decode cX10_school 22 = .ok (.ireturn, 1) := by decide +kernel
theorem dX10_school_23 : decode cX10_school 23 = .ok (.aload_n 0, 1) := by decide +kernel
theorem dX10_school_24 : decode cX10_school 24 = .ok (.aload_n 0, 1) := by decide +kernel
theorem dX10_school_25 : decode cX10_school 25 = .ok (.getfield 34, 3) := by decide +kernel
theorem dX10_school_28 : decode cX10_school 28 = .ok (.iconst 0, 1) := by decide +kernel
theorem dX10_school_29 : decode cX10_school 29 = .ok (.baload, 1) := by decide +kernel
theorem dX10_school_30 : decode cX10_school 30 = .ok (.bipush 48, 2) := by decide +kernel
theorem dX10_school_32 : decode cX10_school 32 = .ok (.isub, 1) := by decide +kernel
theorem dX10_school_33 : decode cX10_school 33 = .ok (.putfield 73, 3) := by decide +kernel
theorem dX10_school_36 : decode cX10_school 36 = .ok (.aload_n 0, 1) := by decide +kernel
theorem dX10_school_37 : decode cX10_school 37 = .ok (.aload_n 0, 1) := by decide +kernel
theorem dX10_school_38 : decode cX10_school 38 = .ok (.getfield 34, 3) := by decide +kernel
theorem dX10_school_41 : decode cX10_school 41 = .ok (.iconst 1, 1) := by decide +kernel
theorem dX10_school_42 : decode cX10_school 42 = .ok (.baload, 1) := by decide +kernel
theorem dX10_school_43 : decode cX10_school 43 = .ok (.bipush 48, 2) := by decide +kernel
theorem dX10_school_45 : decode cX10_school 45 = .ok (.isub, 1) := by decide +kernel
theorem dX10_school_46 : decode cX10_school 46 = .ok (.putfield 76, 3) := by decide +kernel
theorem dX10_school_49 : decode cX10_school 49 = .ok (.iconst 0, 1) := by decide +kernel
theorem dX10_school_50 : decode cX10_school 50 = .ok (.istore_n 1, 1) := by decide +kernel
theorem dX10_school_51 : decode cX10_school 51 = .ok (.iload_n 1, 1) := by decide +kernel
theorem dX10_school_52 : decode cX10_school 52 = .ok (.iconst 4, 1) := by decide +kernel
theorem dX10_school_53 : decode cX10_school 53 = .ok (.if_icmp .ge 26, 3) := by decide +kernel
theorem dX10_school_56 : decode cX10_school 56 = .ok (.aload_n 0, 1) := by decide +kernel
theorem dX10_school_57 : decode cX10_school 57 = .ok (.getfield 7, 3) := by decide +kernel
theorem dX10_school_60 : decode cX10_school 60 = .ok (.iload_n 1, 1) := by decide +kernel
theorem dX10_school_61 : decode cX10_school 61 = .ok (.aload_n 0, 1) := by decide +kernel
theorem dX10_school_62 : decode cX10_school 62 = .ok (.getfield 34, 3) := by decide +kernel
theorem dX10_school_65 : decode cX10_school 65 = .ok (.iconst 2, 1) := by decide +kernel
theorem dX10_school_66 : decode cX10_school 66 = .ok (.iload_n 1, 1) := by decide +kernel
theorem dX10_school_67 : decode cX10_school 67 = .ok (.iadd, 1) := by decide +kernel
theorem dX10_school_68 : decode cX10_school 68 = .ok (.baload, 1) := by decide +kernel
theorem dX10_school_69 : decode cX10_school 69 = .ok (.bipush 48, 2) := by decide +kernel
theorem dX10_school_71 : decode cX10_school 71 = .ok (.isub, 1) := by decide +kernel
theorem dX10_school_72 : decode cX10_school 72 = .ok (.iastore, 1) := by decide +kernel
theorem dX10_school_73 : decode cX10_school 73 = .ok (.iinc 1 1, 3) := by decide +kernel
theorem dX10_school_76 : decode cX10_school 76 = .ok (.goto (-25), 3) := by decide +kernel
theorem dX10_school_79 : decode cX10_school 79 = .ok (.aload_n 0, 1) := by decide +kernel
theorem dX10_school_80 : decode cX10_school 80 = .ok (.aload_n 0, 1) := by decide +kernel
theorem dX10_school_81 : decode cX10_school 81 = .ok (.getfield 57, 3) := by decide +kernel
theorem dX10_school_84 : decode cX10_school 84 = .ok (.bipush 7, 2) := by decide +kernel
theorem dX10_school_86 : decode cX10_school 86 = .ok (.isub, 1) := by decide +kernel
theorem dX10_school_87 : decode cX10_school 87 = .ok (.putfield 79, 3) := by decide +kernel
theorem dX10_school_90 : decode cX10_school 90 = .ok (.iconst 0, 1) := by decide +kernel
theorem dX10_school_91 : decode cX10_school 91 = .ok (.istore_n 1, 1) := by decide +kernel
theorem dX10_school_92 : decode cX10_school 92 = .ok (.iload_n 1, 1) := by decide +kernel
theorem dX10_school_93 : decode cX10_school 93 = .ok (.aload_n 0, 1) := by decide +kernel
theorem dX10_school_94 : decode cX10_school 94 = .ok (.getfield 79, 3) := by decide +kernel
theorem dX10_school_97 : decode cX10_school 97 = .ok (.if_icmp .ge 55, 3) := by decide +kernel
theorem dX10_school_100 : decode cX10_school 100 = .ok (.aload_n 0, 1) := by decide +kernel
theorem dX10_school_101 : decode cX10_school 101 = .ok (.getfield 13, 3) := by decide +kernel
theorem dX10_school_104 : decode cX10_school 104 = .ok (.iload_n 1, 1) := by decide +kernel
theorem dX10_school_105 : decode cX10_school 105 = .ok (.aload_n 0, 1) := by decide +kernel
theorem dX10_school_106 : decode cX10_school 106 = .ok (.getfield 34, 3) := by decide +kernel
theorem dX10_school_109 : decode cX10_school 109 = .ok (.bipush 7, 2) := by decide +kernel
theorem dX10_school_111 : decode cX10_school 111 = .ok (.iload_n 1, 1) := by decide +kernel
theorem dX10_school_112 : decode cX10_school 112 = .ok (.iadd, 1) := by decide +kernel
theorem dX10_school_113 : decode cX10_school 113 = .ok (.baload, 1) := by decide +kernel
theorem dX10_school_114 : decode cX10_school 114 = .ok (.invokestatic 61, 3) := by decide +kernel
theorem dX10_school_117 : decode cX10_school 117 = .ok (.iastore, 1) := by decide +kernel
theorem dX10_school_118 : decode cX10_school 118 = .ok (.aload_n 0, 1) := by decide +kernel
theorem dX10_school_119 : decode cX10_school 119 = .ok (.getfield 16, 3) := by decide +kernel
theorem dX10_school_122 : decode cX10_school 122 = .ok (.iload_n 1, 1) := by decide +kernel
theorem dX10_school_123 : decode cX10_school 123 = .ok (.iload_n 1, 1) := by decide +kernel
theorem dX10_school_124 : decode cX10_school 124 = .ok (.iastore, 1) := by decide +kernel
theorem dX10_school_125 : decode cX10_school 125 = .ok (.aload_n 0, 1) := by decide +kernel
theorem dX10_school_126 : decode cX10_school 126 = .ok (.getfield 31, 3) := by decide +kernel
theorem dX10_school_129 : decode cX10_school 129 = .ok (.iload_n 1, 1) := by decide +kernel
theorem dX10_school_130 : decode cX10_school 130 = .ok (.iload_n 1, 1) := by decide +kernel
theorem dX10_school_131 : decode cX10_school 131 = .ok (.iastore, 1) := by decide +kernel
theorem dX10_school_132 : decode cX10_school 132 = .ok (.aload_n 0, 1) := by decide +kernel
theorem dX10_school_133 : decode cX10_school 133 = .ok (.getfield 19, 3) := by decide +kernel
theorem dX10_school_136 : decode cX10_school 136 = .ok (.iload_n 1, 1) := by decide +kernel
theorem dX10_school_137 : decode cX10_school 137 = .ok (.iconst 0, 1) := by decide +kernel
theorem dX10_school_138 : decode cX10_school 138 = .ok (.iastore, 1) := by decide +kernel
theorem dX10_school_139 : decode cX10_school 139 = .ok (.aload_n 0, 1) := by decide +kernel
theorem dX10_school_140 : decode cX10_school 140 = .ok (.getfield 22, 3) := by decide +kernel
theorem dX10_school_143 : decode cX10_school 143 = .ok (.iload_n 1, 1) := by decide +kernel
theorem dX10_school_144 : decode cX10_school 144 = .ok (.iconst (-1), 1) := by decide +kernel
theorem dX10_school_145 : decode cX10_school 145 = .ok (.iastore, 1) := by decide +kernel
theorem dX10_school_146 : decode cX10_school 146 = .ok (.iinc 1 1, 3) := by decide +kernel
theorem dX10_school_149 : decode cX10_school 149 = .ok (.goto (-57), 3) := by decide +kernel
theorem dX10_school_152 : decode cX10_school 152 = .ok (.iconst 0, 1) := by decide +kernel
theorem dX10_school_153 : decode cX10_school 153 = .ok (.istore_n 1, 1) := by decide +kernel
theorem dX10_school_154 : decode cX10_school 154 = .ok (.iload_n 1, 1) := by decide +kernel
theorem dX10_school_155 : decode cX10_school 155 = .ok (.bipush 24, 2) := by decide +kernel
theorem dX10_school_157 : decode cX10_school 157 = .ok (.if_icmp .ge 23, 3) := by decide +kernel
theorem dX10_school_160 : decode cX10_school 160 = .ok (.aload_n 0, 1) := by decide +kernel
theorem dX10_school_161 : decode cX10_school 161 = .ok (.getfield 25, 3) := by decide +kernel
theorem dX10_school_164 : decode cX10_school 164 = .ok (.iload_n 1, 1) := by decide +kernel
theorem dX10_school_165 : decode cX10_school 165 = .ok (.iconst 0, 1) := by decide +kernel
theorem dX10_school_166 : decode cX10_school 166 = .ok (.iastore, 1) := by decide +kernel
theorem dX10_school_167 : decode cX10_school 167 = .ok (.aload_n 0, 1) := by decide +kernel
theorem dX10_school_168 : decode cX10_school 168 = .ok (.getfield 28, 3) := by decide +kernel
theorem dX10_school_171 : decode cX10_school 171 = .ok (.iload_n 1, 1) := by decide +kernel
theorem dX10_school_172 : decode cX10_school 172 = .ok (.iconst 0, 1) := by decide +kernel
theorem dX10_school_173 : decode cX10_school 173 = .ok (.iastore, 1) := by decide +kernel
theorem dX10_school_174 : decode cX10_school 174 = .ok (.iinc 1 1, 3) := by decide +kernel
theorem dX10_school_177 : decode cX10_school 177 = .ok (.goto (-23), 3) := by decide +kernel
theorem dX10_school_180 : decode cX10_school 180 = .ok (.aload_n 0, 1) := by decide +kernel
theorem dX10_school_181 : decode cX10_school 181 = .ok (.dup, 1) := by decide +kernel
theorem dX10_school_182 : decode cX10_school 182 = .ok (.getfield 82, 3) := by decide +kernel
theorem dX10_school_185 : decode cX10_school 185 = .ok (.iconst 1, 1) := by decide +kernel
theorem dX10_school_186 : decode cX10_school 186 = .ok (.iadd, 1) := by decide +kernel
theorem dX10_school_187 : decode cX10_school 187 = .ok (.putfield 82, 3) := by decide +kernel
theorem dX10_school_190 : decode cX10_school 190 = .ok (.aload_n 0, 1) := by decide +kernel
theorem dX10_school_191 : decode cX10_school 191 = .ok (.iconst 0, 1) := by decide +kernel
theorem dX10_school_192 : decode cX10_school 192 = .ok (.putfield 57, 3) := by decide +kernel
theorem dX10_school_195 : decode cX10_school 195 = .ok (.aload_n 0, 1) := by decide +kernel
theorem dX10_school_196 : decode cX10_school 196 = .ok (.getfield 79, 3) := by decide +kernel
theorem dX10_school_199 : decode cX10_school 199 = .ok (.ireturn, 1) := by decide +kernel
set_option maxRecDepth 20000 in
theorem ggX10_isChild_X10_within : GoodIn wsX10_isChild wsX10_within := goodIn_r _ [5] (by decide +kernel) (by decide +kernel)
set_option maxRecDepth 20000 in
theorem gX10_isChild_X10_within : GoodIn wsX10_isChild (va_wsS RX10 53 yX10_within wsX10_within) := goodIn_app (goodIn_of _ (by decide +kernel)) ggX10_isChild_X10_within
theorem dX10_isChild_0 : decode cX10_isChild 0 = .ok (.iload_n 1, 1) := by decide +kernel
theorem dX10_isChild_1 : decode cX10_isChild 1 = .ok (.iconst 0, 1) := by decide +kernel
theorem dX10_isChild_2 : decode cX10_isChild 2 = .ok (.aload_n 0, 1) := by decide +kernel
theorem dX10_isChild_3 : decode cX10_isChild 3 = .ok (.getfield 79, 3) := by decide +kernel
theorem dX10_isChild_6 : decode cX10_isChild 6 = .ok (.iconst 1, 1) := by decide +kernel
theorem dX10_isChild_7 : decode cX10_isChild 7 = .ok (.isub, 1) := by decide +kernel
theorem dX10_isChild_8 : decode cX10_isChild 8 = .ok (.invokestatic 53, 3) := by decide +kernel
theorem dX10_isChild_11 : decode cX10_isChild 11 = .ok (.ireturn, 1) := by decide +kernel
set_option maxRecDepth 20000 in
theorem ggX10_isSubject_X10_within : GoodIn wsX10_isSubject wsX10_within := goodIn_r _ [4] (by decide +kernel) (by decide +kernel)
set_option maxRecDepth 20000 in
theorem gX10_isSubject_X10_within : GoodIn wsX10_isSubject (va_wsS RX10 53 yX10_within wsX10_within) := goodIn_app (goodIn_of _ (by decide +kernel)) ggX10_isSubject_X10_within
theorem dX10_isSubject_0 : decode cX10_isSubject 0 = .ok (.iload_n 0, 1) := by decide +kernel
theorem dX10_isSubject_1 : decode cX10_isSubject 1 = .ok (.iconst 0, 1) := by decide +kernel
theorem dX10_isSubject_2 : decode cX10_isSubject 2 = .ok (.iconst 3, 1) := by decide +kernel
theorem dX10_isSubject_3 : decode cX10_isSubject 3 = .ok (.invokestatic 53, 3) := by decide +kernel
theorem dX10_isSubject_6 : decode cX10_isSubject 6 = .ok (.ireturn, 1) := by decide +kernel
theorem dX10_partsBy_0 : decode cX10_partsBy 0 = .ok (.iconst 0, 1) := by decide +kernel
theorem dX10_partsBy_1 : decode cX10_partsBy 1 = .ok (.istore_n 2, 1) := by decide +kernel
theorem dX10_partsBy_2 : decode cX10_partsBy 2 = .ok (.iconst 0, 1) := by decide +kernel
theorem dX10_partsBy_3 : decode cX10_partsBy 3 = .ok (.istore_n 3, 1) := by decide +kernel
theorem dX10_partsBy_4 : decode cX10_partsBy 4 = .ok (.iload_n 3, 1) := by decide +kernel
theorem dX10_partsBy_5 : decode cX10_partsBy 5 = .ok (.iconst 4, 1) := by decide +kernel
theorem dX10_partsBy_6 : decode cX10_partsBy 6 = .ok (.if_icmp .ge 22, 3) := by decide +kernel
theorem dX10_partsBy_9 : decode cX10_partsBy 9 = .ok (.iload_n 2, 1) := by decide +kernel
theorem dX10_partsBy_10 : decode cX10_partsBy 10 = .ok (.aload_n 0, 1) := by decide +kernel
theorem dX10_partsBy_11 : decode cX10_partsBy 11 = .ok (.getfield 25, 3) := by decide +kernel
theorem dX10_partsBy_14 : decode cX10_partsBy 14 = .ok (.iconst 4, 1) := by decide +kernel
theorem dX10_partsBy_15 : decode cX10_partsBy 15 = .ok (.iload_n 1, 1) := by decide +kernel
theorem dX10_partsBy_16 : decode cX10_partsBy 16 = .ok (.imul, 1) := by decide +kernel
theorem dX10_partsBy_17 : decode cX10_partsBy 17 = .ok (.iload_n 3, 1) := by decide +kernel
theorem dX10_partsBy_18 : decode cX10_partsBy 18 = .ok (.iadd, 1) := by decide +kernel
theorem dX10_partsBy_19 : decode cX10_partsBy 19 = .ok (.iaload, 1) := by decide +kernel
theorem dX10_partsBy_20 : decode cX10_partsBy 20 = .ok (.iadd, 1) := by decide +kernel
theorem dX10_partsBy_21 : decode cX10_partsBy 21 = .ok (.istore_n 2, 1) := by decide +kernel
theorem dX10_partsBy_22 : decode cX10_partsBy 22 = .ok (.iinc 3 1, 3) := by decide +kernel
theorem dX10_partsBy_25 : decode cX10_partsBy 25 = .ok (.goto (-21), 3) := by decide +kernel
theorem dX10_partsBy_28 : decode cX10_partsBy 28 = .ok (.iload_n 2, 1) := by decide +kernel
theorem dX10_partsBy_29 : decode cX10_partsBy 29 = .ok (.ireturn, 1) := by decide +kernel
set_option maxRecDepth 20000 in
theorem ggX10_childNow_X10_partsBy : GoodIn wsX10_childNow wsX10_partsBy := goodIn_r _ [9, 10, 11, 12, 13, 14, 15, 16, 17, 18, 19, 20, 21, 22, 23, 24, 25, 26, 27, 28, 29, 30, 31, 32, 33, 34, 35] (by decide +kernel) (by decide +kernel)
set_option maxRecDepth 20000 in
theorem gX10_childNow_X10_partsBy : GoodIn wsX10_childNow (wsV RX10 85 RX10 yX10_partsBy wsX10_partsBy) := goodIn_app (goodIn_of _ (by decide +kernel)) ggX10_childNow_X10_partsBy
theorem dX10_childNow_0 : decode cX10_childNow 0 = .ok (.iload_n 2, 1) := by decide +kernel
theorem dX10_childNow_1 : decode cX10_childNow 1 = .ok (.tableswitch 58 0 3 #[31, 38, 45, 52], 31) := by decide +kernel
theorem dX10_childNow_32 : decode cX10_childNow 32 = .ok (.aload_n 0, 1) := by decide +kernel
theorem dX10_childNow_33 : decode cX10_childNow 33 = .ok (.getfield 13, 3) := by decide +kernel
theorem dX10_childNow_36 : decode cX10_childNow 36 = .ok (.iload_n 1, 1) := by decide +kernel
theorem dX10_childNow_37 : decode cX10_childNow 37 = .ok (.iaload, 1) := by decide +kernel
theorem dX10_childNow_38 : decode cX10_childNow 38 = .ok (.ireturn, 1) := by decide +kernel
theorem dX10_childNow_39 : decode cX10_childNow 39 = .ok (.aload_n 0, 1) := by decide +kernel
theorem dX10_childNow_40 : decode cX10_childNow 40 = .ok (.getfield 16, 3) := by decide +kernel
theorem dX10_childNow_43 : decode cX10_childNow 43 = .ok (.iload_n 1, 1) := by decide +kernel
theorem dX10_childNow_44 : decode cX10_childNow 44 = .ok (.iaload, 1) := by decide +kernel
theorem dX10_childNow_45 : decode cX10_childNow 45 = .ok (.ireturn, 1) := by decide +kernel
theorem dX10_childNow_46 : decode cX10_childNow 46 = .ok (.aload_n 0, 1) := by decide +kernel
theorem dX10_childNow_47 : decode cX10_childNow 47 = .ok (.getfield 19, 3) := by decide +kernel
theorem dX10_childNow_50 : decode cX10_childNow 50 = .ok (.iload_n 1, 1) := by decide +kernel
theorem dX10_childNow_51 : decode cX10_childNow 51 = .ok (.iaload, 1) := by decide +kernel
theorem dX10_childNow_52 : decode cX10_childNow 52 = .ok (.ireturn, 1) := by decide +kernel
theorem dX10_childNow_53 : decode cX10_childNow 53 = .ok (.aload_n 0, 1) := by decide +kernel
theorem dX10_childNow_54 : decode cX10_childNow 54 = .ok (.iload_n 1, 1) := by decide +kernel
theorem dX10_childNow_55 : decode cX10_childNow 55 = .ok (.invokevirtual 85, 3) := by decide +kernel
theorem dX10_childNow_58 : decode cX10_childNow 58 = .ok (.ireturn, 1) := by decide +kernel
