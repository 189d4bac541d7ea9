set_option maxRecDepth 20000 in
theorem ggX9_count_X4_partsOfAll : GoodIn wsX9_count wsX4_partsOfAll := goodIn_r _ [38, 39, 40, 41, 42, 14, 43, 16, 78, 79, 80, 81, 82, 83, 77] (by decide +kernel) (by decide +kernel)
set_option maxRecDepth 20000 in
theorem gX9_count_X4_partsOfAll : GoodIn wsX9_count (wsV RX9 188 RX4 yX4_partsOfAll wsX4_partsOfAll) := goodIn_app (goodIn_of _ (by decide +kernel)) ggX9_count_X4_partsOfAll
set_option maxRecDepth 20000 in
theorem ggX9_count_X4_mistakesOfAll : GoodIn wsX9_count wsX4_mistakesOfAll := goodIn_r _ [47, 48, 49, 50, 51, 14, 52, 16, 53, 29, 30, 31, 32, 33, 34, 78, 79, 80, 81, 82, 83, 77] (by decide +kernel) (by decide +kernel)
set_option maxRecDepth 20000 in
theorem gX9_count_X4_mistakesOfAll : GoodIn wsX9_count (wsV RX9 191 RX4 yX4_mistakesOfAll wsX4_mistakesOfAll) := goodIn_app (goodIn_of _ (by decide +kernel)) ggX9_count_X4_mistakesOfAll
set_option maxRecDepth 20000 in
theorem ggX9_count_X3_length : GoodIn wsX9_count wsX3_length := goodIn_r _ [58, 59, 84, 85] (by decide +kernel) (by decide +kernel)
set_option maxRecDepth 20000 in
theorem gX9_count_X3_length : GoodIn wsX9_count (wsV RX9 41 RX3 yX3_length wsX3_length) := goodIn_app (goodIn_of _ (by decide +kernel)) ggX9_count_X3_length
theorem dX9_count_0 : decode cX9_count 0 = .ok (.iload_n 1, 1) := by decide +kernel
theorem dX9_count_1 : decode cX9_count 1 = .ok (.ifCond .lt 18, 3) := by decide +kernel
theorem dX9_count_4 : decode cX9_count 4 = .ok (.iload_n 1, 1) := by decide +kernel
theorem dX9_count_5 : decode cX9_count 5 = .ok (.bipush 6, 2) := by decide +kernel
theorem dX9_count_7 : decode cX9_count 7 = .ok (.if_icmp .ge 12, 3) := by decide +kernel
theorem dX9_count_10 : decode cX9_count 10 = .ok (.aload_n 0, 1) := by decide +kernel
theorem dX9_count_11 : decode cX9_count 11 = .ok (.getfield 19, 3) := by decide +kernel
theorem dX9_count_14 : decode cX9_count 14 = .ok (.iload_n 1, 1) := by decide +kernel
theorem dX9_count_15 : decode cX9_count 15 = .ok (.invokevirtual 194, 3) := by decide +kernel
theorem dX9_count_18 : decode cX9_count 18 = .ok (.ireturn, 1) := by decide +kernel
theorem dX9_count_19 : decode cX9_count 19 = .ok (.iload_n 1, 1) := by decide +kernel
theorem dX9_count_20 : decode cX9_count 20 = .ok (.tableswitch 85 6 11 #[40, 48, 56, 64, 72, 80], 40) := by decide +kernel
theorem dX9_count_60 : decode cX9_count 60 = .ok (.aload_n 0, 1) := by decide +kernel
theorem dX9_count_61 : decode cX9_count 61 = .ok (.getfield 19, 3) := by decide +kernel
theorem dX9_count_64 : decode cX9_count 64 = .ok (.invokevirtual 77, 3) := by decide +kernel
theorem dX9_count_67 : decode cX9_count 67 = .ok (.ireturn, 1) := by decide +kernel
theorem dX9_count_68 : decode cX9_count 68 = .ok (.aload_n 0, 1) := by decide +kernel
theorem dX9_count_69 : decode cX9_count 69 = .ok (.getfield 28, 3) := by decide +kernel
theorem dX9_count_72 : decode cX9_count 72 = .ok (.invokevirtual 197, 3) := by decide +kernel
theorem dX9_count_75 : decode cX9_count 75 = .ok (.ireturn, 1) := by decide +kernel
theorem dX9_count_76 : decode cX9_count 76 = .ok (.aload_n 0, 1) := by decide +kernel
theorem dX9_count_77 : decode cX9_count 77 = .ok (.getfield 28, 3) := by decide +kernel
theorem dX9_count_80 : decode cX9_count 80 = .ok (.invokevirtual 188, 3) := by decide +kernel
theorem dX9_count_83 : decode cX9_count 83 = .ok (.ireturn, 1) := by decide +kernel
theorem dX9_count_84 : decode cX9_count 84 = .ok (.aload_n 0, 1) := by decide +kernel
theorem dX9_count_85 : decode cX9_count 85 = .ok (.getfield 28, 3) := by decide +kernel
theorem dX9_count_88 : decode cX9_count 88 = .ok (.invokevirtual 191, 3) := by decide +kernel
theorem dX9_count_91 : decode cX9_count 91 = .ok (.ireturn, 1) := by decide +kernel
theorem dX9_count_92 : decode cX9_count 92 = .ok (.aload_n 0, 1) := by decide +kernel
theorem dX9_count_93 : decode cX9_count 93 = .ok (.getfield 12, 3) := by decide +kernel
theorem dX9_count_96 : decode cX9_count 96 = .ok (.invokevirtual 41, 3) := by decide +kernel
theorem dX9_count_99 : decode cX9_count 99 = .ok (.ireturn, 1) := by decide +kernel
theorem dX9_count_100 : decode cX9_count 100 = .ok (.aload_n 0, 1) := by decide +kernel
theorem dX9_count_101 : decode cX9_count 101 = .ok (.getfield 73, 3) := by decide +kernel
theorem dX9_count_104 : decode cX9_count 104 = .ok (.ireturn, 1) := by decide +kernel
theorem dX9_count_105 : decode cX9_count 105 = .ok (.bipush (-102), 2) := by decide +kernel
theorem dX9_count_107 : decode cX9_count 107 = .ok (.ireturn, 1) := by decide +kernel
set_option maxRecDepth 20000 in
theorem ggX9_digest_X5_size : GoodIn wsX9_digest wsX5_size := goodIn_r _ [8, 9, 326, 327, 328, 329, 330, 331, 332, 333] (by decide +kernel) (by decide +kernel)
set_option maxRecDepth 20000 in
theorem gX9_digest_X5_size : GoodIn wsX9_digest (wsV RX9 77 RX5 yX5_size wsX5_size) := goodIn_app (goodIn_of _ (by decide +kernel)) ggX9_digest_X5_size
set_option maxRecDepth 20000 in
theorem ggX9_digest_X9_withChild : GoodIn wsX9_digest wsX9_withChild := goodIn_r _ [14, 15, 16, 17, 13, 18, 2, 19, 20, 21, 22, 23, 4, 5, 6, 7, 8, 9, 24, 25, 26, 27, 28, 29, 30, 31, 32, 33, 34, 35, 36, 37, 38, 39, 40, 41, 42, 43, 44, 45, 46, 47, 48, 49, 50, 51, 52, 53, 54, 55, 56, 57, 58, 59, 60, 61, 62, 63, 64, 65, 66, 67, 68, 69, 70, 71, 72, 73, 74, 75, 76, 77, 78, 79, 80, 81, 82, 83, 84, 85, 86, 87, 88, 89, 90, 91, 92, 93, 94, 95, 96, 97, 98, 99, 100, 101, 102, 103, 104, 105, 106, 107, 108, 109, 110, 317, 318, 319, 320, 321, 322, 323, 324, 325, 326, 327, 328, 329, 330, 331, 332, 333, 334, 335, 336, 337, 338, 339, 340] (by decide +kernel) (by decide +kernel)
set_option maxRecDepth 20000 in
theorem gX9_digest_X9_withChild : GoodIn wsX9_digest (wsV RX9 202 RX9 yX9_withChild wsX9_withChild) := goodIn_app (goodIn_of _ (by decide +kernel)) ggX9_digest_X9_withChild
set_option maxRecDepth 20000 in
theorem ggX9_digest_X9_hasSchool : GoodIn wsX9_digest wsX9_hasSchool := goodIn_r _ [114, 2, 4, 5, 6, 7, 8, 9, 317, 318, 319, 320, 321, 322, 323, 324, 325, 326, 327, 328, 329, 330, 331, 332, 333] (by decide +kernel) (by decide +kernel)
set_option maxRecDepth 20000 in
theorem gX9_digest_X9_hasSchool : GoodIn wsX9_digest (wsV RX9 132 RX9 yX9_hasSchool wsX9_hasSchool) := goodIn_app (goodIn_of _ (by decide +kernel)) ggX9_digest_X9_hasSchool
set_option maxRecDepth 20000 in
theorem ggX9_digest_X9_order : GoodIn wsX9_digest wsX9_order := goodIn_r _ [118, 119, 79, 80, 13, 81, 111, 112, 113, 114, 2, 4, 5, 6, 7, 8, 9, 120, 121, 122, 123, 124, 125, 126, 127, 128, 38, 129, 41, 59, 87, 67, 48, 130, 131, 132, 32, 133, 34, 134, 135, 136, 137, 138, 139, 140, 141, 40, 42, 142, 143, 144, 145, 60, 61, 62, 146, 147, 148, 149, 43, 30, 31, 33, 150, 45, 46, 47, 49, 50, 151, 152, 153, 154, 28, 155, 156, 157, 158, 159, 29, 160, 161, 162, 163, 164, 165, 166, 167, 168, 169, 170, 171, 172, 173, 174, 175, 176, 177, 178, 179, 180, 181, 182, 183, 184, 185, 186, 187, 188, 189, 190, 191, 192, 193, 194, 195, 196, 197, 198, 199, 200, 201, 202, 203, 204, 205, 206, 207, 208, 209, 210, 211, 212, 213, 214, 215, 216, 217, 218, 219, 220, 221, 222, 55, 56, 57, 58, 100, 84, 85, 86, 101, 102, 103, 104, 105, 106, 107, 108, 109, 110, 223, 224, 225, 226, 227, 228, 229, 230, 231, 232, 233, 234, 235, 236, 237, 238, 239, 20, 21, 22, 23, 92, 93, 94, 95, 240, 241, 242, 243, 244, 317, 318, 319, 320, 321, 322, 323, 324, 325, 326, 327, 328, 329, 330, 331, 332, 333, 335, 336, 337, 338, 339, 340, 334] (by decide +kernel) (by decide +kernel)
set_option maxRecDepth 20000 in
theorem gX9_digest_X9_order : GoodIn wsX9_digest (wsV RX9 206 RX9 yX9_order wsX9_order) := goodIn_app (goodIn_of _ (by decide +kernel)) ggX9_digest_X9_order
set_option maxRecDepth 20000 in
theorem ggX9_digest_X9_with : GoodIn wsX9_digest wsX9_with := goodIn_r _ [70, 71] (by decide +kernel) (by decide +kernel)
set_option maxRecDepth 20000 in
theorem gX9_digest_X9_with : GoodIn wsX9_digest (va_wsS RX9 209 yX9_with wsX9_with) := goodIn_app (goodIn_of _ (by decide +kernel)) ggX9_digest_X9_with
set_option maxRecDepth 20000 in
theorem ggX9_digest_X9_songs : GoodIn wsX9_digest wsX9_songs := goodIn_r _ [248, 79, 80, 13, 81, 111, 112, 113, 114, 2, 4, 5, 6, 7, 8, 9, 249, 250, 251, 252, 253, 254, 255, 256, 125, 19, 223, 224, 225, 38, 226, 41, 59, 87, 67, 48, 227, 228, 229, 32, 230, 34, 231, 30, 31, 33, 257, 49, 50, 258, 147, 148, 149, 40, 42, 43, 150, 45, 46, 47, 151, 152, 153, 154, 28, 155, 156, 157, 158, 159, 29, 60, 61, 62, 130, 131, 132, 133, 160, 161, 162, 163, 164, 165, 166, 167, 168, 169, 170, 171, 172, 173, 174, 175, 176, 177, 178, 179, 180, 181, 182, 183, 184, 185, 186, 187, 188, 189, 190, 191, 192, 193, 194, 195, 196, 197, 198, 199, 200, 201, 202, 203, 204, 205, 206, 207, 208, 209, 210, 259, 260, 261, 262, 263, 264, 265, 266, 267, 268, 269, 270, 271, 272, 273, 274, 317, 318, 319, 320, 321, 322, 323, 324, 325, 326, 327, 328, 329, 330, 331, 332, 333, 335, 336, 337, 338, 339, 340, 334] (by decide +kernel) (by decide +kernel)
set_option maxRecDepth 20000 in
theorem gX9_digest_X9_songs : GoodIn wsX9_digest (wsV RX9 213 RX9 yX9_songs wsX9_songs) := goodIn_app (goodIn_of _ (by decide +kernel)) ggX9_digest_X9_songs
set_option maxRecDepth 20000 in
theorem ggX9_digest_X9_sick : GoodIn wsX9_digest wsX9_sick := goodIn_r _ [278, 2, 125, 19, 79, 80, 13, 81, 111, 112, 113, 114, 4, 5, 6, 7, 8, 9, 223, 224, 225, 38, 226, 41, 59, 87, 67, 48, 227, 228, 229, 32, 230, 34, 231, 30, 31, 33, 279, 280, 281, 282, 138, 139, 140, 141, 40, 42, 142, 143, 144, 145, 60, 61, 62, 130, 131, 132, 133, 146, 147, 148, 149, 43, 150, 45, 46, 47, 49, 50, 151, 152, 153, 154, 28, 155, 156, 157, 158, 159, 29, 160, 161, 162, 163, 164, 165, 166, 167, 168, 169, 170, 171, 172, 173, 174, 175, 176, 177, 178, 179, 180, 181, 182, 183, 184, 185, 186, 187, 188, 189, 190, 191, 192, 193, 194, 195, 196, 197, 198, 199, 200, 201, 202, 203, 204, 205, 206, 207, 208, 209, 210, 283, 284, 285, 286, 55, 56, 57, 58, 317, 318, 319, 320, 321, 322, 323, 324, 325, 326, 327, 328, 329, 330, 331, 332, 333, 335, 336, 337, 338, 339, 340, 334] (by decide +kernel) (by decide +kernel)
set_option maxRecDepth 20000 in
theorem gX9_digest_X9_sick : GoodIn wsX9_digest (wsV RX9 216 RX9 yX9_sick wsX9_sick) := goodIn_app (goodIn_of _ (by decide +kernel)) ggX9_digest_X9_sick
set_option maxRecDepth 20000 in
theorem ggX9_digest_X3_length : GoodIn wsX9_digest wsX3_length := goodIn_r _ [291, 292, 341, 342] (by decide +kernel) (by decide +kernel)
set_option maxRecDepth 20000 in
theorem gX9_digest_X3_length : GoodIn wsX9_digest (wsV RX9 41 RX3 yX3_length wsX3_length) := goodIn_app (goodIn_of _ (by decide +kernel)) ggX9_digest_X3_length
set_option maxRecDepth 20000 in
theorem ggX9_digest_X3_letterAt : GoodIn wsX9_digest wsX3_letterAt := goodIn_r _ [296, 297, 298, 30, 31, 32, 33, 34, 341, 342, 334] (by decide +kernel) (by decide +kernel)
set_option maxRecDepth 20000 in
theorem gX9_digest_X3_letterAt : GoodIn wsX9_digest (wsV RX9 219 RX3 yX3_letterAt wsX3_letterAt) := goodIn_app (goodIn_of _ (by decide +kernel)) ggX9_digest_X3_letterAt
set_option maxRecDepth 20000 in
theorem ggX9_digest_X9_count : GoodIn wsX9_digest wsX9_count := goodIn_r _ [302, 2, 19, 3, 303, 271, 272, 273, 7, 274, 179, 29, 30, 31, 32, 33, 34, 4, 5, 6, 8, 9, 304, 305, 306, 38, 307, 48, 104, 105, 106, 107, 108, 109, 110, 259, 260, 261, 262, 59, 263, 264, 265, 266, 308, 309, 310, 311, 87, 312, 313, 314, 315, 316, 287, 288, 289, 290, 291, 292, 317, 318, 319, 320, 321, 322, 323, 324, 325, 326, 327, 328, 329, 330, 331, 332, 333, 334, 335, 336, 337, 338, 339, 340, 341, 342] (by decide +kernel) (by decide +kernel)
set_option maxRecDepth 20000 in
theorem gX9_digest_X9_count : GoodIn wsX9_digest (wsV RX9 222 RX9 yX9_count wsX9_count) := goodIn_app (goodIn_of _ (by decide +kernel)) ggX9_digest_X9_count
theorem dX9_digest_0 : decode cX9_digest 0 = .ok (.ldc2_w 200, 3) := by decide +kernel
theorem dX9_digest_3 : decode cX9_digest 3 = .ok (.lstore_n 1, 1) := by decide +kernel
theorem dX9_digest_4 : decode cX9_digest 4 = .ok (.iconst 0, 1) := by decide +kernel
theorem dX9_digest_5 : decode cX9_digest 5 = .ok (.istore_n 3, 1) := by decide +kernel
theorem dX9_digest_6 : decode cX9_digest 6 = .ok (.iload_n 3, 1) := by decide +kernel
theorem dX9_digest_7 : decode cX9_digest 7 = .ok (.aload_n 0, 1) := by decide +kernel
theorem dX9_digest_8 : decode cX9_digest 8 = .ok (.getfield 19, 3) := by decide +kernel
theorem dX9_digest_11 : decode cX9_digest 11 = .ok (.invokevirtual 77, 3) := by decide +kernel
theorem dX9_digest_14 : decode cX9_digest 14 = .ok (.if_icmp .ge 16, 3) := by decide +kernel
theorem dX9_digest_17 : decode cX9_digest 17 = .ok (.aload_n 0, 1) := by decide +kernel
theorem dX9_digest_18 : decode cX9_digest 18 = .ok (.lload_n 1, 1) := by decide +kernel
theorem dX9_digest_19 : decode cX9_digest 19 = .ok (.iload_n 3, 1) := by decide +kernel
theorem dX9_digest_20 : decode cX9_digest 20 = .ok (.invokevirtual 202, 3) := by decide +kernel
theorem dX9_digest_23 : decode cX9_digest 23 = .ok (.lstore_n 1, 1) := by decide +kernel
theorem dX9_digest_24 : decode cX9_digest 24 = .ok (.iinc 3 1, 3) := by decide +kernel
theorem dX9_digest_27 : decode cX9_digest 27 = .ok (.goto (-21), 3) := by decide +kernel
theorem dX9_digest_30 : decode cX9_digest 30 = .ok (.aload_n 0, 1) := by decide +kernel
theorem dX9_digest_31 : decode cX9_digest 31 = .ok (.invokevirtual 132, 3) := by decide +kernel
theorem dX9_digest_34 : decode cX9_digest 34 = .ok (.ifCond .eq 95, 3) := by decide +kernel
theorem dX9_digest_37 : decode cX9_digest 37 = .ok (.lload_n 1, 1) := by decide +kernel
theorem dX9_digest_38 : decode cX9_digest 38 = .ok (.aload_n 0, 1) := by decide +kernel
theorem dX9_digest_39 : decode cX9_digest 39 = .ok (.iconst 0, 1) := by decide +kernel
theorem dX9_digest_40 : decode cX9_digest 40 = .ok (.invokevirtual 206, 3) := by decide +kernel
theorem dX9_digest_43 : decode cX9_digest 43 = .ok (.i2l, 1) := by decide +kernel
theorem dX9_digest_44 : decode cX9_digest 44 = .ok (.invokestatic 209, 3) := by decide +kernel
theorem dX9_digest_47 : decode cX9_digest 47 = .ok (.aload_n 0, 1) := by decide +kernel
theorem dX9_digest_48 : decode cX9_digest 48 = .ok (.iconst 1, 1) := by decide +kernel
theorem dX9_digest_49 : decode cX9_digest 49 = .ok (.invokevirtual 206, 3) := by decide +kernel
theorem dX9_digest_52 : decode cX9_digest 52 = .ok (.i2l, 1) := by decide +kernel
theorem dX9_digest_53 : decode cX9_digest 53 = .ok (.invokestatic 209, 3) := by decide +kernel
theorem dX9_digest_56 : decode cX9_digest 56 = .ok (.lstore_n 1, 1) := by decide +kernel
theorem dX9_digest_57 : decode cX9_digest 57 = .ok (.iconst 0, 1) := by decide +kernel
theorem dX9_digest_58 : decode cX9_digest 58 = .ok (.istore_n 3, 1) := by decide +kernel
theorem dX9_digest_59 : decode cX9_digest 59 = .ok (.iload_n 3, 1) := by decide +kernel
theorem dX9_digest_60 : decode cX9_digest 60 = .ok (.bipush 6, 2) := by decide +kernel
theorem dX9_digest_62 : decode cX9_digest 62 = .ok (.if_icmp .ge 23, 3) := by decide +kernel
theorem dX9_digest_65 : decode cX9_digest 65 = .ok (.lload_n 1, 1) := by decide +kernel
theorem dX9_digest_66 : decode cX9_digest 66 = .ok (.aload_n 0, 1) := by decide +kernel
theorem dX9_digest_67 : decode cX9_digest 67 = .ok (.bipush 10, 2) := by decide +kernel
theorem dX9_digest_69 : decode cX9_digest 69 = .ok (.iload_n 3, 1) := by decide +kernel
theorem dX9_digest_70 : decode cX9_digest 70 = .ok (.iadd, 1) := by decide +kernel
theorem dX9_digest_71 : decode cX9_digest 71 = .ok (.invokevirtual 206, 3) := by decide +kernel
theorem dX9_digest_74 : decode cX9_digest 74 = .ok (.i2l, 1) := by decide +kernel
theorem dX9_digest_75 : decode cX9_digest 75 = .ok (.invokestatic 209, 3) := by decide +kernel
theorem dX9_digest_78 : decode cX9_digest 78 = .ok (.lstore_n 1, 1) := by decide +kernel
theorem dX9_digest_79 : decode cX9_digest 79 = .ok (.iinc 3 1, 3) := by decide +kernel
theorem dX9_digest_82 : decode cX9_digest 82 = .ok (.goto (-23), 3) := by decide +kernel
theorem dX9_digest_85 : decode cX9_digest 85 = .ok (.lload_n 1, 1) := by decide +kernel
theorem dX9_digest_86 : decode cX9_digest 86 = .ok (.aload_n 0, 1) := by decide +kernel
theorem dX9_digest_87 : decode cX9_digest 87 = .ok (.bipush 10, 2) := by decide +kernel
theorem dX9_digest_89 : decode cX9_digest 89 = .ok (.iconst 0, 1) := by decide +kernel
theorem dX9_digest_90 : decode cX9_digest 90 = .ok (.invokevirtual 213, 3) := by decide +kernel
theorem dX9_digest_93 : decode cX9_digest 93 = .ok (.i2l, 1) := by decide +kernel
theorem dX9_digest_94 : decode cX9_digest 94 = .ok (.invokestatic 209, 3) := by decide +kernel
theorem dX9_digest_97 : decode cX9_digest 97 = .ok (.aload_n 0, 1) := by decide +kernel
theorem dX9_digest_98 : decode cX9_digest 98 = .ok (.bipush 10, 2) := by decide +kernel
theorem dX9_digest_100 : decode cX9_digest 100 = .ok (.iconst 1, 1) := by decide +kernel
theorem dX9_digest_101 : decode cX9_digest 101 = .ok (.invokevirtual 213, 3) := by decide +kernel
theorem dX9_digest_104 : decode cX9_digest 104 = .ok (.i2l, 1) := by decide +kernel
theorem dX9_digest_105 : decode cX9_digest 105 = .ok (.invokestatic 209, 3) := by decide +kernel
theorem dX9_digest_108 : decode cX9_digest 108 = .ok (.lstore_n 1, 1) := by decide +kernel
theorem dX9_digest_109 : decode cX9_digest 109 = .ok (.lload_n 1, 1) := by decide +kernel
theorem dX9_digest_110 : decode cX9_digest 110 = .ok (.aload_n 0, 1) := by decide +kernel
theorem dX9_digest_111 : decode cX9_digest 111 = .ok (.iconst 0, 1) := by decide +kernel
theorem dX9_digest_112 : decode cX9_digest 112 = .ok (.invokevirtual 216, 3) := by decide +kernel
theorem dX9_digest_115 : decode cX9_digest 115 = .ok (.i2l, 1) := by decide +kernel
theorem dX9_digest_116 : decode cX9_digest 116 = .ok (.invokestatic 209, 3) := by decide +kernel
theorem dX9_digest_119 : decode cX9_digest 119 = .ok (.aload_n 0, 1) := by decide +kernel
theorem dX9_digest_120 : decode cX9_digest 120 = .ok (.iconst 1, 1) := by decide +kernel
theorem dX9_digest_121 : decode cX9_digest 121 = .ok (.invokevirtual 216, 3) := by decide +kernel
theorem dX9_digest_124 : decode cX9_digest 124 = .ok (.i2l, 1) := by decide +kernel
theorem dX9_digest_125 : decode cX9_digest 125 = .ok (.invokestatic 209, 3) := by decide +kernel
theorem dX9_digest_128 : decode cX9_digest 128 = .ok (.lstore_n 1, 1) := by decide +kernel
theorem dX9_digest_129 : decode cX9_digest 129 = .ok (.iconst 0, 1) := by decide +kernel
theorem dX9_digest_130 : decode cX9_digest 130 = .ok (.istore_n 3, 1) := by decide +kernel
theorem dX9_digest_131 : decode cX9_digest 131 = .ok (.iload_n 3, 1) := by decide +kernel
theorem dX9_digest_132 : decode cX9_digest 132 = .ok (.aload_n 0, 1) := by decide +kernel
theorem dX9_digest_133 : decode cX9_digest 133 = .ok (.getfield 12, 3) := by decide +kernel
theorem dX9_digest_136 : decode cX9_digest 136 = .ok (.invokevirtual 41, 3) := by decide +kernel
theorem dX9_digest_139 : decode cX9_digest 139 = .ok (.if_icmp .ge 23, 3) := by decide +kernel
theorem dX9_digest_142 : decode cX9_digest 142 = .ok (.lload_n 1, 1) := by decide +kernel
theorem dX9_digest_143 : decode cX9_digest 143 = .ok (.aload_n 0, 1) := by decide +kernel
theorem dX9_digest_144 : decode cX9_digest 144 = .ok (.getfield 12, 3) := by decide +kernel
theorem dX9_digest_147 : decode cX9_digest 147 = .ok (.iload_n 3, 1) := by decide +kernel
theorem dX9_digest_148 : decode cX9_digest 148 = .ok (.invokevirtual 219, 3) := by decide +kernel
theorem dX9_digest_151 : decode cX9_digest 151 = .ok (.i2l, 1) := by decide +kernel
theorem dX9_digest_152 : decode cX9_digest 152 = .ok (.invokestatic 209, 3) := by decide +kernel
theorem dX9_digest_155 : decode cX9_digest 155 = .ok (.lstore_n 1, 1) := by decide +kernel
theorem dX9_digest_156 : decode cX9_digest 156 = .ok (.iinc 3 1, 3) := by decide +kernel
theorem dX9_digest_159 : decode cX9_digest 159 = .ok (.goto (-28), 3) := by decide +kernel
theorem dX9_digest_162 : decode cX9_digest 162 = .ok (.iconst 0, 1) := by decide +kernel
theorem dX9_digest_163 : decode cX9_digest 163 = .ok (.istore_n 3, 1) := by decide +kernel
theorem dX9_digest_164 : decode cX9_digest 164 = .ok (.iload_n 3, 1) := by decide +kernel
theorem dX9_digest_165 : decode cX9_digest 165 = .ok (.bipush 12, 2) := by decide +kernel
theorem dX9_digest_167 : decode cX9_digest 167 = .ok (.if_icmp .ge 20, 3) := by decide +kernel
theorem dX9_digest_170 : decode cX9_digest 170 = .ok (.lload_n 1, 1) := by decide +kernel
theorem dX9_digest_171 : decode cX9_digest 171 = .ok (.aload_n 0, 1) := by decide +kernel
theorem dX9_digest_172 : decode cX9_digest 172 = .ok (.iload_n 3, 1) := by decide +kernel
theorem dX9_digest_173 : decode cX9_digest 173 = .ok (.invokevirtual 222, 3) := by decide +kernel
theorem dX9_digest_176 : decode cX9_digest 176 = .ok (.i2l, 1) := by decide +kernel
theorem dX9_digest_177 : decode cX9_digest 177 = .ok (.invokestatic 209, 3) := by decide +kernel
theorem dX9_digest_180 : decode cX9_digest 180 = .ok (.lstore_n 1, 1) := by decide +kernel
theorem dX9_digest_181 : decode cX9_digest 181 = .ok (.iinc 3 1, 3) := by decide +kernel
theorem dX9_digest_184 : decode cX9_digest 184 = .ok (.goto (-20), 3) := by decide +kernel
theorem dX9_digest_187 : decode cX9_digest 187 = .ok (.lload_n 1, 1) := by decide +kernel
theorem dX9_digest_188 : decode cX9_digest 188 = .ok (.lreturn, 1) := by decide +kernel
set_option maxRecDepth 20000 in
theorem ggX9_withChild_X9_about : GoodIn wsX9_withChild wsX9_about := goodIn_r _ [5, 6, 7, 8, 9, 10, 4, 11, 12, 13, 14, 15, 16, 17, 18, 19, 20, 21, 22, 23, 24, 25, 26, 27, 28, 29, 30, 31, 32, 33, 34, 35, 36, 37, 38, 39, 40, 41, 42, 43, 44, 45, 46, 47, 48, 49, 50, 51, 52, 53, 54, 55, 56, 57, 58, 59, 60, 61, 105, 106, 107, 108, 109, 110, 111, 112, 113, 114, 115, 116, 117, 118, 119, 120, 121, 122, 123, 124, 125, 126, 127, 128] (by decide +kernel) (by decide +kernel)
set_option maxRecDepth 20000 in
theorem gX9_withChild_X9_about : GoodIn wsX9_withChild (wsV RX9 225 RX9 yX9_about wsX9_about) := goodIn_app (goodIn_of _ (by decide +kernel)) ggX9_withChild_X9_about
set_option maxRecDepth 20000 in
theorem ggX9_withChild_X9_with : GoodIn wsX9_withChild wsX9_with := goodIn_r _ [64, 65] (by decide +kernel) (by decide +kernel)
set_option maxRecDepth 20000 in
theorem gX9_withChild_X9_with : GoodIn wsX9_withChild (va_wsS RX9 209 yX9_with wsX9_with) := goodIn_app (goodIn_of _ (by decide +kernel)) ggX9_withChild_X9_with
set_option maxRecDepth 20000 in
theorem ggX9_withChild_X9_knows : GoodIn wsX9_withChild wsX9_knows := goodIn_r _ [69, 7, 8, 9, 10, 4, 11, 6, 12, 13, 14, 15, 16, 17, 70, 71, 72, 73, 74, 75, 76, 50, 51, 32, 52, 53, 54, 55, 56, 37, 24, 25, 26, 27, 28, 77, 78, 79, 80, 81, 105, 106, 107, 108, 109, 110, 111, 112, 113, 114, 115, 116, 117, 118, 119, 120, 121, 123, 124, 125, 126, 127, 128, 122] (by decide +kernel) (by decide +kernel)
set_option maxRecDepth 20000 in
theorem gX9_withChild_X9_knows : GoodIn wsX9_withChild (wsV RX9 228 RX9 yX9_knows wsX9_knows) := goodIn_app (goodIn_of _ (by decide +kernel)) ggX9_withChild_X9_knows
set_option maxRecDepth 20000 in
theorem ggX9_withChild_X9_asks : GoodIn wsX9_withChild wsX9_asks := goodIn_r _ [85, 7, 8, 9, 10, 4, 11, 6, 12, 13, 14, 15, 16, 17, 70, 71, 72, 29, 30, 31, 32, 33, 34, 35, 36, 37, 24, 25, 26, 27, 28, 86, 87, 88, 89, 38, 39, 40, 41, 42, 43, 44, 90, 91, 92, 93, 49, 50, 51, 52, 53, 54, 55, 56, 94, 78, 79, 80, 81, 95, 96, 97, 98, 99, 100, 101, 102, 103, 104, 105, 106, 107, 108, 109, 110, 111, 112, 113, 114, 115, 116, 117, 118, 119, 120, 121, 123, 124, 125, 126, 127, 128, 122] (by decide +kernel) (by decide +kernel)
set_option maxRecDepth 20000 in
theorem gX9_withChild_X9_asks : GoodIn wsX9_withChild (wsV RX9 232 RX9 yX9_asks wsX9_asks) := goodIn_app (goodIn_of _ (by decide +kernel)) ggX9_withChild_X9_asks
theorem dX9_withChild_0 : decode cX9_withChild 0 = .ok (.lload_n 1, 1) := by decide +kernel
theorem dX9_withChild_1 : decode cX9_withChild 1 = .ok (.lstore 4, 2) := by decide +kernel
theorem dX9_withChild_3 : decode cX9_withChild 3 = .ok (.iconst 0, 1) := by decide +kernel
theorem dX9_withChild_4 : decode cX9_withChild 4 = .ok (.istore 6, 2) := by decide +kernel
theorem dX9_withChild_6 : decode cX9_withChild 6 = .ok (.iload 6, 2) := by decide +kernel
theorem dX9_withChild_8 : decode cX9_withChild 8 = .ok (.iconst 5, 1) := by decide +kernel
theorem dX9_withChild_9 : decode cX9_withChild 9 = .ok (.if_icmp .ge 24, 3) := by decide +kernel
theorem dX9_withChild_12 : decode cX9_withChild 12 = .ok (.lload 4, 2) := by decide +kernel
theorem dX9_withChild_14 : decode cX9_withChild 14 = .ok (.aload_n 0, 1) := by decide +kernel
theorem dX9_withChild_15 : decode cX9_withChild 15 = .ok (.iload_n 3, 1) := by decide +kernel
theorem dX9_withChild_16 : decode cX9_withChild 16 = .ok (.iload 6, 2) := by decide +kernel
theorem dX9_withChild_18 : decode cX9_withChild 18 = .ok (.invokevirtual 225, 3) := by decide +kernel
theorem dX9_withChild_21 : decode cX9_withChild 21 = .ok (.i2l, 1) := by decide +kernel
theorem dX9_withChild_22 : decode cX9_withChild 22 = .ok (.invokestatic 209, 3) := by decide +kernel
theorem dX9_withChild_25 : decode cX9_withChild 25 = .ok (.lstore 4, 2) := by decide +kernel
theorem dX9_withChild_27 : decode cX9_withChild 27 = .ok (.iinc 6 1, 3) := by decide +kernel
theorem dX9_withChild_30 : decode cX9_withChild 30 = .ok (.goto (-24), 3) := by decide +kernel
theorem dX9_withChild_33 : decode cX9_withChild 33 = .ok (.iconst 0, 1) := by decide +kernel
theorem dX9_withChild_34 : decode cX9_withChild 34 = .ok (.istore 6, 2) := by decide +kernel
theorem dX9_withChild_36 : decode cX9_withChild 36 = .ok (.iload 6, 2) := by decide +kernel
theorem dX9_withChild_38 : decode cX9_withChild 38 = .ok (.iconst 4, 1) := by decide +kernel
theorem dX9_withChild_39 : decode cX9_withChild 39 = .ok (.if_icmp .ge 56, 3) := by decide +kernel
theorem dX9_withChild_42 : decode cX9_withChild 42 = .ok (.lload 4, 2) := by decide +kernel
theorem dX9_withChild_44 : decode cX9_withChild 44 = .ok (.aload_n 0, 1) := by decide +kernel
theorem dX9_withChild_45 : decode cX9_withChild 45 = .ok (.iload_n 3, 1) := by decide +kernel
theorem dX9_withChild_46 : decode cX9_withChild 46 = .ok (.iload 6, 2) := by decide +kernel
theorem dX9_withChild_48 : decode cX9_withChild 48 = .ok (.iconst 0, 1) := by decide +kernel
theorem dX9_withChild_49 : decode cX9_withChild 49 = .ok (.invokevirtual 228, 3) := by decide +kernel
theorem dX9_withChild_52 : decode cX9_withChild 52 = .ok (.i2l, 1) := by decide +kernel
theorem dX9_withChild_53 : decode cX9_withChild 53 = .ok (.invokestatic 209, 3) := by decide +kernel
theorem dX9_withChild_56 : decode cX9_withChild 56 = .ok (.lstore 4, 2) := by decide +kernel
theorem dX9_withChild_58 : decode cX9_withChild 58 = .ok (.lload 4, 2) := by decide +kernel
theorem dX9_withChild_60 : decode cX9_withChild 60 = .ok (.aload_n 0, 1) := by decide +kernel
theorem dX9_withChild_61 : decode cX9_withChild 61 = .ok (.iload_n 3, 1) := by decide +kernel
theorem dX9_withChild_62 : decode cX9_withChild 62 = .ok (.iload 6, 2) := by decide +kernel
theorem dX9_withChild_64 : decode cX9_withChild 64 = .ok (.iconst 1, 1) := by decide +kernel
theorem dX9_withChild_65 : decode cX9_withChild 65 = .ok (.invokevirtual 228, 3) := by decide +kernel
theorem dX9_withChild_68 : decode cX9_withChild 68 = .ok (.i2l, 1) := by decide +kernel
theorem dX9_withChild_69 : decode cX9_withChild 69 = .ok (.invokestatic 209, 3) := by decide +kernel
theorem dX9_withChild_72 : decode cX9_withChild 72 = .ok (.lstore 4, 2) := by decide +kernel
theorem dX9_withChild_74 : decode cX9_withChild 74 = .ok (.lload 4, 2) := by decide +kernel
theorem dX9_withChild_76 : decode cX9_withChild 76 = .ok (.aload_n 0, 1) := by decide +kernel
theorem dX9_withChild_77 : decode cX9_withChild 77 = .ok (.iload_n 3, 1) := by decide +kernel
theorem dX9_withChild_78 : decode cX9_withChild 78 = .ok (.iload 6, 2) := by decide +kernel
theorem dX9_withChild_80 : decode cX9_withChild 80 = .ok (.invokevirtual 232, 3) := by decide +kernel
theorem dX9_withChild_83 : decode cX9_withChild 83 = .ok (.i2l, 1) := by decide +kernel
theorem dX9_withChild_84 : decode cX9_withChild 84 = .ok (.invokestatic 209, 3) := by decide +kernel
theorem dX9_withChild_87 : decode cX9_withChild 87 = .ok (.lstore 4, 2) := by decide +kernel
theorem dX9_withChild_89 : decode cX9_withChild 89 = .ok (.iinc 6 1, 3) := by decide +kernel
theorem dX9_withChild_92 : decode cX9_withChild 92 = .ok (.goto (-56), 3) := by decide +kernel
theorem dX9_withChild_95 : decode cX9_withChild 95 = .ok (.lload 4, 2) := by decide +kernel
theorem dX9_withChild_97 : decode cX9_withChild 97 = .ok (.lreturn, 1) := by decide +kernel
theorem dX9_with_0 : decode cX9_with 0 = .ok (.ldc2_w 235, 3) := by decide +kernel
theorem dX9_with_3 : decode cX9_with 3 = .ok (.lload_n 0, 1) := by decide +kernel
theorem dX9_with_4 : decode cX9_with 4 = .ok (.lmul, 1) := by decide +kernel
theorem dX9_with_5 : decode cX9_with 5 = .ok (.lload_n 2, 1) := by decide +kernel
theorem dX9_with_6 : decode cX9_with 6 = .ok (.ladd, 1) := by decide +kernel
theorem dX9_with_7 : decode cX9_with 7 = .ok (.lreturn, 1) := by decide +kernel
set_option maxRecDepth 20000 in
theorem ggX9_hasSchool_X5_size : GoodIn wsX9_hasSchool wsX5_size := goodIn_r _ [6, 7, 17, 18, 19, 20, 21, 22, 23, 24] (by decide +kernel) (by decide +kernel)
set_option maxRecDepth 20000 in
theorem gX9_hasSchool_X5_size : GoodIn wsX9_hasSchool (wsV RX9 77 RX5 yX5_size wsX5_size) := goodIn_app (goodIn_of _ (by decide +kernel)) ggX9_hasSchool_X5_size
theorem dX9_hasSchool_0 : decode cX9_hasSchool 0 = .ok (.aload_n 0, 1) := by decide +kernel
theorem dX9_hasSchool_1 : decode cX9_hasSchool 1 = .ok (.getfield 19, 3) := by decide +kernel
theorem dX9_hasSchool_4 : decode cX9_hasSchool 4 = .ok (.invokevirtual 77, 3) := by decide +kernel
theorem dX9_hasSchool_7 : decode cX9_hasSchool 7 = .ok (.ifCond .le 7, 3) := by decide +kernel
theorem dX9_hasSchool_10 : decode cX9_hasSchool 10 = .ok (.iconst 1, 1) := by decide +kernel
theorem dX9_hasSchool_11 : decode cX9_hasSchool 11 = .ok (.goto 4, 3) := by decide +kernel
theorem dX9_hasSchool_14 : decode cX9_hasSchool 14 = .ok (.iconst 0, 1) := by decide +kernel
theorem dX9_hasSchool_15 : decode cX9_hasSchool 15 = .ok (.ireturn, 1) := by decide +kernel
set_option maxRecDepth 20000 in
theorem ggX9_isChild_X5_size : GoodIn wsX9_isChild wsX5_size := goodIn_r _ [6, 7, 17, 18, 19, 20, 21, 22, 23, 24] (by decide +kernel) (by decide +kernel)
set_option maxRecDepth 20000 in
theorem gX9_isChild_X5_size : GoodIn wsX9_isChild (wsV RX9 77 RX5 yX5_size wsX5_size) := goodIn_app (goodIn_of _ (by decide +kernel)) ggX9_isChild_X5_size
theorem dX9_isChild_0 : decode cX9_isChild 0 = .ok (.iload_n 1, 1) := by decide +kernel
theorem dX9_isChild_1 : decode cX9_isChild 1 = .ok (.ifCond .lt 18, 3) := by decide +kernel
theorem dX9_isChild_4 : decode cX9_isChild 4 = .ok (.iload_n 1, 1) := by decide +kernel
theorem dX9_isChild_5 : decode cX9_isChild 5 = .ok (.aload_n 0, 1) := by decide +kernel
theorem dX9_isChild_6 : decode cX9_isChild 6 = .ok (.getfield 19, 3) := by decide +kernel
theorem dX9_isChild_9 : decode cX9_isChild 9 = .ok (.invokevirtual 77, 3) := by decide +kernel
theorem dX9_isChild_12 : decode cX9_isChild 12 = .ok (.if_icmp .ge 7, 3) := by decide +kernel
theorem dX9_isChild_15 : decode cX9_isChild 15 = .ok (.iconst 1, 1) := by decide +kernel
theorem dX9_isChild_16 : decode cX9_isChild 16 = .ok (.goto 4, 3) := by decide +kernel
theorem dX9_isChild_19 : decode cX9_isChild 19 = .ok (.iconst 0, 1) := by decide +kernel
theorem dX9_isChild_20 : decode cX9_isChild 20 = .ok (.ireturn, 1) := by decide +kernel
theorem dX9_isSubject_0 : decode cX9_isSubject 0 = .ok (.iload_n 0, 1) := by decide +kernel
theorem dX9_isSubject_1 : decode cX9_isSubject 1 = .ok (.ifCond .lt 12, 3) := by decide +kernel
theorem dX9_isSubject_4 : decode cX9_isSubject 4 = .ok (.iload_n 0, 1) := by decide +kernel
theorem dX9_isSubject_5 : decode cX9_isSubject 5 = .ok (.iconst 4, 1) := by decide +kernel
theorem dX9_isSubject_6 : decode cX9_isSubject 6 = .ok (.if_icmp .ge 7, 3) := by decide +kernel
theorem dX9_isSubject_9 : decode cX9_isSubject 9 = .ok (.iconst 1, 1) := by decide +kernel
theorem dX9_isSubject_10 : decode cX9_isSubject 10 = .ok (.goto 4, 3) := by decide +kernel
theorem dX9_isSubject_13 : decode cX9_isSubject 13 = .ok (.iconst 0, 1) := by decide +kernel
theorem dX9_isSubject_14 : decode cX9_isSubject 14 = .ok (.ireturn, 1) := by decide +kernel
theorem dX9_isEither_0 : decode cX9_isEither 0 = .ok (.iload_n 0, 1) := by decide +kernel
theorem dX9_isEither_1 : decode cX9_isEither 1 = .ok (.ifCond .eq 8, 3) := by decide +kernel
theorem dX9_isEither_4 : decode cX9_isEither 4 = .ok (.iload_n 0, 1) := by decide +kernel
theorem dX9_isEither_5 : decode cX9_isEither 5 = .ok (.iconst 1, 1) := by decide +kernel
theorem dX9_isEither_6 : decode cX9_isEither 6 = .ok (.if_icmp .ne 7, 3) := by decide +kernel
theorem dX9_isEither_9 : decode cX9_isEither 9 = .ok (.iconst 1, 1) := by decide +kernel
theorem dX9_isEither_10 : decode cX9_isEither 10 = .ok (.goto 4, 3) := by decide +kernel
theorem dX9_isEither_13 : decode cX9_isEither 13 = .ok (.iconst 0, 1) := by decide +kernel
theorem dX9_isEither_14 : decode cX9_isEither 14 = .ok (.ireturn, 1) := by decide +kernel
theorem dX9_isOfKind_0 : decode cX9_isOfKind 0 = .ok (.iload_n 1, 1) := by decide +kernel
theorem dX9_isOfKind_1 : decode cX9_isOfKind 1 = .ok (.tableswitch 51 1 4 #[31, 36, 41, 46], 31) := by decide +kernel
theorem dX9_isOfKind_32 : decode cX9_isOfKind 32 = .ok (.aload_n 0, 1) := by decide +kernel
theorem dX9_isOfKind_33 : decode cX9_isOfKind 33 = .ok (.instanceof 237, 3) := by decide +kernel
theorem dX9_isOfKind_36 : decode cX9_isOfKind 36 = .ok (.ireturn, 1) := by decide +kernel
theorem dX9_isOfKind_37 : decode cX9_isOfKind 37 = .ok (.aload_n 0, 1) := by decide +kernel
theorem dX9_isOfKind_38 : decode cX9_isOfKind 38 = .ok (.instanceof 239, 3) := by decide +kernel
theorem dX9_isOfKind_41 : decode cX9_isOfKind 41 = .ok (.ireturn, 1) := by decide +kernel
theorem dX9_isOfKind_42 : decode cX9_isOfKind 42 = .ok (.aload_n 0, 1) := by decide +kernel
theorem dX9_isOfKind_43 : decode cX9_isOfKind 43 = .ok (.instanceof 241, 3) := by decide +kernel
theorem dX9_isOfKind_46 : decode cX9_isOfKind 46 = .ok (.ireturn, 1) := by decide +kernel
theorem dX9_isOfKind_47 : decode cX9_isOfKind 47 = .ok (.aload_n 0, 1) := by decide +kernel
theorem dX9_isOfKind_48 : decode cX9_isOfKind 48 = .ok (.instanceof 243, 3) := by decide +kernel
theorem dX9_isOfKind_51 : decode cX9_isOfKind 51 = .ok (.ireturn, 1) := by decide +kernel
theorem dX9_isOfKind_52 : decode cX9_isOfKind 52 = .ok (.iconst 1, 1) := by decide +kernel
theorem dX9_isOfKind_53 : decode cX9_isOfKind 53 = .ok (.ireturn, 1) := by decide +kernel
set_option maxRecDepth 20000 in
theorem ggX9_findBestOrder_X4_startAfresh : GoodIn wsX9_findBestOrder wsX4_startAfresh := goodIn_r _ [8, 9, 10, 11, 12, 13, 14, 15, 16, 17, 18, 19, 20, 21, 22, 23, 175, 176, 177, 178, 179, 180, 181] (by decide +kernel) (by decide +kernel)
set_option maxRecDepth 20000 in
theorem gX9_findBestOrder_X4_startAfresh : GoodIn wsX9_findBestOrder (wsV RX9 63 RX4 yX4_startAfresh wsX4_startAfresh) := goodIn_app (goodIn_of _ (by decide +kernel)) ggX9_findBestOrder_X4_startAfresh
set_option maxRecDepth 20000 in
theorem ggX9_findBestOrder_X4_teachFromNothing : GoodIn wsX9_findBestOrder wsX4_teachFromNothing := goodIn_r _ [27, 28, 29, 30, 31, 32, 33, 34, 35, 36, 37, 7, 38, 10, 11, 39, 40, 41, 14, 15, 16, 17, 18, 19, 42, 43, 44, 45, 9, 46, 47, 48, 49, 50, 51, 52, 53, 13, 54, 55, 56, 57, 58, 59, 60, 61, 62, 63, 64, 65, 66, 67, 68, 69, 70, 71, 72, 73, 74, 75, 76, 77, 78, 79, 80, 81, 82, 83, 84, 85, 86, 87, 88, 89, 90, 91, 92, 93, 94, 95, 96, 97, 98, 99, 100, 101, 102, 103, 104, 105, 106, 107, 108, 109, 110, 111, 112, 113, 114, 115, 116, 117, 118, 175, 176, 177, 178, 179, 180, 182, 183, 184, 185, 186, 187, 188, 189, 181] (by decide +kernel) (by decide +kernel)
set_option maxRecDepth 20000 in
theorem gX9_findBestOrder_X4_teachFromNothing : GoodIn wsX9_findBestOrder (wsV RX9 178 RX4 yX4_teachFromNothing wsX4_teachFromNothing) := goodIn_app (goodIn_of _ (by decide +kernel)) ggX9_findBestOrder_X4_teachFromNothing
set_option maxRecDepth 20000 in
theorem ggX9_findBestOrder_X4_endsBetterThan : GoodIn wsX9_findBestOrder wsX4_endsBetterThan := goodIn_r _ [122, 123, 124, 125, 7, 126, 127, 128, 129, 130, 9, 28, 29, 30, 31, 32, 33, 34, 46, 47, 48, 17, 49, 19, 131, 132, 133, 134, 10, 39, 40, 41, 135, 136, 137, 138, 11, 139, 140, 141, 142, 143, 144, 145, 146, 147, 148, 175, 176, 177, 178, 179, 180, 182, 183, 184, 185, 186, 187, 188, 189, 181] (by decide +kernel) (by decide +kernel)
set_option maxRecDepth 20000 in
theorem gX9_findBestOrder_X4_endsBetterThan : GoodIn wsX9_findBestOrder (wsV RX9 245 RX4 yX4_endsBetterThan wsX4_endsBetterThan) := goodIn_app (goodIn_of _ (by decide +kernel)) ggX9_findBestOrder_X4_endsBetterThan
set_option maxRecDepth 20000 in
theorem ggX9_findBestOrder_X4_copyFrom : GoodIn wsX9_findBestOrder wsX4_copyFrom := goodIn_r _ [152, 9, 10, 11, 12, 13, 153, 154, 155, 17, 156, 19, 157, 47, 48, 49, 175, 176, 177, 178, 179, 180, 181] (by decide +kernel) (by decide +kernel)
set_option maxRecDepth 20000 in
theorem gX9_findBestOrder_X4_copyFrom : GoodIn wsX9_findBestOrder (wsV RX9 171 RX4 yX4_copyFrom wsX4_copyFrom) := goodIn_app (goodIn_of _ (by decide +kernel)) ggX9_findBestOrder_X4_copyFrom
set_option maxRecDepth 20000 in
theorem ggX9_findBestOrder_X4_sitInNextOrder : GoodIn wsX9_findBestOrder wsX4_sitInNextOrder := goodIn_r _ [161, 28, 9, 29, 30, 31, 32, 33, 34, 46, 47, 48, 17, 49, 19, 162, 163, 164, 7, 165, 14, 15, 16, 18, 175, 176, 177, 178, 179, 180, 182, 183, 184, 185, 186, 187, 188, 189, 181] (by decide +kernel) (by decide +kernel)
set_option maxRecDepth 20000 in
theorem gX9_findBestOrder_X4_sitInNextOrder : GoodIn wsX9_findBestOrder (wsV RX9 249 RX4 yX4_sitInNextOrder wsX4_sitInNextOrder) := goodIn_app (goodIn_of _ (by decide +kernel)) ggX9_findBestOrder_X4_sitInNextOrder
theorem dX9_findBestOrder_0 : decode cX9_findBestOrder 0 = .ok (.aload_n 0, 1) := by decide +kernel
theorem dX9_findBestOrder_1 : decode cX9_findBestOrder 1 = .ok (.getfield 70, 3) := by decide +kernel
theorem dX9_findBestOrder_4 : decode cX9_findBestOrder 4 = .ok (.ifCond .eq 4, 3) := by decide +kernel
theorem dX9_findBestOrder_7 : decode cX9_findBestOrder 7 = .ok (.return_, 1) := by decide +kernel
theorem dX9_findBestOrder_8 : decode cX9_findBestOrder 8 = .ok (.aload_n 0, 1) := by decide +kernel
theorem dX9_findBestOrder_9 : decode cX9_findBestOrder 9 = .ok (.getfield 35, 3) := by decide +kernel
theorem dX9_findBestOrder_12 : decode cX9_findBestOrder 12 = .ok (.invokevirtual 63, 3) := by decide +kernel
theorem dX9_findBestOrder_15 : decode cX9_findBestOrder 15 = .ok (.iconst 0, 1) := by decide +kernel
theorem dX9_findBestOrder_16 : decode cX9_findBestOrder 16 = .ok (.istore_n 1, 1) := by decide +kernel
theorem dX9_findBestOrder_17 : decode cX9_findBestOrder 17 = .ok (.iload_n 1, 1) := by decide +kernel
theorem dX9_findBestOrder_18 : decode cX9_findBestOrder 18 = .ok (.sipush 720, 3) := by decide +kernel
theorem dX9_findBestOrder_21 : decode cX9_findBestOrder 21 = .ok (.if_icmp .ge 58, 3) := by decide +kernel
theorem dX9_findBestOrder_24 : decode cX9_findBestOrder 24 = .ok (.aload_n 0, 1) := by decide +kernel
theorem dX9_findBestOrder_25 : decode cX9_findBestOrder 25 = .ok (.getfield 35, 3) := by decide +kernel
theorem dX9_findBestOrder_28 : decode cX9_findBestOrder 28 = .ok (.invokevirtual 178, 3) := by decide +kernel
theorem dX9_findBestOrder_31 : decode cX9_findBestOrder 31 = .ok (.iload_n 1, 1) := by decide +kernel
theorem dX9_findBestOrder_32 : decode cX9_findBestOrder 32 = .ok (.ifCond .eq 17, 3) := by decide +kernel
theorem dX9_findBestOrder_35 : decode cX9_findBestOrder 35 = .ok (.aload_n 0, 1) := by decide +kernel
theorem dX9_findBestOrder_36 : decode cX9_findBestOrder 36 = .ok (.getfield 35, 3) := by decide +kernel
theorem dX9_findBestOrder_39 : decode cX9_findBestOrder 39 = .ok (.aload_n 0, 1) := by decide +kernel
theorem dX9_findBestOrder_40 : decode cX9_findBestOrder 40 = .ok (.getfield 38, 3) := by decide +kernel
theorem dX9_findBestOrder_43 : decode cX9_findBestOrder 43 = .ok (.invokevirtual 245, 3) := by decide +kernel
theorem dX9_findBestOrder_46 : decode cX9_findBestOrder 46 = .ok (.ifCond .eq 14, 3) := by decide +kernel
theorem dX9_findBestOrder_49 : decode cX9_findBestOrder 49 = .ok (.aload_n 0, 1) := by decide +kernel
theorem dX9_findBestOrder_50 : decode cX9_findBestOrder 50 = .ok (.getfield 38, 3) := by decide +kernel
theorem dX9_findBestOrder_53 : decode cX9_findBestOrder 53 = .ok (.aload_n 0, 1) := by decide +kernel
theorem dX9_findBestOrder_54 : decode cX9_findBestOrder 54 = .ok (.getfield 35, 3) := by decide +kernel
theorem dX9_findBestOrder_57 : decode cX9_findBestOrder 57 = .ok (.invokevirtual 171, 3) := by decide +kernel
theorem dX9_findBestOrder_60 : decode cX9_findBestOrder 60 = .ok (.aload_n 0, 1) := by decide +kernel
theorem dX9_findBestOrder_61 : decode cX9_findBestOrder 61 = .ok (.getfield 35, 3) := by decide +kernel
theorem dX9_findBestOrder_64 : decode cX9_findBestOrder 64 = .ok (.invokevirtual 249, 3) := by decide +kernel
theorem dX9_findBestOrder_67 : decode cX9_findBestOrder 67 = .ok (.ifCond .ne 6, 3) := by decide +kernel
theorem dX9_findBestOrder_70 : decode cX9_findBestOrder 70 = .ok (.goto 9, 3) := by decide +kernel
theorem dX9_findBestOrder_73 : decode cX9_findBestOrder 73 = .ok (.iinc 1 1, 3) := by decide +kernel
theorem dX9_findBestOrder_76 : decode cX9_findBestOrder 76 = .ok (.goto (-59), 3) := by decide +kernel
theorem dX9_findBestOrder_79 : decode cX9_findBestOrder 79 = .ok (.aload_n 0, 1) := by decide +kernel
theorem dX9_findBestOrder_80 : decode cX9_findBestOrder 80 = .ok (.iconst 1, 1) := by decide +kernel
theorem dX9_findBestOrder_81 : decode cX9_findBestOrder 81 = .ok (.putfield 70, 3) := by decide +kernel
theorem dX9_findBestOrder_84 : decode cX9_findBestOrder 84 = .ok (.return_, 1) := by decide +kernel
set_option maxRecDepth 20000 in
theorem ggX9_countOrders_X4_seatOf : GoodIn wsX9_countOrders wsX4_seatOf := goodIn_r _ [7, 8, 9, 10, 11, 12, 13, 14, 15, 16, 17, 18, 19, 20, 21, 147, 148, 149, 150, 151, 152, 153, 154, 155, 156, 157, 158, 159, 160, 161] (by decide +kernel) (by decide +kernel)
set_option maxRecDepth 20000 in
theorem gX9_countOrders_X4_seatOf : GoodIn wsX9_countOrders (wsV RX9 88 RX4 yX4_seatOf wsX4_seatOf) := goodIn_app (goodIn_of _ (by decide +kernel)) ggX9_countOrders_X4_seatOf
set_option maxRecDepth 20000 in
theorem ggX9_countOrders_X4_startAfresh : GoodIn wsX9_countOrders wsX4_startAfresh := goodIn_r _ [25, 9, 26, 27, 28, 29, 30, 31, 32, 19, 33, 21, 34, 35, 36, 37, 147, 148, 149, 150, 151, 152, 161] (by decide +kernel) (by decide +kernel)
set_option maxRecDepth 20000 in
theorem gX9_countOrders_X4_startAfresh : GoodIn wsX9_countOrders (wsV RX9 63 RX4 yX4_startAfresh wsX4_startAfresh) := goodIn_app (goodIn_of _ (by decide +kernel)) ggX9_countOrders_X4_startAfresh
set_option maxRecDepth 20000 in
theorem ggX9_countOrders_X4_teachFromNothing : GoodIn wsX9_countOrders wsX4_teachFromNothing := goodIn_r _ [41, 8, 10, 11, 12, 13, 14, 15, 42, 43, 44, 6, 45, 26, 27, 46, 47, 48, 30, 31, 32, 19, 33, 21, 49, 50, 51, 52, 9, 16, 17, 18, 20, 53, 54, 55, 56, 29, 57, 58, 59, 60, 61, 62, 63, 64, 65, 66, 67, 68, 69, 70, 71, 72, 73, 74, 75, 76, 77, 78, 79, 80, 81, 82, 83, 84, 85, 86, 87, 88, 89, 90, 91, 92, 93, 94, 95, 96, 97, 98, 99, 100, 101, 102, 103, 104, 105, 106, 107, 108, 109, 110, 111, 112, 113, 114, 115, 116, 117, 118, 119, 120, 121, 147, 148, 149, 150, 151, 152, 153, 154, 155, 156, 157, 158, 159, 160, 161] (by decide +kernel) (by decide +kernel)
set_option maxRecDepth 20000 in
theorem gX9_countOrders_X4_teachFromNothing : GoodIn wsX9_countOrders (wsV RX9 178 RX4 yX4_teachFromNothing wsX4_teachFromNothing) := goodIn_app (goodIn_of _ (by decide +kernel)) ggX9_countOrders_X4_teachFromNothing
set_option maxRecDepth 20000 in
theorem ggX9_countOrders_X4_childOn : GoodIn wsX9_countOrders wsX4_childOn := goodIn_r _ [125, 9, 16, 17, 18, 19, 20, 21, 147, 148, 149, 150, 151, 152, 161] (by decide +kernel) (by decide +kernel)
set_option maxRecDepth 20000 in
theorem gX9_countOrders_X4_childOn : GoodIn wsX9_countOrders (wsV RX9 108 RX4 yX4_childOn wsX4_childOn) := goodIn_app (goodIn_of _ (by decide +kernel)) ggX9_countOrders_X4_childOn
set_option maxRecDepth 20000 in
theorem ggX9_countOrders_X4_mistakes : GoodIn wsX9_countOrders wsX4_mistakes := goodIn_r _ [129, 27, 46, 47, 6, 48, 16, 17, 18, 19, 20, 21, 147, 148, 149, 150, 151, 152, 161] (by decide +kernel) (by decide +kernel)
set_option maxRecDepth 20000 in
theorem gX9_countOrders_X4_mistakes : GoodIn wsX9_countOrders (wsV RX9 129 RX4 yX4_mistakes wsX4_mistakes) := goodIn_app (goodIn_of _ (by decide +kernel)) ggX9_countOrders_X4_mistakes
set_option maxRecDepth 20000 in
theorem ggX9_countOrders_X4_sitInNextOrder : GoodIn wsX9_countOrders wsX4_sitInNextOrder := goodIn_r _ [133, 8, 9, 10, 11, 12, 13, 14, 15, 16, 17, 18, 19, 20, 21, 134, 135, 136, 6, 137, 30, 31, 32, 33, 147, 148, 149, 150, 151, 152, 153, 154, 155, 156, 157, 158, 159, 160, 161] (by decide +kernel) (by decide +kernel)
set_option maxRecDepth 20000 in
theorem gX9_countOrders_X4_sitInNextOrder : GoodIn wsX9_countOrders (wsV RX9 249 RX4 yX4_sitInNextOrder wsX4_sitInNextOrder) := goodIn_app (goodIn_of _ (by decide +kernel)) ggX9_countOrders_X4_sitInNextOrder
theorem dX9_countOrders_0 : decode cX9_countOrders 0 = .ok (.iconst 0, 1) := by decide +kernel
theorem dX9_countOrders_1 : decode cX9_countOrders 1 = .ok (.istore 4, 2) := by decide +kernel
theorem dX9_countOrders_3 : decode cX9_countOrders 3 = .ok (.aload_n 0, 1) := by decide +kernel
theorem dX9_countOrders_4 : decode cX9_countOrders 4 = .ok (.getfield 28, 3) := by decide +kernel
theorem dX9_countOrders_7 : decode cX9_countOrders 7 = .ok (.iload_n 1, 1) := by decide +kernel
theorem dX9_countOrders_8 : decode cX9_countOrders 8 = .ok (.invokevirtual 88, 3) := by decide +kernel
theorem dX9_countOrders_11 : decode cX9_countOrders 11 = .ok (.istore 5, 2) := by decide +kernel
theorem dX9_countOrders_13 : decode cX9_countOrders 13 = .ok (.aload_n 0, 1) := by decide +kernel
theorem dX9_countOrders_14 : decode cX9_countOrders 14 = .ok (.getfield 35, 3) := by decide +kernel
theorem dX9_countOrders_17 : decode cX9_countOrders 17 = .ok (.invokevirtual 63, 3) := by decide +kernel
theorem dX9_countOrders_20 : decode cX9_countOrders 20 = .ok (.iconst 0, 1) := by decide +kernel
theorem dX9_countOrders_21 : decode cX9_countOrders 21 = .ok (.istore 6, 2) := by decide +kernel
theorem dX9_countOrders_23 : decode cX9_countOrders 23 = .ok (.iload 6, 2) := by decide +kernel
theorem dX9_countOrders_25 : decode cX9_countOrders 25 = .ok (.sipush 720, 3) := by decide +kernel
theorem dX9_countOrders_28 : decode cX9_countOrders 28 = .ok (.if_icmp .ge 74, 3) := by decide +kernel
theorem dX9_countOrders_31 : decode cX9_countOrders 31 = .ok (.aload_n 0, 1) := by decide +kernel
theorem dX9_countOrders_32 : decode cX9_countOrders 32 = .ok (.getfield 35, 3) := by decide +kernel
theorem dX9_countOrders_35 : decode cX9_countOrders 35 = .ok (.invokevirtual 178, 3) := by decide +kernel
theorem dX9_countOrders_38 : decode cX9_countOrders 38 = .ok (.iload_n 3, 1) := by decide +kernel
theorem dX9_countOrders_39 : decode cX9_countOrders 39 = .ok (.ifCond .eq 16, 3) := by decide +kernel
theorem dX9_countOrders_42 : decode cX9_countOrders 42 = .ok (.aload_n 0, 1) := by decide +kernel
theorem dX9_countOrders_43 : decode cX9_countOrders 43 = .ok (.getfield 35, 3) := by decide +kernel
theorem dX9_countOrders_46 : decode cX9_countOrders 46 = .ok (.iload 5, 2) := by decide +kernel
theorem dX9_countOrders_48 : decode cX9_countOrders 48 = .ok (.invokevirtual 108, 3) := by decide +kernel
theorem dX9_countOrders_51 : decode cX9_countOrders 51 = .ok (.iload_n 1, 1) := by decide +kernel
theorem dX9_countOrders_52 : decode cX9_countOrders 52 = .ok (.if_icmp .ne 7, 3) := by decide +kernel
theorem dX9_countOrders_55 : decode cX9_countOrders 55 = .ok (.iconst 1, 1) := by decide +kernel
theorem dX9_countOrders_56 : decode cX9_countOrders 56 = .ok (.goto 4, 3) := by decide +kernel
theorem dX9_countOrders_59 : decode cX9_countOrders 59 = .ok (.iconst 0, 1) := by decide +kernel
theorem dX9_countOrders_60 : decode cX9_countOrders 60 = .ok (.istore 7, 2) := by decide +kernel
theorem dX9_countOrders_62 : decode cX9_countOrders 62 = .ok (.iload 7, 2) := by decide +kernel
theorem dX9_countOrders_64 : decode cX9_countOrders 64 = .ok (.ifCond .eq 19, 3) := by decide +kernel
theorem dX9_countOrders_67 : decode cX9_countOrders 67 = .ok (.aload_n 0, 1) := by decide +kernel
theorem dX9_countOrders_68 : decode cX9_countOrders 68 = .ok (.getfield 35, 3) := by decide +kernel
theorem dX9_countOrders_71 : decode cX9_countOrders 71 = .ok (.iload_n 1, 1) := by decide +kernel
theorem dX9_countOrders_72 : decode cX9_countOrders 72 = .ok (.iconst 0, 1) := by decide +kernel
theorem dX9_countOrders_73 : decode cX9_countOrders 73 = .ok (.invokevirtual 129, 3) := by decide +kernel
theorem dX9_countOrders_76 : decode cX9_countOrders 76 = .ok (.iload_n 2, 1) := by decide +kernel
theorem dX9_countOrders_77 : decode cX9_countOrders 77 = .ok (.if_icmp .ne 6, 3) := by decide +kernel
theorem dX9_countOrders_80 : decode cX9_countOrders 80 = .ok (.iinc 4 1, 3) := by decide +kernel
theorem dX9_countOrders_83 : decode cX9_countOrders 83 = .ok (.aload_n 0, 1) := by decide +kernel
theorem dX9_countOrders_84 : decode cX9_countOrders 84 = .ok (.getfield 35, 3) := by decide +kernel
theorem dX9_countOrders_87 : decode cX9_countOrders 87 = .ok (.invokevirtual 249, 3) := by decide +kernel
theorem dX9_countOrders_90 : decode cX9_countOrders 90 = .ok (.ifCond .ne 6, 3) := by decide +kernel
theorem dX9_countOrders_93 : decode cX9_countOrders 93 = .ok (.goto 9, 3) := by decide +kernel
theorem dX9_countOrders_96 : decode cX9_countOrders 96 = .ok (.iinc 6 1, 3) := by decide +kernel
theorem dX9_countOrders_99 : decode cX9_countOrders 99 = .ok (.goto (-76), 3) := by decide +kernel
theorem dX9_countOrders_102 : decode cX9_countOrders 102 = .ok (.iload 4, 2) := by decide +kernel
theorem dX9_countOrders_104 : decode cX9_countOrders 104 = .ok (.ireturn, 1) := by decide +kernel
set_option maxRecDepth 20000 in
theorem ggX9_bestSongs_X9_partsAfterSongs : GoodIn wsX9_bestSongs wsX9_partsAfterSongs := goodIn_r _ [5, 6, 7, 8, 9, 10, 11, 12, 13, 14, 15, 16, 17, 18, 19, 20, 21, 22, 23, 24, 25, 26, 27, 28, 29, 4, 30, 31, 32, 33, 34, 35, 36, 37, 38, 39, 40, 41, 42, 43, 44, 45, 46, 47, 48, 49, 50, 51, 52, 53, 54, 55, 56, 57, 58, 59, 60, 61, 62, 63, 64, 65, 66, 67, 68, 69, 70, 71, 72, 73, 74, 75, 76, 77, 78, 79, 80, 81, 82, 83, 84, 85, 86, 87, 88, 89, 90, 91, 92, 93, 94, 95, 96, 97, 98, 99, 100, 101, 102, 103, 104, 105, 106, 107, 108, 109, 110, 111, 112, 113, 114, 115, 116, 117, 118, 119, 120, 121, 122, 123, 133, 134, 135, 136, 137, 138, 139, 140, 141, 142, 143, 144, 145, 146, 147, 148, 149, 150, 151, 152, 153, 154, 155, 156] (by decide +kernel) (by decide +kernel)
set_option maxRecDepth 20000 in
theorem gX9_bestSongs_X9_partsAfterSongs : GoodIn wsX9_bestSongs (wsV RX9 157 RX9 yX9_partsAfterSongs wsX9_partsAfterSongs) := goodIn_app (goodIn_of _ (by decide +kernel)) ggX9_bestSongs_X9_partsAfterSongs
set_option maxRecDepth 20000 in
theorem ggX9_bestSongs_X9_breathOf : GoodIn wsX9_bestSongs wsX9_breathOf := goodIn_r _ [127, 128, 28, 29, 4, 30, 129, 130, 131, 39, 132, 84, 57, 25, 26, 21, 27, 23, 133, 134, 135, 136, 137, 138, 139, 140, 141, 149, 150, 151, 152, 153, 154, 155, 156, 148] (by decide +kernel) (by decide +kernel)
set_option maxRecDepth 20000 in
theorem gX9_bestSongs_X9_breathOf : GoodIn wsX9_bestSongs (wsV RX9 252 RX9 yX9_breathOf wsX9_breathOf) := goodIn_app (goodIn_of _ (by decide +kernel)) ggX9_bestSongs_X9_breathOf
theorem dX9_bestSongs_0 : decode cX9_bestSongs 0 = .ok (.iconst 0, 1) := by decide +kernel
theorem dX9_bestSongs_1 : decode cX9_bestSongs 1 = .ok (.istore_n 2, 1) := by decide +kernel
theorem dX9_bestSongs_2 : decode cX9_bestSongs 2 = .ok (.aload_n 0, 1) := by decide +kernel
theorem dX9_bestSongs_3 : decode cX9_bestSongs 3 = .ok (.iconst 0, 1) := by decide +kernel
theorem dX9_bestSongs_4 : decode cX9_bestSongs 4 = .ok (.invokevirtual 157, 3) := by decide +kernel
theorem dX9_bestSongs_7 : decode cX9_bestSongs 7 = .ok (.istore_n 3, 1) := by decide +kernel
theorem dX9_bestSongs_8 : decode cX9_bestSongs 8 = .ok (.iconst 1, 1) := by decide +kernel
theorem dX9_bestSongs_9 : decode cX9_bestSongs 9 = .ok (.istore 4, 2) := by decide +kernel
theorem dX9_bestSongs_11 : decode cX9_bestSongs 11 = .ok (.iload 4, 2) := by decide +kernel
theorem dX9_bestSongs_13 : decode cX9_bestSongs 13 = .ok (.bipush 16, 2) := by decide +kernel
theorem dX9_bestSongs_15 : decode cX9_bestSongs 15 = .ok (.if_icmp .ge 42, 3) := by decide +kernel
theorem dX9_bestSongs_18 : decode cX9_bestSongs 18 = .ok (.aload_n 0, 1) := by decide +kernel
theorem dX9_bestSongs_19 : decode cX9_bestSongs 19 = .ok (.iload 4, 2) := by decide +kernel
theorem dX9_bestSongs_21 : decode cX9_bestSongs 21 = .ok (.invokevirtual 252, 3) := by decide +kernel
theorem dX9_bestSongs_24 : decode cX9_bestSongs 24 = .ok (.iload_n 1, 1) := by decide +kernel
theorem dX9_bestSongs_25 : decode cX9_bestSongs 25 = .ok (.if_icmp .le 6, 3) := by decide +kernel
theorem dX9_bestSongs_28 : decode cX9_bestSongs 28 = .ok (.goto 23, 3) := by decide +kernel
theorem dX9_bestSongs_31 : decode cX9_bestSongs 31 = .ok (.aload_n 0, 1) := by decide +kernel
theorem dX9_bestSongs_32 : decode cX9_bestSongs 32 = .ok (.iload 4, 2) := by decide +kernel
theorem dX9_bestSongs_34 : decode cX9_bestSongs 34 = .ok (.invokevirtual 157, 3) := by decide +kernel
theorem dX9_bestSongs_37 : decode cX9_bestSongs 37 = .ok (.istore 5, 2) := by decide +kernel
theorem dX9_bestSongs_39 : decode cX9_bestSongs 39 = .ok (.iload 5, 2) := by decide +kernel
theorem dX9_bestSongs_41 : decode cX9_bestSongs 41 = .ok (.iload_n 3, 1) := by decide +kernel
theorem dX9_bestSongs_42 : decode cX9_bestSongs 42 = .ok (.if_icmp .le 9, 3) := by decide +kernel
theorem dX9_bestSongs_45 : decode cX9_bestSongs 45 = .ok (.iload 4, 2) := by decide +kernel
theorem dX9_bestSongs_47 : decode cX9_bestSongs 47 = .ok (.istore_n 2, 1) := by decide +kernel
theorem dX9_bestSongs_48 : decode cX9_bestSongs 48 = .ok (.iload 5, 2) := by decide +kernel
theorem dX9_bestSongs_50 : decode cX9_bestSongs 50 = .ok (.istore_n 3, 1) := by decide +kernel
theorem dX9_bestSongs_51 : decode cX9_bestSongs 51 = .ok (.iinc 4 1, 3) := by decide +kernel
theorem dX9_bestSongs_54 : decode cX9_bestSongs 54 = .ok (.goto (-43), 3) := by decide +kernel
theorem dX9_bestSongs_57 : decode cX9_bestSongs 57 = .ok (.iload_n 2, 1) := by decide +kernel
theorem dX9_bestSongs_58 : decode cX9_bestSongs 58 = .ok (.ireturn, 1) := by decide +kernel
set_option maxRecDepth 20000 in
theorem ggX9_breathOf_X9_isIn : GoodIn wsX9_breathOf wsX9_isIn := goodIn_r _ [5] (by decide +kernel) (by decide +kernel)
set_option maxRecDepth 20000 in
theorem gX9_breathOf_X9_isIn : GoodIn wsX9_breathOf (va_wsS RX9 255 yX9_isIn wsX9_isIn) := goodIn_app (goodIn_of _ (by decide +kernel)) ggX9_breathOf_X9_isIn
set_option maxRecDepth 20000 in
theorem ggX9_breathOf_X5_digit : GoodIn wsX9_breathOf wsX5_digit := goodIn_r _ [10, 11, 12, 13, 14, 15, 16, 17, 27, 28, 29, 30, 31, 32, 33, 34, 35] (by decide +kernel) (by decide +kernel)
set_option maxRecDepth 20000 in
theorem gX9_breathOf_X5_digit : GoodIn wsX9_breathOf (wsV RX9 194 RX5 yX5_digit wsX5_digit) := goodIn_app (goodIn_of _ (by decide +kernel)) ggX9_breathOf_X5_digit
theorem dX9_breathOf_0 : decode cX9_breathOf 0 = .ok (.iconst 0, 1) := by decide +kernel
theorem dX9_breathOf_1 : decode cX9_breathOf 1 = .ok (.istore_n 2, 1) := by decide +kernel
theorem dX9_breathOf_2 : decode cX9_breathOf 2 = .ok (.iconst 0, 1) := by decide +kernel
theorem dX9_breathOf_3 : decode cX9_breathOf 3 = .ok (.istore_n 3, 1) := by decide +kernel
theorem dX9_breathOf_4 : decode cX9_breathOf 4 = .ok (.iload_n 3, 1) := by decide +kernel
theorem dX9_breathOf_5 : decode cX9_breathOf 5 = .ok (.iconst 4, 1) := by decide +kernel
theorem dX9_breathOf_6 : decode cX9_breathOf 6 = .ok (.if_icmp .ge 34, 3) := by decide +kernel
theorem dX9_breathOf_9 : decode cX9_breathOf 9 = .ok (.iload_n 2, 1) := by decide +kernel
theorem dX9_breathOf_10 : decode cX9_breathOf 10 = .ok (.iload_n 1, 1) := by decide +kernel
theorem dX9_breathOf_11 : decode cX9_breathOf 11 = .ok (.iload_n 3, 1) := by decide +kernel
theorem dX9_breathOf_12 : decode cX9_breathOf 12 = .ok (.invokestatic 255, 3) := by decide +kernel
theorem dX9_breathOf_15 : decode cX9_breathOf 15 = .ok (.ifCond .eq 16, 3) := by decide +kernel
theorem dX9_breathOf_18 : decode cX9_breathOf 18 = .ok (.aload_n 0, 1) := by decide +kernel
theorem dX9_breathOf_19 : decode cX9_breathOf 19 = .ok (.getfield 19, 3) := by decide +kernel
theorem dX9_breathOf_22 : decode cX9_breathOf 22 = .ok (.iconst 2, 1) := by decide +kernel
theorem dX9_breathOf_23 : decode cX9_breathOf 23 = .ok (.iload_n 3, 1) := by decide +kernel
theorem dX9_breathOf_24 : decode cX9_breathOf 24 = .ok (.iadd, 1) := by decide +kernel
theorem dX9_breathOf_25 : decode cX9_breathOf 25 = .ok (.invokevirtual 194, 3) := by decide +kernel
theorem dX9_breathOf_28 : decode cX9_breathOf 28 = .ok (.goto 4, 3) := by decide +kernel
theorem dX9_breathOf_31 : decode cX9_breathOf 31 = .ok (.iconst 0, 1) := by decide +kernel
theorem dX9_breathOf_32 : decode cX9_breathOf 32 = .ok (.iadd, 1) := by decide +kernel
theorem dX9_breathOf_33 : decode cX9_breathOf 33 = .ok (.istore_n 2, 1) := by decide +kernel
theorem dX9_breathOf_34 : decode cX9_breathOf 34 = .ok (.iinc 3 1, 3) := by decide +kernel
theorem dX9_breathOf_37 : decode cX9_breathOf 37 = .ok (.goto (-33), 3) := by decide +kernel
theorem dX9_breathOf_40 : decode cX9_breathOf 40 = .ok (.iload_n 2, 1) := by decide +kernel
theorem dX9_breathOf_41 : decode cX9_breathOf 41 = .ok (.ireturn, 1) := by decide +kernel
set_option maxRecDepth 20000 in
theorem ggX9_partsAfterSongs_X4_copyFrom : GoodIn wsX9_partsAfterSongs wsX4_copyFrom := goodIn_r _ [7, 8, 9, 10, 11, 12, 13, 14, 15, 16, 17, 18, 19, 20, 21, 22, 129, 130, 131, 132, 133, 134, 135] (by decide +kernel) (by decide +kernel)
set_option maxRecDepth 20000 in
theorem gX9_partsAfterSongs_X4_copyFrom : GoodIn wsX9_partsAfterSongs (wsV RX9 171 RX4 yX4_copyFrom wsX4_copyFrom) := goodIn_app (goodIn_of _ (by decide +kernel)) ggX9_partsAfterSongs_X4_copyFrom
set_option maxRecDepth 20000 in
theorem ggX9_partsAfterSongs_X9_isIn : GoodIn wsX9_partsAfterSongs wsX9_isIn := goodIn_r _ [26] (by decide +kernel) (by decide +kernel)
set_option maxRecDepth 20000 in
theorem gX9_partsAfterSongs_X9_isIn : GoodIn wsX9_partsAfterSongs (va_wsS RX9 255 yX9_isIn wsX9_isIn) := goodIn_app (goodIn_of _ (by decide +kernel)) ggX9_partsAfterSongs_X9_isIn
set_option maxRecDepth 20000 in
theorem ggX9_partsAfterSongs_X4_teachDown : GoodIn wsX9_partsAfterSongs wsX4_teachDown := goodIn_r _ [30, 31, 8, 9, 10, 32, 33, 34, 35, 36, 37, 38, 20, 21, 16, 22, 18, 39, 40, 41, 6, 42, 12, 24, 25, 26, 43, 44, 45, 46, 47, 48, 49, 50, 51, 52, 53, 54, 55, 56, 57, 58, 59, 60, 61, 62, 63, 64, 65, 66, 67, 68, 69, 70, 71, 72, 73, 74, 75, 76, 77, 78, 79, 80, 81, 82, 83, 84, 85, 86, 87, 88, 89, 90, 91, 92, 93, 94, 95, 96, 97, 98, 99, 100, 101, 102, 103, 104, 105, 106, 107, 108, 109, 110, 111, 129, 130, 131, 132, 133, 134, 136, 137, 138, 139, 140, 141, 142, 143, 135] (by decide +kernel) (by decide +kernel)
set_option maxRecDepth 20000 in
theorem gX9_partsAfterSongs_X4_teachDown : GoodIn wsX9_partsAfterSongs (wsV RX9 135 RX4 yX4_teachDown wsX4_teachDown) := goodIn_app (goodIn_of _ (by decide +kernel)) ggX9_partsAfterSongs_X4_teachDown
set_option maxRecDepth 20000 in
theorem ggX9_partsAfterSongs_X4_partsOfAll : GoodIn wsX9_partsAfterSongs wsX4_partsOfAll := goodIn_r _ [115, 9, 116, 117, 118, 16, 119, 18, 129, 130, 131, 132, 133, 134, 135] (by decide +kernel) (by decide +kernel)
set_option maxRecDepth 20000 in
theorem gX9_partsAfterSongs_X4_partsOfAll : GoodIn wsX9_partsAfterSongs (wsV RX9 188 RX4 yX4_partsOfAll wsX4_partsOfAll) := goodIn_app (goodIn_of _ (by decide +kernel)) ggX9_partsAfterSongs_X4_partsOfAll
theorem dX9_partsAfterSongs_0 : decode cX9_partsAfterSongs 0 = .ok (.aload_n 0, 1) := by decide +kernel
theorem dX9_partsAfterSongs_1 : decode cX9_partsAfterSongs 1 = .ok (.getfield 35, 3) := by decide +kernel
theorem dX9_partsAfterSongs_4 : decode cX9_partsAfterSongs 4 = .ok (.aload_n 0, 1) := by decide +kernel
theorem dX9_partsAfterSongs_5 : decode cX9_partsAfterSongs 5 = .ok (.getfield 28, 3) := by decide +kernel
theorem dX9_partsAfterSongs_8 : decode cX9_partsAfterSongs 8 = .ok (.invokevirtual 171, 3) := by decide +kernel
theorem dX9_partsAfterSongs_11 : decode cX9_partsAfterSongs 11 = .ok (.iconst 0, 1) := by decide +kernel
theorem dX9_partsAfterSongs_12 : decode cX9_partsAfterSongs 12 = .ok (.istore_n 2, 1) := by decide +kernel
theorem dX9_partsAfterSongs_13 : decode cX9_partsAfterSongs 13 = .ok (.iload_n 2, 1) := by decide +kernel
theorem dX9_partsAfterSongs_14 : decode cX9_partsAfterSongs 14 = .ok (.iconst 4, 1) := by decide +kernel
theorem dX9_partsAfterSongs_15 : decode cX9_partsAfterSongs 15 = .ok (.if_icmp .ge 23, 3) := by decide +kernel
theorem dX9_partsAfterSongs_18 : decode cX9_partsAfterSongs 18 = .ok (.aload_n 0, 1) := by decide +kernel
theorem dX9_partsAfterSongs_19 : decode cX9_partsAfterSongs 19 = .ok (.getfield 35, 3) := by decide +kernel
theorem dX9_partsAfterSongs_22 : decode cX9_partsAfterSongs 22 = .ok (.iload_n 2, 1) := by decide +kernel
theorem dX9_partsAfterSongs_23 : decode cX9_partsAfterSongs 23 = .ok (.iload_n 1, 1) := by decide +kernel
theorem dX9_partsAfterSongs_24 : decode cX9_partsAfterSongs 24 = .ok (.iload_n 2, 1) := by decide +kernel
theorem dX9_partsAfterSongs_25 : decode cX9_partsAfterSongs 25 = .ok (.invokestatic 255, 3) := by decide +kernel
theorem dX9_partsAfterSongs_28 : decode cX9_partsAfterSongs 28 = .ok (.invokevirtual 135, 3) := by decide +kernel
theorem dX9_partsAfterSongs_31 : decode cX9_partsAfterSongs 31 = .ok (.pop, 1) := by decide +kernel
theorem dX9_partsAfterSongs_32 : decode cX9_partsAfterSongs 32 = .ok (.iinc 2 1, 3) := by decide +kernel
theorem dX9_partsAfterSongs_35 : decode cX9_partsAfterSongs 35 = .ok (.goto (-22), 3) := by decide +kernel
theorem dX9_partsAfterSongs_38 : decode cX9_partsAfterSongs 38 = .ok (.aload_n 0, 1) := by decide +kernel
theorem dX9_partsAfterSongs_39 : decode cX9_partsAfterSongs 39 = .ok (.getfield 35, 3) := by decide +kernel
theorem dX9_partsAfterSongs_42 : decode cX9_partsAfterSongs 42 = .ok (.invokevirtual 188, 3) := by decide +kernel
theorem dX9_partsAfterSongs_45 : decode cX9_partsAfterSongs 45 = .ok (.ireturn, 1) := by decide +kernel
