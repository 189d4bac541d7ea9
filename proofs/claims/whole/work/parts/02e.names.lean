set_option maxRecDepth 20000 in
theorem gX9_knows_X4_mistakes : GoodIn wsX9_knows (wsV RX9 129 RX4 yX4_mistakes wsX4_mistakes) := goodIn_app (goodIn_of _ (by decide +kernel)) ggX9_knows_X4_mistakes
theorem dX9_knows_0 : decode cX9_knows 0 = .ok (.aload_n 0, 1) := by decide +kernel
theorem dX9_knows_1 : decode cX9_knows 1 = .ok (.iload_n 1, 1) := by decide +kernel
theorem dX9_knows_2 : decode cX9_knows 2 = .ok (.invokevirtual 80, 3) := by decide +kernel
theorem dX9_knows_5 : decode cX9_knows 5 = .ok (.ifCond .eq 10, 3) := by decide +kernel
theorem dX9_knows_8 : decode cX9_knows 8 = .ok (.iload_n 2, 1) := by decide +kernel
theorem dX9_knows_9 : decode cX9_knows 9 = .ok (.invokestatic 119, 3) := by decide +kernel
theorem dX9_knows_12 : decode cX9_knows 12 = .ok (.ifCond .ne 6, 3) := by decide +kernel
theorem dX9_knows_15 : decode cX9_knows 15 = .ok (.bipush (-101), 2) := by decide +kernel
theorem dX9_knows_17 : decode cX9_knows 17 = .ok (.ireturn, 1) := by decide +kernel
theorem dX9_knows_18 : decode cX9_knows 18 = .ok (.iload_n 3, 1) := by decide +kernel
theorem dX9_knows_19 : decode cX9_knows 19 = .ok (.invokestatic 122, 3) := by decide +kernel
theorem dX9_knows_22 : decode cX9_knows 22 = .ok (.ifCond .ne 6, 3) := by decide +kernel
theorem dX9_knows_25 : decode cX9_knows 25 = .ok (.bipush (-102), 2) := by decide +kernel
theorem dX9_knows_27 : decode cX9_knows 27 = .ok (.ireturn, 1) := by decide +kernel
theorem dX9_knows_28 : decode cX9_knows 28 = .ok (.iload_n 3, 1) := by decide +kernel
theorem dX9_knows_29 : decode cX9_knows 29 = .ok (.ifCond .ne 15, 3) := by decide +kernel
theorem dX9_knows_32 : decode cX9_knows 32 = .ok (.aload_n 0, 1) := by decide +kernel
theorem dX9_knows_33 : decode cX9_knows 33 = .ok (.getfield 28, 3) := by decide +kernel
theorem dX9_knows_36 : decode cX9_knows 36 = .ok (.iload_n 1, 1) := by decide +kernel
theorem dX9_knows_37 : decode cX9_knows 37 = .ok (.iload_n 2, 1) := by decide +kernel
theorem dX9_knows_38 : decode cX9_knows 38 = .ok (.invokevirtual 125, 3) := by decide +kernel
theorem dX9_knows_41 : decode cX9_knows 41 = .ok (.goto 12, 3) := by decide +kernel
theorem dX9_knows_44 : decode cX9_knows 44 = .ok (.aload_n 0, 1) := by decide +kernel
theorem dX9_knows_45 : decode cX9_knows 45 = .ok (.getfield 28, 3) := by decide +kernel
theorem dX9_knows_48 : decode cX9_knows 48 = .ok (.iload_n 1, 1) := by decide +kernel
theorem dX9_knows_49 : decode cX9_knows 49 = .ok (.iload_n 2, 1) := by decide +kernel
theorem dX9_knows_50 : decode cX9_knows 50 = .ok (.invokevirtual 129, 3) := by decide +kernel
theorem dX9_knows_53 : decode cX9_knows 53 = .ok (.ireturn, 1) := by decide +kernel
set_option maxRecDepth 20000 in
theorem ggX9_lesson_X9_isSubject : GoodIn wsX9_lesson wsX9_isSubject := goodIn_r _ [5] (by decide +kernel) (by decide +kernel)
set_option maxRecDepth 20000 in
theorem gX9_lesson_X9_isSubject : GoodIn wsX9_lesson (va_wsS RX9 119 yX9_isSubject wsX9_isSubject) := goodIn_app (goodIn_of _ (by decide +kernel)) ggX9_lesson_X9_isSubject
set_option maxRecDepth 20000 in
theorem ggX9_lesson_X9_hasSchool : GoodIn wsX9_lesson wsX9_hasSchool := goodIn_r _ [9, 10, 11, 12, 13, 14, 15, 16, 109, 110, 111, 112, 113, 114, 115, 116, 117, 118, 119, 120, 121, 122, 123, 124, 125] (by decide +kernel) (by decide +kernel)
set_option maxRecDepth 20000 in
theorem gX9_lesson_X9_hasSchool : GoodIn wsX9_lesson (wsV RX9 132 RX9 yX9_hasSchool wsX9_hasSchool) := goodIn_app (goodIn_of _ (by decide +kernel)) ggX9_lesson_X9_hasSchool
set_option maxRecDepth 20000 in
theorem ggX9_lesson_X4_teachDown : GoodIn wsX9_lesson wsX4_teachDown := goodIn_r _ [21, 22, 23, 24, 25, 26, 12, 13, 14, 15, 16, 27, 28, 29, 30, 31, 32, 33, 34, 35, 20, 36, 37, 38, 4, 39, 40, 41, 42, 43, 44, 45, 46, 47, 48, 49, 50, 51, 52, 53, 54, 55, 56, 57, 58, 59, 60, 61, 62, 63, 64, 65, 66, 67, 68, 69, 70, 71, 72, 73, 74, 75, 76, 77, 78, 79, 80, 81, 82, 83, 84, 85, 86, 87, 88, 89, 90, 91, 92, 93, 94, 95, 96, 97, 98, 99, 100, 101, 102, 103, 104, 105, 106, 107, 108, 126, 127, 128, 129, 130, 131, 118, 119, 120, 121, 122, 123, 124, 125, 132] (by decide +kernel) (by decide +kernel)
set_option maxRecDepth 20000 in
theorem gX9_lesson_X4_teachDown : GoodIn wsX9_lesson (wsV RX9 135 RX4 yX4_teachDown wsX4_teachDown) := goodIn_app (goodIn_of _ (by decide +kernel)) ggX9_lesson_X4_teachDown
theorem dX9_lesson_0 : decode cX9_lesson 0 = .ok (.iload_n 1, 1) := by decide +kernel
theorem dX9_lesson_1 : decode cX9_lesson 1 = .ok (.invokestatic 119, 3) := by decide +kernel
theorem dX9_lesson_4 : decode cX9_lesson 4 = .ok (.ifCond .ne 6, 3) := by decide +kernel
theorem dX9_lesson_7 : decode cX9_lesson 7 = .ok (.bipush (-101), 2) := by decide +kernel
theorem dX9_lesson_9 : decode cX9_lesson 9 = .ok (.ireturn, 1) := by decide +kernel
theorem dX9_lesson_10 : decode cX9_lesson 10 = .ok (.aload_n 0, 1) := by decide +kernel
theorem dX9_lesson_11 : decode cX9_lesson 11 = .ok (.invokevirtual 132, 3) := by decide +kernel
theorem dX9_lesson_14 : decode cX9_lesson 14 = .ok (.ifCond .ne 6, 3) := by decide +kernel
theorem dX9_lesson_17 : decode cX9_lesson 17 = .ok (.bipush (-103), 2) := by decide +kernel
theorem dX9_lesson_19 : decode cX9_lesson 19 = .ok (.ireturn, 1) := by decide +kernel
theorem dX9_lesson_20 : decode cX9_lesson 20 = .ok (.aload_n 0, 1) := by decide +kernel
theorem dX9_lesson_21 : decode cX9_lesson 21 = .ok (.getfield 28, 3) := by decide +kernel
theorem dX9_lesson_24 : decode cX9_lesson 24 = .ok (.iload_n 1, 1) := by decide +kernel
theorem dX9_lesson_25 : decode cX9_lesson 25 = .ok (.iload_n 2, 1) := by decide +kernel
theorem dX9_lesson_26 : decode cX9_lesson 26 = .ok (.invokevirtual 135, 3) := by decide +kernel
theorem dX9_lesson_29 : decode cX9_lesson 29 = .ok (.ireturn, 1) := by decide +kernel
set_option maxRecDepth 20000 in
theorem ggX9_summer_X9_hasSchool : GoodIn wsX9_summer wsX9_hasSchool := goodIn_r _ [6, 7, 8, 9, 10, 11, 12, 13, 70, 71, 72, 73, 74, 75, 76, 77, 78, 79, 80, 81, 82, 83, 84, 85, 86] (by decide +kernel) (by decide +kernel)
set_option maxRecDepth 20000 in
theorem gX9_summer_X9_hasSchool : GoodIn wsX9_summer (wsV RX9 132 RX9 yX9_hasSchool wsX9_hasSchool) := goodIn_app (goodIn_of _ (by decide +kernel)) ggX9_summer_X9_hasSchool
set_option maxRecDepth 20000 in
theorem ggX9_summer_X4_passSummer : GoodIn wsX9_summer wsX4_passSummer := goodIn_r _ [18, 19, 20, 21, 22, 9, 10, 11, 12, 13, 23, 24, 25, 26, 27, 28, 29, 30, 31, 32, 33, 34, 35, 36, 37, 38, 39, 40, 17, 41, 42, 43, 44, 45, 46, 47, 48, 49, 50, 51, 52, 53, 54, 55, 56, 57, 58, 59, 60, 61, 62, 63, 64, 65, 66, 67, 68, 69, 87, 88, 89, 90, 91, 92, 79, 80, 81, 82, 83, 84, 85, 86, 93] (by decide +kernel) (by decide +kernel)
set_option maxRecDepth 20000 in
theorem gX9_summer_X4_passSummer : GoodIn wsX9_summer (wsV RX9 139 RX4 yX4_passSummer wsX4_passSummer) := goodIn_app (goodIn_of _ (by decide +kernel)) ggX9_summer_X4_passSummer
theorem dX9_summer_0 : decode cX9_summer 0 = .ok (.aload_n 0, 1) := by decide +kernel
theorem dX9_summer_1 : decode cX9_summer 1 = .ok (.invokevirtual 132, 3) := by decide +kernel
theorem dX9_summer_4 : decode cX9_summer 4 = .ok (.ifCond .eq 13, 3) := by decide +kernel
theorem dX9_summer_7 : decode cX9_summer 7 = .ok (.aload_n 0, 1) := by decide +kernel
theorem dX9_summer_8 : decode cX9_summer 8 = .ok (.getfield 28, 3) := by decide +kernel
theorem dX9_summer_11 : decode cX9_summer 11 = .ok (.invokevirtual 139, 3) := by decide +kernel
theorem dX9_summer_14 : decode cX9_summer 14 = .ok (.goto 5, 3) := by decide +kernel
theorem dX9_summer_17 : decode cX9_summer 17 = .ok (.bipush (-103), 2) := by decide +kernel
theorem dX9_summer_19 : decode cX9_summer 19 = .ok (.ireturn, 1) := by decide +kernel
set_option maxRecDepth 20000 in
theorem ggX9_wipe_X9_isChild : GoodIn wsX9_wipe wsX9_isChild := goodIn_r _ [6, 7, 8, 9, 10, 11, 12, 13, 41, 42, 43, 44, 45, 46, 47, 48, 49, 50, 51, 52, 53, 54, 55, 56, 57] (by decide +kernel) (by decide +kernel)
set_option maxRecDepth 20000 in
theorem gX9_wipe_X9_isChild : GoodIn wsX9_wipe (wsV RX9 80 RX9 yX9_isChild wsX9_isChild) := goodIn_app (goodIn_of _ (by decide +kernel)) ggX9_wipe_X9_isChild
set_option maxRecDepth 20000 in
theorem ggX9_wipe_X9_isSubject : GoodIn wsX9_wipe wsX9_isSubject := goodIn_r _ [16] (by decide +kernel) (by decide +kernel)
set_option maxRecDepth 20000 in
theorem gX9_wipe_X9_isSubject : GoodIn wsX9_wipe (va_wsS RX9 119 yX9_isSubject wsX9_isSubject) := goodIn_app (goodIn_of _ (by decide +kernel)) ggX9_wipe_X9_isSubject
set_option maxRecDepth 20000 in
theorem ggX9_wipe_X4_parts : GoodIn wsX9_wipe wsX4_parts := goodIn_r _ [21, 22, 23, 24, 20, 25, 26, 27, 28, 29, 30, 31, 58, 59, 60, 61, 62, 63, 64] (by decide +kernel) (by decide +kernel)
set_option maxRecDepth 20000 in
theorem gX9_wipe_X4_parts : GoodIn wsX9_wipe (wsV RX9 125 RX4 yX4_parts wsX4_parts) := goodIn_app (goodIn_of _ (by decide +kernel)) ggX9_wipe_X4_parts
set_option maxRecDepth 20000 in
theorem ggX9_wipe_X4_wipeSlate : GoodIn wsX9_wipe wsX4_wipeSlate := goodIn_r _ [35, 22, 36, 23, 24, 20, 25, 37, 38, 39, 29, 40, 31, 58, 59, 60, 61, 62, 63, 64] (by decide +kernel) (by decide +kernel)
set_option maxRecDepth 20000 in
theorem gX9_wipe_X4_wipeSlate : GoodIn wsX9_wipe (wsV RX9 142 RX4 yX4_wipeSlate wsX4_wipeSlate) := goodIn_app (goodIn_of _ (by decide +kernel)) ggX9_wipe_X4_wipeSlate
theorem dX9_wipe_0 : decode cX9_wipe 0 = .ok (.aload_n 0, 1) := by decide +kernel
theorem dX9_wipe_1 : decode cX9_wipe 1 = .ok (.iload_n 1, 1) := by decide +kernel
theorem dX9_wipe_2 : decode cX9_wipe 2 = .ok (.invokevirtual 80, 3) := by decide +kernel
theorem dX9_wipe_5 : decode cX9_wipe 5 = .ok (.ifCond .eq 10, 3) := by decide +kernel
theorem dX9_wipe_8 : decode cX9_wipe 8 = .ok (.iload_n 2, 1) := by decide +kernel
theorem dX9_wipe_9 : decode cX9_wipe 9 = .ok (.invokestatic 119, 3) := by decide +kernel
theorem dX9_wipe_12 : decode cX9_wipe 12 = .ok (.ifCond .ne 6, 3) := by decide +kernel
theorem dX9_wipe_15 : decode cX9_wipe 15 = .ok (.bipush (-101), 2) := by decide +kernel
theorem dX9_wipe_17 : decode cX9_wipe 17 = .ok (.ireturn, 1) := by decide +kernel
theorem dX9_wipe_18 : decode cX9_wipe 18 = .ok (.aload_n 0, 1) := by decide +kernel
theorem dX9_wipe_19 : decode cX9_wipe 19 = .ok (.getfield 28, 3) := by decide +kernel
theorem dX9_wipe_22 : decode cX9_wipe 22 = .ok (.iload_n 1, 1) := by decide +kernel
theorem dX9_wipe_23 : decode cX9_wipe 23 = .ok (.iload_n 2, 1) := by decide +kernel
theorem dX9_wipe_24 : decode cX9_wipe 24 = .ok (.invokevirtual 125, 3) := by decide +kernel
theorem dX9_wipe_27 : decode cX9_wipe 27 = .ok (.istore_n 3, 1) := by decide +kernel
theorem dX9_wipe_28 : decode cX9_wipe 28 = .ok (.aload_n 0, 1) := by decide +kernel
theorem dX9_wipe_29 : decode cX9_wipe 29 = .ok (.getfield 28, 3) := by decide +kernel
theorem dX9_wipe_32 : decode cX9_wipe 32 = .ok (.iload_n 1, 1) := by decide +kernel
theorem dX9_wipe_33 : decode cX9_wipe 33 = .ok (.iload_n 2, 1) := by decide +kernel
theorem dX9_wipe_34 : decode cX9_wipe 34 = .ok (.invokevirtual 142, 3) := by decide +kernel
theorem dX9_wipe_37 : decode cX9_wipe 37 = .ok (.iload_n 3, 1) := by decide +kernel
theorem dX9_wipe_38 : decode cX9_wipe 38 = .ok (.ireturn, 1) := by decide +kernel
set_option maxRecDepth 20000 in
theorem ggX9_order_X9_isEither : GoodIn wsX9_order wsX9_isEither := goodIn_r _ [5] (by decide +kernel) (by decide +kernel)
set_option maxRecDepth 20000 in
theorem gX9_order_X9_isEither : GoodIn wsX9_order (va_wsS RX9 122 yX9_isEither wsX9_isEither) := goodIn_app (goodIn_of _ (by decide +kernel)) ggX9_order_X9_isEither
set_option maxRecDepth 20000 in
theorem ggX9_order_X9_hasSchool : GoodIn wsX9_order wsX9_hasSchool := goodIn_r _ [9, 10, 11, 12, 13, 14, 15, 16, 192, 193, 194, 195, 196, 197, 198, 199, 200, 201, 202, 203, 204, 205, 206, 207, 208] (by decide +kernel) (by decide +kernel)
set_option maxRecDepth 20000 in
theorem gX9_order_X9_hasSchool : GoodIn wsX9_order (wsV RX9 132 RX9 yX9_hasSchool wsX9_hasSchool) := goodIn_app (goodIn_of _ (by decide +kernel)) ggX9_order_X9_hasSchool
set_option maxRecDepth 20000 in
theorem ggX9_order_X9_findBestOrder : GoodIn wsX9_order wsX9_findBestOrder := goodIn_r _ [20, 21, 22, 1, 23, 24, 25, 26, 27, 28, 29, 30, 31, 32, 33, 34, 35, 36, 37, 38, 39, 40, 41, 42, 43, 44, 45, 46, 47, 48, 12, 13, 14, 15, 16, 49, 50, 51, 52, 53, 54, 55, 56, 57, 58, 59, 60, 61, 62, 63, 64, 65, 66, 67, 68, 4, 69, 70, 71, 72, 73, 74, 75, 76, 77, 78, 79, 80, 81, 82, 83, 84, 85, 86, 87, 88, 89, 90, 91, 92, 93, 94, 95, 96, 97, 98, 99, 100, 101, 102, 103, 104, 105, 106, 107, 108, 109, 110, 111, 112, 113, 114, 115, 116, 117, 118, 119, 120, 121, 122, 123, 124, 125, 126, 127, 128, 129, 130, 131, 132, 133, 134, 135, 136, 137, 138, 139, 140, 141, 142, 143, 144, 145, 146, 147, 148, 149, 150, 151, 152, 153, 154, 155, 156, 157, 158, 159, 160, 161, 162, 163, 164, 165, 166, 167, 168, 169, 170, 171, 172, 173, 174, 175, 176, 177, 178, 192, 193, 194, 195, 196, 197, 198, 199, 200, 209, 210, 211, 212, 213, 214, 215, 201, 202, 203, 204, 205, 206, 207, 208] (by decide +kernel) (by decide +kernel)
set_option maxRecDepth 20000 in
theorem gX9_order_X9_findBestOrder : GoodIn wsX9_order (wsV RX9 145 RX9 yX9_findBestOrder wsX9_findBestOrder) := goodIn_app (goodIn_of _ (by decide +kernel)) ggX9_order_X9_findBestOrder
set_option maxRecDepth 20000 in
theorem ggX9_order_X9_isChild : GoodIn wsX9_order wsX9_isChild := goodIn_r _ [182, 10, 11, 12, 13, 14, 15, 16, 192, 193, 194, 195, 196, 197, 198, 199, 200, 201, 202, 203, 204, 205, 206, 207, 208] (by decide +kernel) (by decide +kernel)
set_option maxRecDepth 20000 in
theorem gX9_order_X9_isChild : GoodIn wsX9_order (wsV RX9 80 RX9 yX9_isChild wsX9_isChild) := goodIn_app (goodIn_of _ (by decide +kernel)) ggX9_order_X9_isChild
set_option maxRecDepth 20000 in
theorem ggX9_order_X4_childOn : GoodIn wsX9_order wsX4_childOn := goodIn_r _ [186, 28, 60, 61, 62, 36, 63, 38, 209, 210, 211, 212, 213, 214, 215] (by decide +kernel) (by decide +kernel)
set_option maxRecDepth 20000 in
theorem gX9_order_X4_childOn : GoodIn wsX9_order (wsV RX9 108 RX4 yX4_childOn wsX4_childOn) := goodIn_app (goodIn_of _ (by decide +kernel)) ggX9_order_X4_childOn
set_option maxRecDepth 20000 in
theorem ggX9_order_X4_lastParts : GoodIn wsX9_order wsX4_lastParts := goodIn_r _ [139, 140, 141, 142, 26, 143, 28, 47, 48, 12, 13, 14, 15, 16, 60, 61, 62, 36, 63, 38, 144, 145, 146, 147, 29, 53, 54, 55, 209, 210, 211, 212, 213, 214, 201, 202, 203, 204, 205, 206, 207, 208, 215] (by decide +kernel) (by decide +kernel)
set_option maxRecDepth 20000 in
theorem gX9_order_X4_lastParts : GoodIn wsX9_order (wsV RX9 148 RX4 yX4_lastParts wsX4_lastParts) := goodIn_app (goodIn_of _ (by decide +kernel)) ggX9_order_X4_lastParts
set_option maxRecDepth 20000 in
theorem ggX9_order_X4_lastMistakes : GoodIn wsX9_order wsX4_lastMistakes := goodIn_r _ [191, 140, 141, 142, 26, 143, 28, 47, 48, 12, 13, 14, 15, 16, 60, 61, 62, 36, 63, 38, 148, 149, 150, 151, 30, 53, 54, 55, 155, 156, 157, 158, 159, 160, 161, 209, 210, 211, 212, 213, 214, 201, 202, 203, 204, 205, 206, 207, 208, 215] (by decide +kernel) (by decide +kernel)
set_option maxRecDepth 20000 in
theorem gX9_order_X4_lastMistakes : GoodIn wsX9_order (wsV RX9 151 RX4 yX4_lastMistakes wsX4_lastMistakes) := goodIn_app (goodIn_of _ (by decide +kernel)) ggX9_order_X4_lastMistakes
theorem dX9_order_0 : decode cX9_order 0 = .ok (.iload_n 1, 1) := by decide +kernel
theorem dX9_order_1 : decode cX9_order 1 = .ok (.bipush 10, 2) := by decide +kernel
theorem dX9_order_3 : decode cX9_order 3 = .ok (.if_icmp .lt 13, 3) := by decide +kernel
theorem dX9_order_6 : decode cX9_order 6 = .ok (.iload_n 1, 1) := by decide +kernel
theorem dX9_order_7 : decode cX9_order 7 = .ok (.bipush 16, 2) := by decide +kernel
theorem dX9_order_9 : decode cX9_order 9 = .ok (.if_icmp .ge 7, 3) := by decide +kernel
theorem dX9_order_12 : decode cX9_order 12 = .ok (.iconst 1, 1) := by decide +kernel
theorem dX9_order_13 : decode cX9_order 13 = .ok (.goto 4, 3) := by decide +kernel
theorem dX9_order_16 : decode cX9_order 16 = .ok (.iconst 0, 1) := by decide +kernel
theorem dX9_order_17 : decode cX9_order 17 = .ok (.istore_n 2, 1) := by decide +kernel
theorem dX9_order_18 : decode cX9_order 18 = .ok (.iload_n 1, 1) := by decide +kernel
theorem dX9_order_19 : decode cX9_order 19 = .ok (.invokestatic 122, 3) := by decide +kernel
theorem dX9_order_22 : decode cX9_order 22 = .ok (.ifCond .ne 10, 3) := by decide +kernel
theorem dX9_order_25 : decode cX9_order 25 = .ok (.iload_n 2, 1) := by decide +kernel
theorem dX9_order_26 : decode cX9_order 26 = .ok (.ifCond .ne 6, 3) := by decide +kernel
theorem dX9_order_29 : decode cX9_order 29 = .ok (.bipush (-102), 2) := by decide +kernel
theorem dX9_order_31 : decode cX9_order 31 = .ok (.ireturn, 1) := by decide +kernel
theorem dX9_order_32 : decode cX9_order 32 = .ok (.aload_n 0, 1) := by decide +kernel
theorem dX9_order_33 : decode cX9_order 33 = .ok (.invokevirtual 132, 3) := by decide +kernel
theorem dX9_order_36 : decode cX9_order 36 = .ok (.ifCond .ne 6, 3) := by decide +kernel
theorem dX9_order_39 : decode cX9_order 39 = .ok (.bipush (-103), 2) := by decide +kernel
theorem dX9_order_41 : decode cX9_order 41 = .ok (.ireturn, 1) := by decide +kernel
theorem dX9_order_42 : decode cX9_order 42 = .ok (.aload_n 0, 1) := by decide +kernel
theorem dX9_order_43 : decode cX9_order 43 = .ok (.invokevirtual 145, 3) := by decide +kernel
theorem dX9_order_46 : decode cX9_order 46 = .ok (.iload_n 2, 1) := by decide +kernel
theorem dX9_order_47 : decode cX9_order 47 = .ok (.ifCond .eq 29, 3) := by decide +kernel
theorem dX9_order_50 : decode cX9_order 50 = .ok (.iload_n 1, 1) := by decide +kernel
theorem dX9_order_51 : decode cX9_order 51 = .ok (.bipush 10, 2) := by decide +kernel
theorem dX9_order_53 : decode cX9_order 53 = .ok (.isub, 1) := by decide +kernel
theorem dX9_order_54 : decode cX9_order 54 = .ok (.istore_n 3, 1) := by decide +kernel
theorem dX9_order_55 : decode cX9_order 55 = .ok (.aload_n 0, 1) := by decide +kernel
theorem dX9_order_56 : decode cX9_order 56 = .ok (.iload_n 3, 1) := by decide +kernel
theorem dX9_order_57 : decode cX9_order 57 = .ok (.invokevirtual 80, 3) := by decide +kernel
theorem dX9_order_60 : decode cX9_order 60 = .ok (.ifCond .eq 14, 3) := by decide +kernel
theorem dX9_order_63 : decode cX9_order 63 = .ok (.aload_n 0, 1) := by decide +kernel
theorem dX9_order_64 : decode cX9_order 64 = .ok (.getfield 38, 3) := by decide +kernel
theorem dX9_order_67 : decode cX9_order 67 = .ok (.iload_n 3, 1) := by decide +kernel
theorem dX9_order_68 : decode cX9_order 68 = .ok (.invokevirtual 108, 3) := by decide +kernel
theorem dX9_order_71 : decode cX9_order 71 = .ok (.goto 4, 3) := by decide +kernel
theorem dX9_order_74 : decode cX9_order 74 = .ok (.iconst (-1), 1) := by decide +kernel
theorem dX9_order_75 : decode cX9_order 75 = .ok (.ireturn, 1) := by decide +kernel
theorem dX9_order_76 : decode cX9_order 76 = .ok (.iload_n 1, 1) := by decide +kernel
theorem dX9_order_77 : decode cX9_order 77 = .ok (.ifCond .ne 13, 3) := by decide +kernel
theorem dX9_order_80 : decode cX9_order 80 = .ok (.aload_n 0, 1) := by decide +kernel
theorem dX9_order_81 : decode cX9_order 81 = .ok (.getfield 38, 3) := by decide +kernel
theorem dX9_order_84 : decode cX9_order 84 = .ok (.invokevirtual 148, 3) := by decide +kernel
theorem dX9_order_87 : decode cX9_order 87 = .ok (.goto 10, 3) := by decide +kernel
theorem dX9_order_90 : decode cX9_order 90 = .ok (.aload_n 0, 1) := by decide +kernel
theorem dX9_order_91 : decode cX9_order 91 = .ok (.getfield 38, 3) := by decide +kernel
theorem dX9_order_94 : decode cX9_order 94 = .ok (.invokevirtual 151, 3) := by decide +kernel
theorem dX9_order_97 : decode cX9_order 97 = .ok (.ireturn, 1) := by decide +kernel
set_option maxRecDepth 20000 in
theorem ggX9_songs_X9_isEither : GoodIn wsX9_songs wsX9_isEither := goodIn_r _ [4] (by decide +kernel) (by decide +kernel)
set_option maxRecDepth 20000 in
theorem gX9_songs_X9_isEither : GoodIn wsX9_songs (va_wsS RX9 122 yX9_isEither wsX9_isEither) := goodIn_app (goodIn_of _ (by decide +kernel)) ggX9_songs_X9_isEither
set_option maxRecDepth 20000 in
theorem ggX9_songs_X9_hasSchool : GoodIn wsX9_songs wsX9_hasSchool := goodIn_r _ [8, 9, 10, 11, 12, 13, 14, 15, 145, 146, 147, 148, 149, 150, 151, 152, 153, 154, 155, 156, 157, 158, 159, 160, 161] (by decide +kernel) (by decide +kernel)
set_option maxRecDepth 20000 in
theorem gX9_songs_X9_hasSchool : GoodIn wsX9_songs (wsV RX9 132 RX9 yX9_hasSchool wsX9_hasSchool) := goodIn_app (goodIn_of _ (by decide +kernel)) ggX9_songs_X9_hasSchool
set_option maxRecDepth 20000 in
theorem ggX9_songs_X9_bestSongs : GoodIn wsX9_songs wsX9_bestSongs := goodIn_r _ [19, 20, 21, 22, 3, 23, 24, 25, 26, 27, 28, 29, 30, 31, 32, 33, 34, 35, 36, 37, 38, 39, 40, 41, 42, 43, 44, 45, 46, 47, 48, 49, 50, 51, 52, 53, 54, 11, 12, 13, 14, 15, 55, 56, 57, 58, 59, 60, 61, 62, 63, 64, 65, 66, 67, 68, 69, 70, 71, 72, 73, 74, 75, 76, 77, 78, 79, 80, 81, 82, 83, 84, 85, 86, 87, 88, 89, 90, 91, 92, 93, 94, 95, 96, 97, 98, 99, 100, 101, 102, 103, 104, 105, 106, 107, 108, 109, 110, 111, 112, 113, 114, 115, 116, 117, 118, 119, 120, 121, 122, 123, 124, 125, 126, 127, 128, 129, 130, 131, 132, 133, 134, 135, 136, 137, 138, 139, 140, 9, 141, 142, 143, 144, 145, 146, 147, 148, 149, 150, 151, 152, 153, 162, 163, 164, 165, 166, 167, 168, 154, 155, 156, 157, 158, 159, 160, 161] (by decide +kernel) (by decide +kernel)
set_option maxRecDepth 20000 in
theorem gX9_songs_X9_bestSongs : GoodIn wsX9_songs (wsV RX9 154 RX9 yX9_bestSongs wsX9_bestSongs) := goodIn_app (goodIn_of _ (by decide +kernel)) ggX9_songs_X9_bestSongs
set_option maxRecDepth 20000 in
theorem ggX9_songs_X9_partsAfterSongs : GoodIn wsX9_songs wsX9_partsAfterSongs := goodIn_r _ [23, 24, 25, 26, 27, 28, 29, 30, 31, 32, 33, 34, 35, 36, 37, 38, 39, 40, 41, 42, 43, 44, 45, 46, 47, 3, 48, 49, 50, 51, 52, 53, 54, 11, 12, 13, 14, 15, 55, 56, 57, 58, 59, 60, 61, 62, 63, 64, 65, 66, 67, 68, 69, 70, 71, 72, 73, 74, 75, 76, 77, 78, 79, 80, 81, 82, 83, 84, 85, 86, 87, 88, 89, 90, 91, 92, 93, 94, 95, 96, 97, 98, 99, 100, 101, 102, 103, 104, 105, 106, 107, 108, 109, 110, 111, 112, 113, 114, 115, 116, 117, 118, 119, 120, 121, 122, 123, 124, 125, 126, 127, 128, 129, 130, 131, 132, 133, 134, 135, 136, 145, 146, 147, 148, 149, 150, 151, 152, 153, 162, 163, 164, 165, 166, 167, 168, 154, 155, 156, 157, 158, 159, 160, 161] (by decide +kernel) (by decide +kernel)
set_option maxRecDepth 20000 in
theorem gX9_songs_X9_partsAfterSongs : GoodIn wsX9_songs (wsV RX9 157 RX9 yX9_partsAfterSongs wsX9_partsAfterSongs) := goodIn_app (goodIn_of _ (by decide +kernel)) ggX9_songs_X9_partsAfterSongs
theorem dX9_songs_0 : decode cX9_songs 0 = .ok (.iload_n 1, 1) := by decide +kernel
theorem dX9_songs_1 : decode cX9_songs 1 = .ok (.ifCond .lt 16, 3) := by decide +kernel
theorem dX9_songs_4 : decode cX9_songs 4 = .ok (.iload_n 1, 1) := by decide +kernel
theorem dX9_songs_5 : decode cX9_songs 5 = .ok (.bipush 40, 2) := by decide +kernel
theorem dX9_songs_7 : decode cX9_songs 7 = .ok (.if_icmp .gt 10, 3) := by decide +kernel
theorem dX9_songs_10 : decode cX9_songs 10 = .ok (.iload_n 2, 1) := by decide +kernel
theorem dX9_songs_11 : decode cX9_songs 11 = .ok (.invokestatic 122, 3) := by decide +kernel
theorem dX9_songs_14 : decode cX9_songs 14 = .ok (.ifCond .ne 6, 3) := by decide +kernel
theorem dX9_songs_17 : decode cX9_songs 17 = .ok (.bipush (-102), 2) := by decide +kernel
theorem dX9_songs_19 : decode cX9_songs 19 = .ok (.ireturn, 1) := by decide +kernel
theorem dX9_songs_20 : decode cX9_songs 20 = .ok (.aload_n 0, 1) := by decide +kernel
theorem dX9_songs_21 : decode cX9_songs 21 = .ok (.invokevirtual 132, 3) := by decide +kernel
theorem dX9_songs_24 : decode cX9_songs 24 = .ok (.ifCond .ne 6, 3) := by decide +kernel
theorem dX9_songs_27 : decode cX9_songs 27 = .ok (.bipush (-103), 2) := by decide +kernel
theorem dX9_songs_29 : decode cX9_songs 29 = .ok (.ireturn, 1) := by decide +kernel
theorem dX9_songs_30 : decode cX9_songs 30 = .ok (.aload_n 0, 1) := by decide +kernel
theorem dX9_songs_31 : decode cX9_songs 31 = .ok (.iload_n 1, 1) := by decide +kernel
theorem dX9_songs_32 : decode cX9_songs 32 = .ok (.invokevirtual 154, 3) := by decide +kernel
theorem dX9_songs_35 : decode cX9_songs 35 = .ok (.istore_n 3, 1) := by decide +kernel
theorem dX9_songs_36 : decode cX9_songs 36 = .ok (.iload_n 2, 1) := by decide +kernel
theorem dX9_songs_37 : decode cX9_songs 37 = .ok (.ifCond .ne 7, 3) := by decide +kernel
theorem dX9_songs_40 : decode cX9_songs 40 = .ok (.iload_n 3, 1) := by decide +kernel
theorem dX9_songs_41 : decode cX9_songs 41 = .ok (.goto 8, 3) := by decide +kernel
theorem dX9_songs_44 : decode cX9_songs 44 = .ok (.aload_n 0, 1) := by decide +kernel
theorem dX9_songs_45 : decode cX9_songs 45 = .ok (.iload_n 3, 1) := by decide +kernel
theorem dX9_songs_46 : decode cX9_songs 46 = .ok (.invokevirtual 157, 3) := by decide +kernel
theorem dX9_songs_49 : decode cX9_songs 49 = .ok (.ireturn, 1) := by decide +kernel
set_option maxRecDepth 20000 in
theorem ggX9_asks_X9_isChild : GoodIn wsX9_asks wsX9_isChild := goodIn_r _ [6, 7, 8, 9, 10, 11, 12, 13, 69, 70, 71, 72, 73, 74, 75, 76, 77, 78, 79, 80, 81, 82, 83, 84, 85] (by decide +kernel) (by decide +kernel)
set_option maxRecDepth 20000 in
theorem gX9_asks_X9_isChild : GoodIn wsX9_asks (wsV RX9 80 RX9 yX9_isChild wsX9_isChild) := goodIn_app (goodIn_of _ (by decide +kernel)) ggX9_asks_X9_isChild
set_option maxRecDepth 20000 in
theorem ggX9_asks_X9_isSubject : GoodIn wsX9_asks wsX9_isSubject := goodIn_r _ [16] (by decide +kernel) (by decide +kernel)
set_option maxRecDepth 20000 in
theorem gX9_asks_X9_isSubject : GoodIn wsX9_asks (va_wsS RX9 119 yX9_isSubject wsX9_isSubject) := goodIn_app (goodIn_of _ (by decide +kernel)) ggX9_asks_X9_isSubject
set_option maxRecDepth 20000 in
theorem ggX9_asks_X4_seatOf : GoodIn wsX9_asks wsX4_seatOf := goodIn_r _ [21, 22, 23, 24, 9, 10, 11, 12, 13, 25, 26, 27, 28, 29, 30, 86, 87, 88, 89, 90, 91, 78, 79, 80, 81, 82, 83, 84, 85, 92] (by decide +kernel) (by decide +kernel)
set_option maxRecDepth 20000 in
theorem gX9_asks_X4_seatOf : GoodIn wsX9_asks (wsV RX9 88 RX4 yX4_seatOf wsX4_seatOf) := goodIn_app (goodIn_of _ (by decide +kernel)) ggX9_asks_X4_seatOf
set_option maxRecDepth 20000 in
theorem ggX9_asks_X4_childOn : GoodIn wsX9_asks wsX4_childOn := goodIn_r _ [34, 23, 25, 26, 27, 28, 29, 30, 86, 87, 88, 89, 90, 91, 92] (by decide +kernel) (by decide +kernel)
set_option maxRecDepth 20000 in
theorem gX9_asks_X4_childOn : GoodIn wsX9_asks (wsV RX9 108 RX4 yX4_childOn wsX4_childOn) := goodIn_app (goodIn_of _ (by decide +kernel)) ggX9_asks_X4_childOn
set_option maxRecDepth 20000 in
theorem ggX9_asks_X4_isIll : GoodIn wsX9_asks wsX4_isIll := goodIn_r _ [38, 39, 40, 5, 41, 86, 87, 88, 89, 90, 91] (by decide +kernel) (by decide +kernel)
set_option maxRecDepth 20000 in
theorem gX9_asks_X4_isIll : GoodIn wsX9_asks (wsV RX9 91 RX4 yX4_isIll wsX4_isIll) := goodIn_app (goodIn_of _ (by decide +kernel)) ggX9_asks_X4_isIll
set_option maxRecDepth 20000 in
theorem ggX9_asks_X4_knowsBetter : GoodIn wsX9_asks wsX4_knowsBetter := goodIn_r _ [45, 46, 47, 48, 20, 49, 50, 51, 52, 53, 25, 26, 27, 28, 29, 30, 54, 55, 56, 57, 58, 59, 60, 61, 62, 63, 64, 65, 66, 67, 68, 86, 87, 88, 89, 90, 91, 92] (by decide +kernel) (by decide +kernel)
set_option maxRecDepth 20000 in
theorem gX9_asks_X4_knowsBetter : GoodIn wsX9_asks (wsV RX9 160 RX4 yX4_knowsBetter wsX4_knowsBetter) := goodIn_app (goodIn_of _ (by decide +kernel)) ggX9_asks_X4_knowsBetter
theorem dX9_asks_0 : decode cX9_asks 0 = .ok (.aload_n 0, 1) := by decide +kernel
theorem dX9_asks_1 : decode cX9_asks 1 = .ok (.iload_n 1, 1) := by decide +kernel
theorem dX9_asks_2 : decode cX9_asks 2 = .ok (.invokevirtual 80, 3) := by decide +kernel
theorem dX9_asks_5 : decode cX9_asks 5 = .ok (.ifCond .eq 10, 3) := by decide +kernel
theorem dX9_asks_8 : decode cX9_asks 8 = .ok (.iload_n 2, 1) := by decide +kernel
theorem dX9_asks_9 : decode cX9_asks 9 = .ok (.invokestatic 119, 3) := by decide +kernel
theorem dX9_asks_12 : decode cX9_asks 12 = .ok (.ifCond .ne 6, 3) := by decide +kernel
theorem dX9_asks_15 : decode cX9_asks 15 = .ok (.bipush (-101), 2) := by decide +kernel
theorem dX9_asks_17 : decode cX9_asks 17 = .ok (.ireturn, 1) := by decide +kernel
theorem dX9_asks_18 : decode cX9_asks 18 = .ok (.aload_n 0, 1) := by decide +kernel
theorem dX9_asks_19 : decode cX9_asks 19 = .ok (.getfield 28, 3) := by decide +kernel
theorem dX9_asks_22 : decode cX9_asks 22 = .ok (.iload_n 1, 1) := by decide +kernel
theorem dX9_asks_23 : decode cX9_asks 23 = .ok (.invokevirtual 88, 3) := by decide +kernel
theorem dX9_asks_26 : decode cX9_asks 26 = .ok (.iconst 1, 1) := by decide +kernel
theorem dX9_asks_27 : decode cX9_asks 27 = .ok (.isub, 1) := by decide +kernel
theorem dX9_asks_28 : decode cX9_asks 28 = .ok (.istore_n 3, 1) := by decide +kernel
theorem dX9_asks_29 : decode cX9_asks 29 = .ok (.iload_n 3, 1) := by decide +kernel
theorem dX9_asks_30 : decode cX9_asks 30 = .ok (.ifCond .lt 48, 3) := by decide +kernel
theorem dX9_asks_33 : decode cX9_asks 33 = .ok (.aload_n 0, 1) := by decide +kernel
theorem dX9_asks_34 : decode cX9_asks 34 = .ok (.getfield 28, 3) := by decide +kernel
theorem dX9_asks_37 : decode cX9_asks 37 = .ok (.iload_n 3, 1) := by decide +kernel
theorem dX9_asks_38 : decode cX9_asks 38 = .ok (.invokevirtual 108, 3) := by decide +kernel
theorem dX9_asks_41 : decode cX9_asks 41 = .ok (.istore 4, 2) := by decide +kernel
theorem dX9_asks_43 : decode cX9_asks 43 = .ok (.aload_n 0, 1) := by decide +kernel
theorem dX9_asks_44 : decode cX9_asks 44 = .ok (.getfield 28, 3) := by decide +kernel
theorem dX9_asks_47 : decode cX9_asks 47 = .ok (.iload 4, 2) := by decide +kernel
theorem dX9_asks_49 : decode cX9_asks 49 = .ok (.invokevirtual 91, 3) := by decide +kernel
theorem dX9_asks_52 : decode cX9_asks 52 = .ok (.ifCond .ne 20, 3) := by decide +kernel
theorem dX9_asks_55 : decode cX9_asks 55 = .ok (.aload_n 0, 1) := by decide +kernel
theorem dX9_asks_56 : decode cX9_asks 56 = .ok (.getfield 28, 3) := by decide +kernel
theorem dX9_asks_59 : decode cX9_asks 59 = .ok (.iload 4, 2) := by decide +kernel
theorem dX9_asks_61 : decode cX9_asks 61 = .ok (.iload_n 1, 1) := by decide +kernel
theorem dX9_asks_62 : decode cX9_asks 62 = .ok (.iload_n 2, 1) := by decide +kernel
theorem dX9_asks_63 : decode cX9_asks 63 = .ok (.invokevirtual 160, 3) := by decide +kernel
theorem dX9_asks_66 : decode cX9_asks 66 = .ok (.ifCond .eq 6, 3) := by decide +kernel
theorem dX9_asks_69 : decode cX9_asks 69 = .ok (.iload 4, 2) := by decide +kernel
theorem dX9_asks_71 : decode cX9_asks 71 = .ok (.ireturn, 1) := by decide +kernel
theorem dX9_asks_72 : decode cX9_asks 72 = .ok (.iinc 3 (-1), 3) := by decide +kernel
theorem dX9_asks_75 : decode cX9_asks 75 = .ok (.goto (-46), 3) := by decide +kernel
theorem dX9_asks_78 : decode cX9_asks 78 = .ok (.iconst (-1), 1) := by decide +kernel
theorem dX9_asks_79 : decode cX9_asks 79 = .ok (.ireturn, 1) := by decide +kernel
set_option maxRecDepth 20000 in
theorem ggX9_orders_X9_isChild : GoodIn wsX9_orders wsX9_isChild := goodIn_r _ [6, 1, 7, 8, 9, 10, 11, 12, 151, 152, 153, 154, 155, 156, 157, 158, 159, 160, 161, 162, 163, 164, 165, 166, 167] (by decide +kernel) (by decide +kernel)
set_option maxRecDepth 20000 in
theorem gX9_orders_X9_isChild : GoodIn wsX9_orders (wsV RX9 80 RX9 yX9_isChild wsX9_isChild) := goodIn_app (goodIn_of _ (by decide +kernel)) ggX9_orders_X9_isChild
set_option maxRecDepth 20000 in
theorem ggX9_orders_X5_size : GoodIn wsX9_orders wsX5_size := goodIn_r _ [11, 12, 160, 161, 162, 163, 164, 165, 166, 167] (by decide +kernel) (by decide +kernel)
set_option maxRecDepth 20000 in
theorem gX9_orders_X5_size : GoodIn wsX9_orders (wsV RX9 77 RX5 yX5_size wsX5_size) := goodIn_app (goodIn_of _ (by decide +kernel)) ggX9_orders_X5_size
set_option maxRecDepth 20000 in
theorem ggX9_orders_X9_isEither : GoodIn wsX9_orders wsX9_isEither := goodIn_r _ [15] (by decide +kernel) (by decide +kernel)
set_option maxRecDepth 20000 in
theorem gX9_orders_X9_isEither : GoodIn wsX9_orders (va_wsS RX9 122 yX9_isEither wsX9_isEither) := goodIn_app (goodIn_of _ (by decide +kernel)) ggX9_orders_X9_isEither
set_option maxRecDepth 20000 in
theorem ggX9_orders_X9_countOrders : GoodIn wsX9_orders wsX9_countOrders := goodIn_r _ [19, 20, 21, 22, 23, 24, 25, 26, 27, 28, 29, 8, 9, 10, 11, 12, 30, 31, 32, 33, 34, 35, 36, 37, 38, 39, 40, 41, 42, 43, 44, 45, 46, 47, 48, 49, 50, 51, 52, 53, 54, 55, 56, 57, 58, 59, 60, 61, 62, 63, 64, 65, 66, 67, 68, 69, 70, 71, 5, 72, 73, 74, 75, 76, 77, 78, 79, 80, 81, 82, 83, 84, 85, 86, 87, 88, 89, 90, 91, 92, 93, 94, 95, 96, 97, 98, 99, 100, 101, 102, 103, 104, 105, 106, 107, 108, 109, 110, 111, 112, 113, 114, 115, 116, 117, 118, 119, 120, 121, 122, 123, 124, 125, 126, 127, 128, 129, 130, 131, 132, 133, 134, 135, 136, 137, 138, 139, 140, 141, 142, 143, 144, 145, 146, 147, 148, 149, 150, 151, 152, 153, 154, 155, 156, 157, 158, 159, 168, 169, 170, 171, 172, 173, 160, 161, 162, 163, 164, 165, 166, 167, 174] (by decide +kernel) (by decide +kernel)
set_option maxRecDepth 20000 in
theorem gX9_orders_X9_countOrders : GoodIn wsX9_orders (wsV RX9 164 RX9 yX9_countOrders wsX9_countOrders) := goodIn_app (goodIn_of _ (by decide +kernel)) ggX9_orders_X9_countOrders
theorem dX9_orders_0 : decode cX9_orders 0 = .ok (.aload_n 0, 1) := by decide +kernel
theorem dX9_orders_1 : decode cX9_orders 1 = .ok (.iload_n 1, 1) := by decide +kernel
theorem dX9_orders_2 : decode cX9_orders 2 = .ok (.invokevirtual 80, 3) := by decide +kernel
theorem dX9_orders_5 : decode cX9_orders 5 = .ok (.ifCond .ne 6, 3) := by decide +kernel
theorem dX9_orders_8 : decode cX9_orders 8 = .ok (.bipush (-101), 2) := by decide +kernel
theorem dX9_orders_10 : decode cX9_orders 10 = .ok (.ireturn, 1) := by decide +kernel
theorem dX9_orders_11 : decode cX9_orders 11 = .ok (.iload_n 2, 1) := by decide +kernel
theorem dX9_orders_12 : decode cX9_orders 12 = .ok (.ifCond .lt 23, 3) := by decide +kernel
theorem dX9_orders_15 : decode cX9_orders 15 = .ok (.iload_n 2, 1) := by decide +kernel
theorem dX9_orders_16 : decode cX9_orders 16 = .ok (.iconst 1, 1) := by decide +kernel
theorem dX9_orders_17 : decode cX9_orders 17 = .ok (.aload_n 0, 1) := by decide +kernel
theorem dX9_orders_18 : decode cX9_orders 18 = .ok (.getfield 19, 3) := by decide +kernel
theorem dX9_orders_21 : decode cX9_orders 21 = .ok (.invokevirtual 77, 3) := by decide +kernel
theorem dX9_orders_24 : decode cX9_orders 24 = .ok (.ishl, 1) := by decide +kernel
theorem dX9_orders_25 : decode cX9_orders 25 = .ok (.if_icmp .ge 10, 3) := by decide +kernel
theorem dX9_orders_28 : decode cX9_orders 28 = .ok (.iload_n 3, 1) := by decide +kernel
theorem dX9_orders_29 : decode cX9_orders 29 = .ok (.invokestatic 122, 3) := by decide +kernel
theorem dX9_orders_32 : decode cX9_orders 32 = .ok (.ifCond .ne 6, 3) := by decide +kernel
theorem dX9_orders_35 : decode cX9_orders 35 = .ok (.bipush (-102), 2) := by decide +kernel
theorem dX9_orders_37 : decode cX9_orders 37 = .ok (.ireturn, 1) := by decide +kernel
theorem dX9_orders_38 : decode cX9_orders 38 = .ok (.aload_n 0, 1) := by decide +kernel
theorem dX9_orders_39 : decode cX9_orders 39 = .ok (.iload_n 1, 1) := by decide +kernel
theorem dX9_orders_40 : decode cX9_orders 40 = .ok (.iload_n 2, 1) := by decide +kernel
theorem dX9_orders_41 : decode cX9_orders 41 = .ok (.iload_n 3, 1) := by decide +kernel
theorem dX9_orders_42 : decode cX9_orders 42 = .ok (.iconst 1, 1) := by decide +kernel
theorem dX9_orders_43 : decode cX9_orders 43 = .ok (.if_icmp .ne 7, 3) := by decide +kernel
theorem dX9_orders_46 : decode cX9_orders 46 = .ok (.iconst 1, 1) := by decide +kernel
theorem dX9_orders_47 : decode cX9_orders 47 = .ok (.goto 4, 3) := by decide +kernel
theorem dX9_orders_50 : decode cX9_orders 50 = .ok (.iconst 0, 1) := by decide +kernel
theorem dX9_orders_51 : decode cX9_orders 51 = .ok (.invokevirtual 164, 3) := by decide +kernel
theorem dX9_orders_54 : decode cX9_orders 54 = .ok (.ireturn, 1) := by decide +kernel
set_option maxRecDepth 20000 in
theorem ggX9_tell_X9_isChild : GoodIn wsX9_tell wsX9_isChild := goodIn_r _ [6, 7, 8, 9, 10, 11, 12, 13, 37, 38, 39, 40, 41, 42, 43, 44, 45, 46, 47, 48, 49, 50, 51, 52, 53] (by decide +kernel) (by decide +kernel)
set_option maxRecDepth 20000 in
theorem gX9_tell_X9_isChild : GoodIn wsX9_tell (wsV RX9 80 RX9 yX9_isChild wsX9_isChild) := goodIn_app (goodIn_of _ (by decide +kernel)) ggX9_tell_X9_isChild
set_option maxRecDepth 20000 in
theorem ggX9_tell_X9_isEither : GoodIn wsX9_tell wsX9_isEither := goodIn_r _ [16] (by decide +kernel) (by decide +kernel)
set_option maxRecDepth 20000 in
theorem gX9_tell_X9_isEither : GoodIn wsX9_tell (va_wsS RX9 122 yX9_isEither wsX9_isEither) := goodIn_app (goodIn_of _ (by decide +kernel)) ggX9_tell_X9_isEither
set_option maxRecDepth 20000 in
theorem ggX9_tell_X4_toldOf : GoodIn wsX9_tell wsX4_toldOf := goodIn_r _ [21, 22, 23, 24, 25, 26, 27, 28, 54, 55, 56, 57, 58, 59, 60] (by decide +kernel) (by decide +kernel)
set_option maxRecDepth 20000 in
theorem gX9_tell_X4_toldOf : GoodIn wsX9_tell (wsV RX9 97 RX4 yX4_toldOf wsX4_toldOf) := goodIn_app (goodIn_of _ (by decide +kernel)) ggX9_tell_X4_toldOf
set_option maxRecDepth 20000 in
theorem ggX9_tell_X4_setTold : GoodIn wsX9_tell wsX4_setTold := goodIn_r _ [32, 22, 33, 34, 35, 26, 36, 28, 54, 55, 56, 57, 58, 59, 60] (by decide +kernel) (by decide +kernel)
set_option maxRecDepth 20000 in
theorem gX9_tell_X4_setTold : GoodIn wsX9_tell (wsV RX9 168 RX4 yX4_setTold wsX4_setTold) := goodIn_app (goodIn_of _ (by decide +kernel)) ggX9_tell_X4_setTold
theorem dX9_tell_0 : decode cX9_tell 0 = .ok (.aload_n 0, 1) := by decide +kernel
theorem dX9_tell_1 : decode cX9_tell 1 = .ok (.iload_n 1, 1) := by decide +kernel
theorem dX9_tell_2 : decode cX9_tell 2 = .ok (.invokevirtual 80, 3) := by decide +kernel
theorem dX9_tell_5 : decode cX9_tell 5 = .ok (.ifCond .ne 6, 3) := by decide +kernel
theorem dX9_tell_8 : decode cX9_tell 8 = .ok (.bipush (-101), 2) := by decide +kernel
theorem dX9_tell_10 : decode cX9_tell 10 = .ok (.ireturn, 1) := by decide +kernel
theorem dX9_tell_11 : decode cX9_tell 11 = .ok (.iload_n 2, 1) := by decide +kernel
theorem dX9_tell_12 : decode cX9_tell 12 = .ok (.iconst (-1), 1) := by decide +kernel
theorem dX9_tell_13 : decode cX9_tell 13 = .ok (.if_icmp .eq 13, 3) := by decide +kernel
theorem dX9_tell_16 : decode cX9_tell 16 = .ok (.iload_n 2, 1) := by decide +kernel
theorem dX9_tell_17 : decode cX9_tell 17 = .ok (.invokestatic 122, 3) := by decide +kernel
theorem dX9_tell_20 : decode cX9_tell 20 = .ok (.ifCond .ne 6, 3) := by decide +kernel
theorem dX9_tell_23 : decode cX9_tell 23 = .ok (.bipush (-102), 2) := by decide +kernel
theorem dX9_tell_25 : decode cX9_tell 25 = .ok (.ireturn, 1) := by decide +kernel
theorem dX9_tell_26 : decode cX9_tell 26 = .ok (.aload_n 0, 1) := by decide +kernel
theorem dX9_tell_27 : decode cX9_tell 27 = .ok (.getfield 28, 3) := by decide +kernel
theorem dX9_tell_30 : decode cX9_tell 30 = .ok (.iload_n 1, 1) := by decide +kernel
theorem dX9_tell_31 : decode cX9_tell 31 = .ok (.invokevirtual 97, 3) := by decide +kernel
theorem dX9_tell_34 : decode cX9_tell 34 = .ok (.istore_n 3, 1) := by decide +kernel
theorem dX9_tell_35 : decode cX9_tell 35 = .ok (.aload_n 0, 1) := by decide +kernel
theorem dX9_tell_36 : decode cX9_tell 36 = .ok (.getfield 28, 3) := by decide +kernel
theorem dX9_tell_39 : decode cX9_tell 39 = .ok (.iload_n 1, 1) := by decide +kernel
theorem dX9_tell_40 : decode cX9_tell 40 = .ok (.iload_n 2, 1) := by decide +kernel
theorem dX9_tell_41 : decode cX9_tell 41 = .ok (.invokevirtual 168, 3) := by decide +kernel
theorem dX9_tell_44 : decode cX9_tell 44 = .ok (.iload_n 3, 1) := by decide +kernel
theorem dX9_tell_45 : decode cX9_tell 45 = .ok (.ireturn, 1) := by decide +kernel
set_option maxRecDepth 20000 in
theorem ggX9_sick_X9_isEither : GoodIn wsX9_sick wsX9_isEither := goodIn_r _ [7] (by decide +kernel) (by decide +kernel)
set_option maxRecDepth 20000 in
theorem gX9_sick_X9_isEither : GoodIn wsX9_sick (va_wsS RX9 122 yX9_isEither wsX9_isEither) := goodIn_app (goodIn_of _ (by decide +kernel)) ggX9_sick_X9_isEither
set_option maxRecDepth 20000 in
theorem ggX9_sick_X9_hasSchool : GoodIn wsX9_sick wsX9_hasSchool := goodIn_r _ [11, 1, 12, 13, 14, 15, 16, 17, 140, 141, 142, 143, 144, 145, 146, 147, 148, 149, 150, 151, 152, 153, 154, 155, 156] (by decide +kernel) (by decide +kernel)
set_option maxRecDepth 20000 in
theorem gX9_sick_X9_hasSchool : GoodIn wsX9_sick (wsV RX9 132 RX9 yX9_hasSchool wsX9_hasSchool) := goodIn_app (goodIn_of _ (by decide +kernel)) ggX9_sick_X9_hasSchool
set_option maxRecDepth 20000 in
theorem ggX9_sick_X5_size : GoodIn wsX9_sick wsX5_size := goodIn_r _ [16, 17, 149, 150, 151, 152, 153, 154, 155, 156] (by decide +kernel) (by decide +kernel)
set_option maxRecDepth 20000 in
theorem gX9_sick_X5_size : GoodIn wsX9_sick (wsV RX9 77 RX5 yX5_size wsX5_size) := goodIn_app (goodIn_of _ (by decide +kernel)) ggX9_sick_X5_size
set_option maxRecDepth 20000 in
theorem ggX9_sick_X4_copyFrom : GoodIn wsX9_sick wsX4_copyFrom := goodIn_r _ [22, 23, 24, 25, 26, 27, 28, 29, 30, 31, 32, 33, 34, 35, 36, 37, 157, 158, 159, 160, 161, 162, 163] (by decide +kernel) (by decide +kernel)
set_option maxRecDepth 20000 in
theorem gX9_sick_X4_copyFrom : GoodIn wsX9_sick (wsV RX9 171 RX4 yX4_copyFrom wsX4_copyFrom) := goodIn_app (goodIn_of _ (by decide +kernel)) ggX9_sick_X4_copyFrom
set_option maxRecDepth 20000 in
theorem ggX9_sick_X4_setAllIll : GoodIn wsX9_sick wsX4_setAllIll := goodIn_r _ [41, 27, 157, 158, 159, 160, 161, 162] (by decide +kernel) (by decide +kernel)
set_option maxRecDepth 20000 in
theorem gX9_sick_X4_setAllIll : GoodIn wsX9_sick (wsV RX9 175 RX4 yX4_setAllIll wsX4_setAllIll) := goodIn_app (goodIn_of _ (by decide +kernel)) ggX9_sick_X4_setAllIll
set_option maxRecDepth 20000 in
theorem ggX9_sick_X4_teachFromNothing : GoodIn wsX9_sick wsX4_teachFromNothing := goodIn_r _ [45, 46, 47, 13, 14, 15, 16, 17, 48, 49, 50, 21, 51, 24, 25, 52, 53, 54, 55, 56, 57, 31, 58, 33, 59, 60, 61, 62, 23, 63, 35, 36, 37, 64, 65, 66, 67, 27, 68, 6, 69, 70, 71, 72, 73, 74, 75, 76, 77, 78, 79, 80, 81, 82, 83, 84, 85, 86, 87, 88, 89, 90, 91, 92, 93, 94, 95, 96, 97, 98, 99, 100, 101, 102, 103, 104, 105, 106, 107, 108, 109, 110, 111, 112, 113, 114, 115, 116, 117, 118, 119, 120, 121, 122, 123, 124, 125, 126, 127, 128, 129, 130, 131, 157, 158, 159, 160, 161, 162, 149, 150, 151, 152, 153, 154, 155, 156, 163] (by decide +kernel) (by decide +kernel)
set_option maxRecDepth 20000 in
theorem gX9_sick_X4_teachFromNothing : GoodIn wsX9_sick (wsV RX9 178 RX4 yX4_teachFromNothing wsX4_teachFromNothing) := goodIn_app (goodIn_of _ (by decide +kernel)) ggX9_sick_X4_teachFromNothing
set_option maxRecDepth 20000 in
theorem ggX9_sick_X4_isAsTold : GoodIn wsX9_sick wsX4_isAsTold := goodIn_r _ [135, 46, 26, 47, 13, 14, 15, 16, 17, 136, 137, 138, 21, 139, 24, 52, 53, 54, 63, 35, 36, 31, 37, 33, 157, 158, 159, 160, 161, 162, 149, 150, 151, 152, 153, 154, 155, 156, 163] (by decide +kernel) (by decide +kernel)
set_option maxRecDepth 20000 in
theorem gX9_sick_X4_isAsTold : GoodIn wsX9_sick (wsV RX9 181 RX4 yX4_isAsTold wsX4_isAsTold) := goodIn_app (goodIn_of _ (by decide +kernel)) ggX9_sick_X4_isAsTold
theorem dX9_sick_0 : decode cX9_sick 0 = .ok (.iload_n 1, 1) := by decide +kernel
theorem dX9_sick_1 : decode cX9_sick 1 = .ok (.invokestatic 122, 3) := by decide +kernel
theorem dX9_sick_4 : decode cX9_sick 4 = .ok (.ifCond .ne 6, 3) := by decide +kernel
theorem dX9_sick_7 : decode cX9_sick 7 = .ok (.bipush (-102), 2) := by decide +kernel
theorem dX9_sick_9 : decode cX9_sick 9 = .ok (.ireturn, 1) := by decide +kernel
theorem dX9_sick_10 : decode cX9_sick 10 = .ok (.aload_n 0, 1) := by decide +kernel
theorem dX9_sick_11 : decode cX9_sick 11 = .ok (.invokevirtual 132, 3) := by decide +kernel
theorem dX9_sick_14 : decode cX9_sick 14 = .ok (.ifCond .ne 6, 3) := by decide +kernel
theorem dX9_sick_17 : decode cX9_sick 17 = .ok (.bipush (-103), 2) := by decide +kernel
theorem dX9_sick_19 : decode cX9_sick 19 = .ok (.ireturn, 1) := by decide +kernel
theorem dX9_sick_20 : decode cX9_sick 20 = .ok (.iconst 0, 1) := by decide +kernel
theorem dX9_sick_21 : decode cX9_sick 21 = .ok (.istore_n 2, 1) := by decide +kernel
theorem dX9_sick_22 : decode cX9_sick 22 = .ok (.iconst 1, 1) := by decide +kernel
theorem dX9_sick_23 : decode cX9_sick 23 = .ok (.aload_n 0, 1) := by decide +kernel
theorem dX9_sick_24 : decode cX9_sick 24 = .ok (.getfield 19, 3) := by decide +kernel
theorem dX9_sick_27 : decode cX9_sick 27 = .ok (.invokevirtual 77, 3) := by decide +kernel
theorem dX9_sick_30 : decode cX9_sick 30 = .ok (.ishl, 1) := by decide +kernel
theorem dX9_sick_31 : decode cX9_sick 31 = .ok (.iconst 1, 1) := by decide +kernel
theorem dX9_sick_32 : decode cX9_sick 32 = .ok (.isub, 1) := by decide +kernel
theorem dX9_sick_33 : decode cX9_sick 33 = .ok (.istore_n 3, 1) := by decide +kernel
theorem dX9_sick_34 : decode cX9_sick 34 = .ok (.aload_n 0, 1) := by decide +kernel
theorem dX9_sick_35 : decode cX9_sick 35 = .ok (.getfield 35, 3) := by decide +kernel
theorem dX9_sick_38 : decode cX9_sick 38 = .ok (.aload_n 0, 1) := by decide +kernel
theorem dX9_sick_39 : decode cX9_sick 39 = .ok (.getfield 28, 3) := by decide +kernel
theorem dX9_sick_42 : decode cX9_sick 42 = .ok (.invokevirtual 171, 3) := by decide +kernel
theorem dX9_sick_45 : decode cX9_sick 45 = .ok (.iconst 0, 1) := by decide +kernel
theorem dX9_sick_46 : decode cX9_sick 46 = .ok (.istore 4, 2) := by decide +kernel
theorem dX9_sick_48 : decode cX9_sick 48 = .ok (.iload 4, 2) := by decide +kernel
theorem dX9_sick_50 : decode cX9_sick 50 = .ok (.iconst 1, 1) := by decide +kernel
theorem dX9_sick_51 : decode cX9_sick 51 = .ok (.aload_n 0, 1) := by decide +kernel
theorem dX9_sick_52 : decode cX9_sick 52 = .ok (.getfield 19, 3) := by decide +kernel
theorem dX9_sick_55 : decode cX9_sick 55 = .ok (.invokevirtual 77, 3) := by decide +kernel
theorem dX9_sick_58 : decode cX9_sick 58 = .ok (.ishl, 1) := by decide +kernel
theorem dX9_sick_59 : decode cX9_sick 59 = .ok (.if_icmp .ge 43, 3) := by decide +kernel
theorem dX9_sick_62 : decode cX9_sick 62 = .ok (.aload_n 0, 1) := by decide +kernel
theorem dX9_sick_63 : decode cX9_sick 63 = .ok (.getfield 35, 3) := by decide +kernel
theorem dX9_sick_66 : decode cX9_sick 66 = .ok (.iload 4, 2) := by decide +kernel
theorem dX9_sick_68 : decode cX9_sick 68 = .ok (.invokevirtual 175, 3) := by decide +kernel
theorem dX9_sick_71 : decode cX9_sick 71 = .ok (.aload_n 0, 1) := by decide +kernel
theorem dX9_sick_72 : decode cX9_sick 72 = .ok (.getfield 35, 3) := by decide +kernel
theorem dX9_sick_75 : decode cX9_sick 75 = .ok (.invokevirtual 178, 3) := by decide +kernel
theorem dX9_sick_78 : decode cX9_sick 78 = .ok (.aload_n 0, 1) := by decide +kernel
theorem dX9_sick_79 : decode cX9_sick 79 = .ok (.getfield 35, 3) := by decide +kernel
theorem dX9_sick_82 : decode cX9_sick 82 = .ok (.invokevirtual 181, 3) := by decide +kernel
theorem dX9_sick_85 : decode cX9_sick 85 = .ok (.ifCond .eq 11, 3) := by decide +kernel
theorem dX9_sick_88 : decode cX9_sick 88 = .ok (.iinc 2 1, 3) := by decide +kernel
theorem dX9_sick_91 : decode cX9_sick 91 = .ok (.iload_n 3, 1) := by decide +kernel
theorem dX9_sick_92 : decode cX9_sick 92 = .ok (.iload 4, 2) := by decide +kernel
theorem dX9_sick_94 : decode cX9_sick 94 = .ok (.iand, 1) := by decide +kernel
theorem dX9_sick_95 : decode cX9_sick 95 = .ok (.istore_n 3, 1) := by decide +kernel
theorem dX9_sick_96 : decode cX9_sick 96 = .ok (.iinc 4 1, 3) := by decide +kernel
theorem dX9_sick_99 : decode cX9_sick 99 = .ok (.goto (-51), 3) := by decide +kernel
theorem dX9_sick_102 : decode cX9_sick 102 = .ok (.iload_n 1, 1) := by decide +kernel
theorem dX9_sick_103 : decode cX9_sick 103 = .ok (.ifCond .ne 5, 3) := by decide +kernel
theorem dX9_sick_106 : decode cX9_sick 106 = .ok (.iload_n 2, 1) := by decide +kernel
theorem dX9_sick_107 : decode cX9_sick 107 = .ok (.ireturn, 1) := by decide +kernel
theorem dX9_sick_108 : decode cX9_sick 108 = .ok (.iload_n 2, 1) := by decide +kernel
theorem dX9_sick_109 : decode cX9_sick 109 = .ok (.ifCond .ne 7, 3) := by decide +kernel
theorem dX9_sick_112 : decode cX9_sick 112 = .ok (.iconst 0, 1) := by decide +kernel
theorem dX9_sick_113 : decode cX9_sick 113 = .ok (.goto 4, 3) := by decide +kernel
theorem dX9_sick_116 : decode cX9_sick 116 = .ok (.iload_n 3, 1) := by decide +kernel
theorem dX9_sick_117 : decode cX9_sick 117 = .ok (.ireturn, 1) := by decide +kernel
set_option maxRecDepth 20000 in
theorem ggX9_years_X9_hasSchool : GoodIn wsX9_years wsX9_hasSchool := goodIn_r _ [7, 8, 9, 10, 11, 12, 13, 14, 180, 181, 182, 183, 184, 185, 186, 187, 188, 189, 190, 191, 192, 193, 194, 195, 196] (by decide +kernel) (by decide +kernel)
set_option maxRecDepth 20000 in
theorem gX9_years_X9_hasSchool : GoodIn wsX9_years (wsV RX9 132 RX9 yX9_hasSchool wsX9_hasSchool) := goodIn_app (goodIn_of _ (by decide +kernel)) ggX9_years_X9_hasSchool
set_option maxRecDepth 20000 in
theorem ggX9_years_X4_copyFrom : GoodIn wsX9_years wsX4_copyFrom := goodIn_r _ [19, 20, 21, 22, 23, 24, 25, 26, 27, 28, 29, 30, 31, 32, 33, 34, 197, 198, 199, 200, 201, 202, 203] (by decide +kernel) (by decide +kernel)
set_option maxRecDepth 20000 in
theorem gX9_years_X4_copyFrom : GoodIn wsX9_years (wsV RX9 171 RX4 yX4_copyFrom wsX4_copyFrom) := goodIn_app (goodIn_of _ (by decide +kernel)) ggX9_years_X4_copyFrom
set_option maxRecDepth 20000 in
theorem ggX9_years_X9_tryYears : GoodIn wsX9_years wsX9_tryYears := goodIn_r _ [38, 1, 8, 39, 40, 6, 41, 42, 43, 44, 45, 46, 47, 48, 49, 50, 51, 18, 52, 53, 20, 21, 22, 54, 10, 11, 12, 13, 14, 55, 32, 33, 28, 34, 30, 56, 57, 58, 59, 24, 60, 61, 62, 63, 64, 65, 66, 67, 68, 69, 70, 71, 72, 73, 74, 75, 76, 77, 78, 79, 80, 81, 82, 83, 84, 85, 86, 87, 88, 89, 90, 91, 92, 93, 94, 95, 96, 97, 98, 99, 100, 101, 102, 103, 104, 105, 106, 107, 108, 109, 110, 111, 112, 113, 114, 115, 116, 117, 118, 119, 120, 121, 122, 123, 124, 125, 126, 127, 128, 129, 130, 131, 132, 133, 134, 135, 136, 137, 138, 139, 140, 141, 142, 143, 144, 145, 146, 147, 148, 149, 150, 151, 152, 9, 153, 154, 155, 156, 180, 181, 182, 183, 184, 185, 186, 187, 188, 197, 198, 199, 200, 201, 202, 189, 190, 191, 192, 193, 194, 195, 196, 203] (by decide +kernel) (by decide +kernel)
set_option maxRecDepth 20000 in
theorem gX9_years_X9_tryYears : GoodIn wsX9_years (wsV RX9 184 RX9 yX9_tryYears wsX9_tryYears) := goodIn_app (goodIn_of _ (by decide +kernel)) ggX9_years_X9_tryYears
set_option maxRecDepth 20000 in
theorem ggX9_years_X4_partsOfAll : GoodIn wsX9_years wsX4_partsOfAll := goodIn_r _ [160, 21, 161, 162, 163, 28, 164, 30, 197, 198, 199, 200, 201, 202, 203] (by decide +kernel) (by decide +kernel)
set_option maxRecDepth 20000 in
theorem gX9_years_X4_partsOfAll : GoodIn wsX9_years (wsV RX9 188 RX4 yX4_partsOfAll wsX4_partsOfAll) := goodIn_app (goodIn_of _ (by decide +kernel)) ggX9_years_X4_partsOfAll
set_option maxRecDepth 20000 in
theorem ggX9_years_X4_mistakesOfAll : GoodIn wsX9_years wsX4_mistakesOfAll := goodIn_r _ [168, 22, 169, 170, 171, 28, 172, 30, 173, 174, 175, 176, 177, 178, 179, 197, 198, 199, 200, 201, 202, 203] (by decide +kernel) (by decide +kernel)
set_option maxRecDepth 20000 in
theorem gX9_years_X4_mistakesOfAll : GoodIn wsX9_years (wsV RX9 191 RX4 yX4_mistakesOfAll wsX4_mistakesOfAll) := goodIn_app (goodIn_of _ (by decide +kernel)) ggX9_years_X4_mistakesOfAll
theorem dX9_years_0 : decode cX9_years 0 = .ok (.iload_n 1, 1) := by decide +kernel
theorem dX9_years_1 : decode cX9_years 1 = .ok (.iconst 1, 1) := by decide +kernel
theorem dX9_years_2 : decode cX9_years 2 = .ok (.if_icmp .lt 22, 3) := by decide +kernel
theorem dX9_years_5 : decode cX9_years 5 = .ok (.iload_n 1, 1) := by decide +kernel
theorem dX9_years_6 : decode cX9_years 6 = .ok (.bipush 60, 2) := by decide +kernel
theorem dX9_years_8 : decode cX9_years 8 = .ok (.if_icmp .gt 16, 3) := by decide +kernel
theorem dX9_years_11 : decode cX9_years 11 = .ok (.iload_n 2, 1) := by decide +kernel
theorem dX9_years_12 : decode cX9_years 12 = .ok (.ifCond .lt 12, 3) := by decide +kernel
theorem dX9_years_15 : decode cX9_years 15 = .ok (.iload_n 3, 1) := by decide +kernel
theorem dX9_years_16 : decode cX9_years 16 = .ok (.ifCond .lt 8, 3) := by decide +kernel
theorem dX9_years_19 : decode cX9_years 19 = .ok (.iload_n 3, 1) := by decide +kernel
theorem dX9_years_20 : decode cX9_years 20 = .ok (.iconst 2, 1) := by decide +kernel
theorem dX9_years_21 : decode cX9_years 21 = .ok (.if_icmp .le 6, 3) := by decide +kernel
theorem dX9_years_24 : decode cX9_years 24 = .ok (.bipush (-102), 2) := by decide +kernel
theorem dX9_years_26 : decode cX9_years 26 = .ok (.ireturn, 1) := by decide +kernel
theorem dX9_years_27 : decode cX9_years 27 = .ok (.aload_n 0, 1) := by decide +kernel
theorem dX9_years_28 : decode cX9_years 28 = .ok (.invokevirtual 132, 3) := by decide +kernel
theorem dX9_years_31 : decode cX9_years 31 = .ok (.ifCond .ne 6, 3) := by decide +kernel
theorem dX9_years_34 : decode cX9_years 34 = .ok (.bipush (-103), 2) := by decide +kernel
theorem dX9_years_36 : decode cX9_years 36 = .ok (.ireturn, 1) := by decide +kernel
theorem dX9_years_37 : decode cX9_years 37 = .ok (.aload_n 0, 1) := by decide +kernel
theorem dX9_years_38 : decode cX9_years 38 = .ok (.getfield 35, 3) := by decide +kernel
theorem dX9_years_41 : decode cX9_years 41 = .ok (.aload_n 0, 1) := by decide +kernel
theorem dX9_years_42 : decode cX9_years 42 = .ok (.getfield 28, 3) := by decide +kernel
theorem dX9_years_45 : decode cX9_years 45 = .ok (.invokevirtual 171, 3) := by decide +kernel
theorem dX9_years_48 : decode cX9_years 48 = .ok (.aload_n 0, 1) := by decide +kernel
theorem dX9_years_49 : decode cX9_years 49 = .ok (.iload_n 1, 1) := by decide +kernel
theorem dX9_years_50 : decode cX9_years 50 = .ok (.iload_n 2, 1) := by decide +kernel
theorem dX9_years_51 : decode cX9_years 51 = .ok (.i2l, 1) := by decide +kernel
theorem dX9_years_52 : decode cX9_years 52 = .ok (.invokevirtual 184, 3) := by decide +kernel
theorem dX9_years_55 : decode cX9_years 55 = .ok (.lstore 4, 2) := by decide +kernel
theorem dX9_years_57 : decode cX9_years 57 = .ok (.iload_n 3, 1) := by decide +kernel
theorem dX9_years_58 : decode cX9_years 58 = .ok (.ifCond .ne 11, 3) := by decide +kernel
theorem dX9_years_61 : decode cX9_years 61 = .ok (.aload_n 0, 1) := by decide +kernel
theorem dX9_years_62 : decode cX9_years 62 = .ok (.getfield 35, 3) := by decide +kernel
theorem dX9_years_65 : decode cX9_years 65 = .ok (.invokevirtual 188, 3) := by decide +kernel
theorem dX9_years_68 : decode cX9_years 68 = .ok (.ireturn, 1) := by decide +kernel
theorem dX9_years_69 : decode cX9_years 69 = .ok (.iload_n 3, 1) := by decide +kernel
theorem dX9_years_70 : decode cX9_years 70 = .ok (.iconst 1, 1) := by decide +kernel
theorem dX9_years_71 : decode cX9_years 71 = .ok (.if_icmp .ne 13, 3) := by decide +kernel
theorem dX9_years_74 : decode cX9_years 74 = .ok (.aload_n 0, 1) := by decide +kernel
theorem dX9_years_75 : decode cX9_years 75 = .ok (.getfield 35, 3) := by decide +kernel
theorem dX9_years_78 : decode cX9_years 78 = .ok (.invokevirtual 191, 3) := by decide +kernel
theorem dX9_years_81 : decode cX9_years 81 = .ok (.goto 6, 3) := by decide +kernel
theorem dX9_years_84 : decode cX9_years 84 = .ok (.lload 4, 2) := by decide +kernel
theorem dX9_years_86 : decode cX9_years 86 = .ok (.l2i, 1) := by decide +kernel
theorem dX9_years_87 : decode cX9_years 87 = .ok (.ireturn, 1) := by decide +kernel
set_option maxRecDepth 20000 in
theorem ggX9_image_X9_hasSchool : GoodIn wsX9_image wsX9_hasSchool := goodIn_r _ [9, 4, 10, 11, 12, 13, 14, 15, 36, 37, 38, 39, 40, 41, 42, 43, 44, 45, 46, 47, 48, 49, 50, 51, 52] (by decide +kernel) (by decide +kernel)
set_option maxRecDepth 20000 in
theorem gX9_image_X9_hasSchool : GoodIn wsX9_image (wsV RX9 132 RX9 yX9_hasSchool wsX9_hasSchool) := goodIn_app (goodIn_of _ (by decide +kernel)) ggX9_image_X9_hasSchool
set_option maxRecDepth 20000 in
theorem ggX9_image_X4_copyFrom : GoodIn wsX9_image wsX4_copyFrom := goodIn_r _ [20, 21, 22, 23, 24, 25, 26, 27, 28, 29, 30, 31, 32, 33, 34, 35, 53, 54, 55, 56, 57, 58, 59] (by decide +kernel) (by decide +kernel)
set_option maxRecDepth 20000 in
theorem gX9_image_X4_copyFrom : GoodIn wsX9_image (wsV RX9 171 RX4 yX4_copyFrom wsX4_copyFrom) := goodIn_app (goodIn_of _ (by decide +kernel)) ggX9_image_X4_copyFrom
set_option maxRecDepth 20000 in
theorem ggX9_image_X5_size : GoodIn wsX9_image wsX5_size := goodIn_r _ [14, 15, 45, 46, 47, 48, 49, 50, 51, 52] (by decide +kernel) (by decide +kernel)
set_option maxRecDepth 20000 in
theorem gX9_image_X5_size : GoodIn wsX9_image (wsV RX9 77 RX5 yX5_size wsX5_size) := goodIn_app (goodIn_of _ (by decide +kernel)) ggX9_image_X5_size
theorem dX9_image_0 : decode cX9_image 0 = .ok (.aload_n 0, 1) := by decide +kernel
theorem dX9_image_1 : decode cX9_image 1 = .ok (.invokevirtual 132, 3) := by decide +kernel
theorem dX9_image_4 : decode cX9_image 4 = .ok (.ifCond .ne 6, 3) := by decide +kernel
theorem dX9_image_7 : decode cX9_image 7 = .ok (.bipush (-103), 2) := by decide +kernel
theorem dX9_image_9 : decode cX9_image 9 = .ok (.ireturn, 1) := by decide +kernel
theorem dX9_image_10 : decode cX9_image 10 = .ok (.aload_n 0, 1) := by decide +kernel
theorem dX9_image_11 : decode cX9_image 11 = .ok (.getfield 32, 3) := by decide +kernel
theorem dX9_image_14 : decode cX9_image 14 = .ok (.aload_n 0, 1) := by decide +kernel
theorem dX9_image_15 : decode cX9_image 15 = .ok (.getfield 28, 3) := by decide +kernel
theorem dX9_image_18 : decode cX9_image 18 = .ok (.invokevirtual 171, 3) := by decide +kernel
theorem dX9_image_21 : decode cX9_image 21 = .ok (.aload_n 0, 1) := by decide +kernel
theorem dX9_image_22 : decode cX9_image 22 = .ok (.iconst 1, 1) := by decide +kernel
theorem dX9_image_23 : decode cX9_image 23 = .ok (.putfield 66, 3) := by decide +kernel
theorem dX9_image_26 : decode cX9_image 26 = .ok (.aload_n 0, 1) := by decide +kernel
theorem dX9_image_27 : decode cX9_image 27 = .ok (.getfield 19, 3) := by decide +kernel
theorem dX9_image_30 : decode cX9_image 30 = .ok (.invokevirtual 77, 3) := by decide +kernel
theorem dX9_image_33 : decode cX9_image 33 = .ok (.ireturn, 1) := by decide +kernel
set_option maxRecDepth 20000 in
theorem ggX9_restore_X4_copyFrom : GoodIn wsX9_restore wsX4_copyFrom := goodIn_r _ [9, 10, 11, 12, 13, 14, 15, 16, 17, 18, 19, 20, 21, 22, 23, 24, 40, 41, 42, 43, 44, 45, 46] (by decide +kernel) (by decide +kernel)
set_option maxRecDepth 20000 in
theorem gX9_restore_X4_copyFrom : GoodIn wsX9_restore (wsV RX9 171 RX4 yX4_copyFrom wsX4_copyFrom) := goodIn_app (goodIn_of _ (by decide +kernel)) ggX9_restore_X4_copyFrom
set_option maxRecDepth 20000 in
theorem ggX9_restore_X5_size : GoodIn wsX9_restore wsX5_size := goodIn_r _ [29, 30, 47, 48, 49, 50, 51, 52, 53, 54] (by decide +kernel) (by decide +kernel)
set_option maxRecDepth 20000 in
theorem gX9_restore_X5_size : GoodIn wsX9_restore (wsV RX9 77 RX5 yX5_size wsX5_size) := goodIn_app (goodIn_of _ (by decide +kernel)) ggX9_restore_X5_size
theorem dX9_restore_0 : decode cX9_restore 0 = .ok (.aload_n 0, 1) := by decide +kernel
theorem dX9_restore_1 : decode cX9_restore 1 = .ok (.getfield 66, 3) := by decide +kernel
theorem dX9_restore_4 : decode cX9_restore 4 = .ok (.ifCond .ne 6, 3) := by decide +kernel
theorem dX9_restore_7 : decode cX9_restore 7 = .ok (.bipush (-103), 2) := by decide +kernel
theorem dX9_restore_9 : decode cX9_restore 9 = .ok (.ireturn, 1) := by decide +kernel
theorem dX9_restore_10 : decode cX9_restore 10 = .ok (.aload_n 0, 1) := by decide +kernel
theorem dX9_restore_11 : decode cX9_restore 11 = .ok (.getfield 28, 3) := by decide +kernel
theorem dX9_restore_14 : decode cX9_restore 14 = .ok (.aload_n 0, 1) := by decide +kernel
theorem dX9_restore_15 : decode cX9_restore 15 = .ok (.getfield 32, 3) := by decide +kernel
theorem dX9_restore_18 : decode cX9_restore 18 = .ok (.invokevirtual 171, 3) := by decide +kernel
theorem dX9_restore_21 : decode cX9_restore 21 = .ok (.aload_n 0, 1) := by decide +kernel
theorem dX9_restore_22 : decode cX9_restore 22 = .ok (.getfield 19, 3) := by decide +kernel
theorem dX9_restore_25 : decode cX9_restore 25 = .ok (.invokevirtual 77, 3) := by decide +kernel
theorem dX9_restore_28 : decode cX9_restore 28 = .ok (.ireturn, 1) := by decide +kernel
set_option maxRecDepth 20000 in
theorem ggX9_count_X5_digit : GoodIn wsX9_count wsX5_digit := goodIn_r _ [9, 10, 11, 12, 13, 14, 15, 16, 69, 70, 71, 72, 73, 74, 75, 76, 77] (by decide +kernel) (by decide +kernel)
set_option maxRecDepth 20000 in
theorem gX9_count_X5_digit : GoodIn wsX9_count (wsV RX9 194 RX5 yX5_digit wsX5_digit) := goodIn_app (goodIn_of _ (by decide +kernel)) ggX9_count_X5_digit
set_option maxRecDepth 20000 in
theorem ggX9_count_X5_size : GoodIn wsX9_count wsX5_size := goodIn_r _ [20, 21, 69, 70, 71, 72, 73, 74, 75, 76] (by decide +kernel) (by decide +kernel)
set_option maxRecDepth 20000 in
theorem gX9_count_X5_size : GoodIn wsX9_count (wsV RX9 77 RX5 yX5_size wsX5_size) := goodIn_app (goodIn_of _ (by decide +kernel)) ggX9_count_X5_size
set_option maxRecDepth 20000 in
theorem ggX9_count_X4_illOnes : GoodIn wsX9_count wsX4_illOnes := goodIn_r _ [26, 27, 28, 29, 30, 31, 32, 33, 34, 78, 79, 80, 81, 82, 83] (by decide +kernel) (by decide +kernel)
set_option maxRecDepth 20000 in
theorem gX9_count_X4_illOnes : GoodIn wsX9_count (wsV RX9 197 RX4 yX4_illOnes wsX4_illOnes) := goodIn_app (goodIn_of _ (by decide +kernel)) ggX9_count_X4_illOnes
