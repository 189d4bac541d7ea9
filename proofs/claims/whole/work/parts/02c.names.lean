theorem dX4_sitInNextOrder_121 : decode cX4_sitInNextOrder 121 = .ok (.iconst 1, 1) := by decide +kernel
theorem dX4_sitInNextOrder_122 : decode cX4_sitInNextOrder 122 = .ok (.ireturn, 1) := by decide +kernel
set_option maxRecDepth 20000 in
theorem ggX4_isIll_X9_isIn : GoodIn wsX4_isIll wsX9_isIn := goodIn_r _ [4] (by decide +kernel) (by decide +kernel)
set_option maxRecDepth 20000 in
theorem gX4_isIll_X9_isIn_n61 : GoodIn wsX4_isIll (wsX9_isIn) := ggX4_isIll_X9_isIn
theorem dX4_isIll_0 : decode cX4_isIll 0 = .ok (.aload_n 0, 1) := by decide +kernel
theorem dX4_isIll_1 : decode cX4_isIll 1 = .ok (.getfield 40, 3) := by decide +kernel
theorem dX4_isIll_4 : decode cX4_isIll 4 = .ok (.iload_n 1, 1) := by decide +kernel
theorem dX4_isIll_5 : decode cX4_isIll 5 = .ok (.invokestatic 61, 3) := by decide +kernel
theorem dX4_isIll_8 : decode cX4_isIll 8 = .ok (.ireturn, 1) := by decide +kernel
theorem dX4_setIll_0 : decode cX4_setIll 0 = .ok (.aload_n 0, 1) := by decide +kernel
theorem dX4_setIll_1 : decode cX4_setIll 1 = .ok (.iload_n 2, 1) := by decide +kernel
theorem dX4_setIll_2 : decode cX4_setIll 2 = .ok (.ifCond .eq 14, 3) := by decide +kernel
theorem dX4_setIll_5 : decode cX4_setIll 5 = .ok (.aload_n 0, 1) := by decide +kernel
theorem dX4_setIll_6 : decode cX4_setIll 6 = .ok (.getfield 40, 3) := by decide +kernel
theorem dX4_setIll_9 : decode cX4_setIll 9 = .ok (.iconst 1, 1) := by decide +kernel
theorem dX4_setIll_10 : decode cX4_setIll 10 = .ok (.iload_n 1, 1) := by decide +kernel
theorem dX4_setIll_11 : decode cX4_setIll 11 = .ok (.ishl, 1) := by decide +kernel
theorem dX4_setIll_12 : decode cX4_setIll 12 = .ok (.ior, 1) := by decide +kernel
theorem dX4_setIll_13 : decode cX4_setIll 13 = .ok (.goto 13, 3) := by decide +kernel
theorem dX4_setIll_16 : decode cX4_setIll 16 = .ok (.aload_n 0, 1) := by decide +kernel
theorem dX4_setIll_17 : decode cX4_setIll 17 = .ok (.getfield 40, 3) := by decide +kernel
theorem dX4_setIll_20 : decode cX4_setIll 20 = .ok (.iconst 1, 1) := by decide +kernel
theorem dX4_setIll_21 : decode cX4_setIll 21 = .ok (.iload_n 1, 1) := by decide +kernel
theorem dX4_setIll_22 : decode cX4_setIll 22 = .ok (.ishl, 1) := by decide +kernel
theorem dX4_setIll_23 : decode cX4_setIll 23 = .ok (.iconst (-1), 1) := by decide +kernel
theorem dX4_setIll_24 : decode cX4_setIll 24 = .ok (.ixor, 1) := by decide +kernel
theorem dX4_setIll_25 : decode cX4_setIll 25 = .ok (.iand, 1) := by decide +kernel
theorem dX4_setIll_26 : decode cX4_setIll 26 = .ok (.putfield 40, 3) := by decide +kernel
theorem dX4_setIll_29 : decode cX4_setIll 29 = .ok (.return_, 1) := by decide +kernel
theorem dX4_setAllIll_0 : decode cX4_setAllIll 0 = .ok (.aload_n 0, 1) := by decide +kernel
theorem dX4_setAllIll_1 : decode cX4_setAllIll 1 = .ok (.iload_n 1, 1) := by decide +kernel
theorem dX4_setAllIll_2 : decode cX4_setAllIll 2 = .ok (.putfield 40, 3) := by decide +kernel
theorem dX4_setAllIll_5 : decode cX4_setAllIll 5 = .ok (.return_, 1) := by decide +kernel
set_option maxRecDepth 20000 in
theorem ggX4_illOnes_J6_bitCount_0f7a4 : GoodIn wsX4_illOnes wsJ6_bitCount_0f7a4 := goodIn_r _ [5, 6, 7, 8] (by decide +kernel) (by decide +kernel)
set_option maxRecDepth 20000 in
theorem gX4_illOnes_J6_bitCount_0f7a4 : GoodIn wsX4_illOnes (va_wsS RX4 65 yJ6_bitCount_0f7a4 wsJ6_bitCount_0f7a4) := goodIn_app (goodIn_of _ (by decide +kernel)) ggX4_illOnes_J6_bitCount_0f7a4
theorem dX4_illOnes_0 : decode cX4_illOnes 0 = .ok (.aload_n 0, 1) := by decide +kernel
theorem dX4_illOnes_1 : decode cX4_illOnes 1 = .ok (.getfield 40, 3) := by decide +kernel
theorem dX4_illOnes_4 : decode cX4_illOnes 4 = .ok (.invokestatic 65, 3) := by decide +kernel
theorem dX4_illOnes_7 : decode cX4_illOnes 7 = .ok (.ireturn, 1) := by decide +kernel
set_option maxRecDepth 20000 in
theorem ggX4_toldOf_X0_at : GoodIn wsX4_toldOf wsX0_at := goodIn_r _ [6, 7, 14] (by decide +kernel) (by decide +kernel)
set_option maxRecDepth 20000 in
theorem gX4_toldOf_X0_at : GoodIn wsX4_toldOf (wsV RX4 48 RX0 yX0_at wsX0_at) := goodIn_app (goodIn_of _ (by decide +kernel)) ggX4_toldOf_X0_at
theorem dX4_toldOf_0 : decode cX4_toldOf 0 = .ok (.aload_n 0, 1) := by decide +kernel
theorem dX4_toldOf_1 : decode cX4_toldOf 1 = .ok (.getfield 26, 3) := by decide +kernel
theorem dX4_toldOf_4 : decode cX4_toldOf 4 = .ok (.iload_n 1, 1) := by decide +kernel
theorem dX4_toldOf_5 : decode cX4_toldOf 5 = .ok (.invokevirtual 48, 3) := by decide +kernel
theorem dX4_toldOf_8 : decode cX4_toldOf 8 = .ok (.ireturn, 1) := by decide +kernel
set_option maxRecDepth 20000 in
theorem ggX4_setTold_X0_put : GoodIn wsX4_setTold wsX0_put := goodIn_r _ [6, 7, 14] (by decide +kernel) (by decide +kernel)
set_option maxRecDepth 20000 in
theorem gX4_setTold_X0_put : GoodIn wsX4_setTold (wsV RX4 33 RX0 yX0_put wsX0_put) := goodIn_app (goodIn_of _ (by decide +kernel)) ggX4_setTold_X0_put
theorem dX4_setTold_0 : decode cX4_setTold 0 = .ok (.aload_n 0, 1) := by decide +kernel
theorem dX4_setTold_1 : decode cX4_setTold 1 = .ok (.getfield 26, 3) := by decide +kernel
theorem dX4_setTold_4 : decode cX4_setTold 4 = .ok (.iload_n 1, 1) := by decide +kernel
theorem dX4_setTold_5 : decode cX4_setTold 5 = .ok (.iload_n 2, 1) := by decide +kernel
theorem dX4_setTold_6 : decode cX4_setTold 6 = .ok (.invokevirtual 33, 3) := by decide +kernel
theorem dX4_setTold_9 : decode cX4_setTold 9 = .ok (.return_, 1) := by decide +kernel
set_option maxRecDepth 20000 in
theorem ggX4_isAsTold_X5_size : GoodIn wsX4_isAsTold wsX5_size := goodIn_r _ [7, 8, 30, 31, 32, 33, 34, 35, 36, 37] (by decide +kernel) (by decide +kernel)
set_option maxRecDepth 20000 in
theorem gX4_isAsTold_X5_size : GoodIn wsX4_isAsTold (wsV RX4 52 RX5 yX5_size wsX5_size) := goodIn_app (goodIn_of _ (by decide +kernel)) ggX4_isAsTold_X5_size
set_option maxRecDepth 20000 in
theorem ggX4_isAsTold_X4_parts : GoodIn wsX4_isAsTold wsX4_parts := goodIn_r _ [13, 14, 15, 16, 12, 17, 18, 19, 20, 21, 22, 23, 24, 25, 26, 27, 28, 29, 38] (by decide +kernel) (by decide +kernel)
set_option maxRecDepth 20000 in
theorem gX4_isAsTold_X4_parts : GoodIn wsX4_isAsTold (wsV RX4 70 RX4 yX4_parts wsX4_parts) := goodIn_app (goodIn_of _ (by decide +kernel)) ggX4_isAsTold_X4_parts
set_option maxRecDepth 20000 in
theorem ggX4_isAsTold_X0_at : GoodIn wsX4_isAsTold wsX0_at := goodIn_r _ [22, 23, 38] (by decide +kernel) (by decide +kernel)
set_option maxRecDepth 20000 in
theorem gX4_isAsTold_X0_at : GoodIn wsX4_isAsTold (wsV RX4 48 RX0 yX0_at wsX0_at) := goodIn_app (goodIn_of _ (by decide +kernel)) ggX4_isAsTold_X0_at
theorem dX4_isAsTold_0 : decode cX4_isAsTold 0 = .ok (.iconst 0, 1) := by decide +kernel
theorem dX4_isAsTold_1 : decode cX4_isAsTold 1 = .ok (.istore_n 1, 1) := by decide +kernel
theorem dX4_isAsTold_2 : decode cX4_isAsTold 2 = .ok (.iload_n 1, 1) := by decide +kernel
theorem dX4_isAsTold_3 : decode cX4_isAsTold 3 = .ok (.aload_n 0, 1) := by decide +kernel
theorem dX4_isAsTold_4 : decode cX4_isAsTold 4 = .ok (.getfield 29, 3) := by decide +kernel
theorem dX4_isAsTold_7 : decode cX4_isAsTold 7 = .ok (.invokevirtual 52, 3) := by decide +kernel
theorem dX4_isAsTold_10 : decode cX4_isAsTold 10 = .ok (.if_icmp .ge 50, 3) := by decide +kernel
theorem dX4_isAsTold_13 : decode cX4_isAsTold 13 = .ok (.aload_n 0, 1) := by decide +kernel
theorem dX4_isAsTold_14 : decode cX4_isAsTold 14 = .ok (.iload_n 1, 1) := by decide +kernel
theorem dX4_isAsTold_15 : decode cX4_isAsTold 15 = .ok (.iconst 0, 1) := by decide +kernel
theorem dX4_isAsTold_16 : decode cX4_isAsTold 16 = .ok (.invokevirtual 70, 3) := by decide +kernel
theorem dX4_isAsTold_19 : decode cX4_isAsTold 19 = .ok (.ifCond .le 7, 3) := by decide +kernel
theorem dX4_isAsTold_22 : decode cX4_isAsTold 22 = .ok (.iconst 1, 1) := by decide +kernel
theorem dX4_isAsTold_23 : decode cX4_isAsTold 23 = .ok (.goto 4, 3) := by decide +kernel
theorem dX4_isAsTold_26 : decode cX4_isAsTold 26 = .ok (.iconst 0, 1) := by decide +kernel
theorem dX4_isAsTold_27 : decode cX4_isAsTold 27 = .ok (.istore_n 2, 1) := by decide +kernel
theorem dX4_isAsTold_28 : decode cX4_isAsTold 28 = .ok (.aload_n 0, 1) := by decide +kernel
theorem dX4_isAsTold_29 : decode cX4_isAsTold 29 = .ok (.getfield 26, 3) := by decide +kernel
theorem dX4_isAsTold_32 : decode cX4_isAsTold 32 = .ok (.iload_n 1, 1) := by decide +kernel
theorem dX4_isAsTold_33 : decode cX4_isAsTold 33 = .ok (.invokevirtual 48, 3) := by decide +kernel
theorem dX4_isAsTold_36 : decode cX4_isAsTold 36 = .ok (.iconst (-1), 1) := by decide +kernel
theorem dX4_isAsTold_37 : decode cX4_isAsTold 37 = .ok (.if_icmp .eq 17, 3) := by decide +kernel
theorem dX4_isAsTold_40 : decode cX4_isAsTold 40 = .ok (.aload_n 0, 1) := by decide +kernel
theorem dX4_isAsTold_41 : decode cX4_isAsTold 41 = .ok (.getfield 26, 3) := by decide +kernel
theorem dX4_isAsTold_44 : decode cX4_isAsTold 44 = .ok (.iload_n 1, 1) := by decide +kernel
theorem dX4_isAsTold_45 : decode cX4_isAsTold 45 = .ok (.invokevirtual 48, 3) := by decide +kernel
theorem dX4_isAsTold_48 : decode cX4_isAsTold 48 = .ok (.iload_n 2, 1) := by decide +kernel
theorem dX4_isAsTold_49 : decode cX4_isAsTold 49 = .ok (.if_icmp .eq 5, 3) := by decide +kernel
theorem dX4_isAsTold_52 : decode cX4_isAsTold 52 = .ok (.iconst 0, 1) := by decide +kernel
theorem dX4_isAsTold_53 : decode cX4_isAsTold 53 = .ok (.ireturn, 1) := by decide +kernel
theorem dX4_isAsTold_54 : decode cX4_isAsTold 54 = .ok (.iinc 1 1, 3) := by decide +kernel
theorem dX4_isAsTold_57 : decode cX4_isAsTold 57 = .ok (.goto (-55), 3) := by decide +kernel
theorem dX4_isAsTold_60 : decode cX4_isAsTold 60 = .ok (.iconst 1, 1) := by decide +kernel
theorem dX4_isAsTold_61 : decode cX4_isAsTold 61 = .ok (.ireturn, 1) := by decide +kernel
set_option maxRecDepth 20000 in
theorem ggX4_parts_X4_slateOf : GoodIn wsX4_parts wsX4_slateOf := goodIn_r _ [5] (by decide +kernel) (by decide +kernel)
set_option maxRecDepth 20000 in
theorem gX4_parts_X4_slateOf : GoodIn wsX4_parts (va_wsS RX4 73 yX4_slateOf wsX4_slateOf) := goodIn_app (goodIn_of _ (by decide +kernel)) ggX4_parts_X4_slateOf
set_option maxRecDepth 20000 in
theorem ggX4_parts_X0_at : GoodIn wsX4_parts wsX0_at := goodIn_r _ [10, 11, 18] (by decide +kernel) (by decide +kernel)
set_option maxRecDepth 20000 in
theorem gX4_parts_X0_at : GoodIn wsX4_parts (wsV RX4 48 RX0 yX0_at wsX0_at) := goodIn_app (goodIn_of _ (by decide +kernel)) ggX4_parts_X0_at
theorem dX4_parts_0 : decode cX4_parts 0 = .ok (.aload_n 0, 1) := by decide +kernel
theorem dX4_parts_1 : decode cX4_parts 1 = .ok (.getfield 20, 3) := by decide +kernel
theorem dX4_parts_4 : decode cX4_parts 4 = .ok (.iload_n 1, 1) := by decide +kernel
theorem dX4_parts_5 : decode cX4_parts 5 = .ok (.iload_n 2, 1) := by decide +kernel
theorem dX4_parts_6 : decode cX4_parts 6 = .ok (.invokestatic 73, 3) := by decide +kernel
theorem dX4_parts_9 : decode cX4_parts 9 = .ok (.invokevirtual 48, 3) := by decide +kernel
theorem dX4_parts_12 : decode cX4_parts 12 = .ok (.ireturn, 1) := by decide +kernel
set_option maxRecDepth 20000 in
theorem ggX4_mistakes_X4_slateOf : GoodIn wsX4_mistakes wsX4_slateOf := goodIn_r _ [5] (by decide +kernel) (by decide +kernel)
set_option maxRecDepth 20000 in
theorem gX4_mistakes_X4_slateOf : GoodIn wsX4_mistakes (va_wsS RX4 73 yX4_slateOf wsX4_slateOf) := goodIn_app (goodIn_of _ (by decide +kernel)) ggX4_mistakes_X4_slateOf
set_option maxRecDepth 20000 in
theorem ggX4_mistakes_X0_at : GoodIn wsX4_mistakes wsX0_at := goodIn_r _ [10, 11, 18] (by decide +kernel) (by decide +kernel)
set_option maxRecDepth 20000 in
theorem gX4_mistakes_X0_at : GoodIn wsX4_mistakes (wsV RX4 48 RX0 yX0_at wsX0_at) := goodIn_app (goodIn_of _ (by decide +kernel)) ggX4_mistakes_X0_at
theorem dX4_mistakes_0 : decode cX4_mistakes 0 = .ok (.aload_n 0, 1) := by decide +kernel
theorem dX4_mistakes_1 : decode cX4_mistakes 1 = .ok (.getfield 23, 3) := by decide +kernel
theorem dX4_mistakes_4 : decode cX4_mistakes 4 = .ok (.iload_n 1, 1) := by decide +kernel
theorem dX4_mistakes_5 : decode cX4_mistakes 5 = .ok (.iload_n 2, 1) := by decide +kernel
theorem dX4_mistakes_6 : decode cX4_mistakes 6 = .ok (.invokestatic 73, 3) := by decide +kernel
theorem dX4_mistakes_9 : decode cX4_mistakes 9 = .ok (.invokevirtual 48, 3) := by decide +kernel
theorem dX4_mistakes_12 : decode cX4_mistakes 12 = .ok (.ireturn, 1) := by decide +kernel
set_option maxRecDepth 20000 in
theorem ggX4_partsOf_X4_parts : GoodIn wsX4_partsOf wsX4_parts := goodIn_r _ [5, 6, 7, 8, 4, 9, 10, 11, 12, 13, 14, 15, 16, 17, 18, 19, 20, 21, 22] (by decide +kernel) (by decide +kernel)
set_option maxRecDepth 20000 in
theorem gX4_partsOf_X4_parts : GoodIn wsX4_partsOf (wsV RX4 70 RX4 yX4_parts wsX4_parts) := goodIn_app (goodIn_of _ (by decide +kernel)) ggX4_partsOf_X4_parts
theorem dX4_partsOf_0 : decode cX4_partsOf 0 = .ok (.iconst 0, 1) := by decide +kernel
theorem dX4_partsOf_1 : decode cX4_partsOf 1 = .ok (.istore_n 2, 1) := by decide +kernel
theorem dX4_partsOf_2 : decode cX4_partsOf 2 = .ok (.iconst 0, 1) := by decide +kernel
theorem dX4_partsOf_3 : decode cX4_partsOf 3 = .ok (.istore_n 3, 1) := by decide +kernel
theorem dX4_partsOf_4 : decode cX4_partsOf 4 = .ok (.iload_n 3, 1) := by decide +kernel
theorem dX4_partsOf_5 : decode cX4_partsOf 5 = .ok (.iconst 4, 1) := by decide +kernel
theorem dX4_partsOf_6 : decode cX4_partsOf 6 = .ok (.if_icmp .ge 18, 3) := by decide +kernel
theorem dX4_partsOf_9 : decode cX4_partsOf 9 = .ok (.iload_n 2, 1) := by decide +kernel
theorem dX4_partsOf_10 : decode cX4_partsOf 10 = .ok (.aload_n 0, 1) := by decide +kernel
theorem dX4_partsOf_11 : decode cX4_partsOf 11 = .ok (.iload_n 1, 1) := by decide +kernel
theorem dX4_partsOf_12 : decode cX4_partsOf 12 = .ok (.iload_n 3, 1) := by decide +kernel
theorem dX4_partsOf_13 : decode cX4_partsOf 13 = .ok (.invokevirtual 70, 3) := by decide +kernel
theorem dX4_partsOf_16 : decode cX4_partsOf 16 = .ok (.iadd, 1) := by decide +kernel
theorem dX4_partsOf_17 : decode cX4_partsOf 17 = .ok (.istore_n 2, 1) := by decide +kernel
theorem dX4_partsOf_18 : decode cX4_partsOf 18 = .ok (.iinc 3 1, 3) := by decide +kernel
theorem dX4_partsOf_21 : decode cX4_partsOf 21 = .ok (.goto (-17), 3) := by decide +kernel
theorem dX4_partsOf_24 : decode cX4_partsOf 24 = .ok (.iload_n 2, 1) := by decide +kernel
theorem dX4_partsOf_25 : decode cX4_partsOf 25 = .ok (.ireturn, 1) := by decide +kernel
set_option maxRecDepth 20000 in
theorem ggX4_partsOfAll_X0_sum : GoodIn wsX4_partsOfAll wsX0_sum := goodIn_r _ [6, 7, 14] (by decide +kernel) (by decide +kernel)
set_option maxRecDepth 20000 in
theorem gX4_partsOfAll_X0_sum : GoodIn wsX4_partsOfAll (wsV RX4 76 RX0 yX0_sum wsX0_sum) := goodIn_app (goodIn_of _ (by decide +kernel)) ggX4_partsOfAll_X0_sum
theorem dX4_partsOfAll_0 : decode cX4_partsOfAll 0 = .ok (.aload_n 0, 1) := by decide +kernel
theorem dX4_partsOfAll_1 : decode cX4_partsOfAll 1 = .ok (.getfield 20, 3) := by decide +kernel
theorem dX4_partsOfAll_4 : decode cX4_partsOfAll 4 = .ok (.invokevirtual 76, 3) := by decide +kernel
theorem dX4_partsOfAll_7 : decode cX4_partsOfAll 7 = .ok (.ireturn, 1) := by decide +kernel
set_option maxRecDepth 20000 in
theorem ggX4_mistakesOfAll_X0_sumOfBits : GoodIn wsX4_mistakesOfAll wsX0_sumOfBits := goodIn_r _ [6, 7, 8, 9, 10, 11, 12, 13, 14, 21] (by decide +kernel) (by decide +kernel)
set_option maxRecDepth 20000 in
theorem gX4_mistakesOfAll_X0_sumOfBits : GoodIn wsX4_mistakesOfAll (wsV RX4 79 RX0 yX0_sumOfBits wsX0_sumOfBits) := goodIn_app (goodIn_of _ (by decide +kernel)) ggX4_mistakesOfAll_X0_sumOfBits
theorem dX4_mistakesOfAll_0 : decode cX4_mistakesOfAll 0 = .ok (.aload_n 0, 1) := by decide +kernel
theorem dX4_mistakesOfAll_1 : decode cX4_mistakesOfAll 1 = .ok (.getfield 23, 3) := by decide +kernel
theorem dX4_mistakesOfAll_4 : decode cX4_mistakesOfAll 4 = .ok (.invokevirtual 79, 3) := by decide +kernel
theorem dX4_mistakesOfAll_7 : decode cX4_mistakesOfAll 7 = .ok (.ireturn, 1) := by decide +kernel
set_option maxRecDepth 20000 in
theorem ggX4_wipeSlate_X4_slateOf : GoodIn wsX4_wipeSlate wsX4_slateOf := goodIn_r _ [6] (by decide +kernel) (by decide +kernel)
set_option maxRecDepth 20000 in
theorem gX4_wipeSlate_X4_slateOf : GoodIn wsX4_wipeSlate (va_wsS RX4 73 yX4_slateOf wsX4_slateOf) := goodIn_app (goodIn_of _ (by decide +kernel)) ggX4_wipeSlate_X4_slateOf
set_option maxRecDepth 20000 in
theorem ggX4_wipeSlate_X0_put : GoodIn wsX4_wipeSlate wsX0_put := goodIn_r _ [11, 12, 19] (by decide +kernel) (by decide +kernel)
set_option maxRecDepth 20000 in
theorem gX4_wipeSlate_X0_put : GoodIn wsX4_wipeSlate (wsV RX4 33 RX0 yX0_put wsX0_put) := goodIn_app (goodIn_of _ (by decide +kernel)) ggX4_wipeSlate_X0_put
theorem dX4_wipeSlate_0 : decode cX4_wipeSlate 0 = .ok (.aload_n 0, 1) := by decide +kernel
theorem dX4_wipeSlate_1 : decode cX4_wipeSlate 1 = .ok (.getfield 20, 3) := by decide +kernel
theorem dX4_wipeSlate_4 : decode cX4_wipeSlate 4 = .ok (.iload_n 1, 1) := by decide +kernel
theorem dX4_wipeSlate_5 : decode cX4_wipeSlate 5 = .ok (.iload_n 2, 1) := by decide +kernel
theorem dX4_wipeSlate_6 : decode cX4_wipeSlate 6 = .ok (.invokestatic 73, 3) := by decide +kernel
theorem dX4_wipeSlate_9 : decode cX4_wipeSlate 9 = .ok (.iconst 0, 1) := by decide +kernel
theorem dX4_wipeSlate_10 : decode cX4_wipeSlate 10 = .ok (.invokevirtual 33, 3) := by decide +kernel
theorem dX4_wipeSlate_13 : decode cX4_wipeSlate 13 = .ok (.aload_n 0, 1) := by decide +kernel
theorem dX4_wipeSlate_14 : decode cX4_wipeSlate 14 = .ok (.getfield 23, 3) := by decide +kernel
theorem dX4_wipeSlate_17 : decode cX4_wipeSlate 17 = .ok (.iload_n 1, 1) := by decide +kernel
theorem dX4_wipeSlate_18 : decode cX4_wipeSlate 18 = .ok (.iload_n 2, 1) := by decide +kernel
theorem dX4_wipeSlate_19 : decode cX4_wipeSlate 19 = .ok (.invokestatic 73, 3) := by decide +kernel
theorem dX4_wipeSlate_22 : decode cX4_wipeSlate 22 = .ok (.iconst 0, 1) := by decide +kernel
theorem dX4_wipeSlate_23 : decode cX4_wipeSlate 23 = .ok (.invokevirtual 33, 3) := by decide +kernel
theorem dX4_wipeSlate_26 : decode cX4_wipeSlate 26 = .ok (.return_, 1) := by decide +kernel
set_option maxRecDepth 20000 in
theorem ggX4_knowsBetter_X4_parts : GoodIn wsX4_knowsBetter wsX4_parts := goodIn_r _ [5, 6, 7, 8, 4, 9, 10, 11, 12, 13, 14, 15, 31, 32, 33, 34, 35, 36, 37] (by decide +kernel) (by decide +kernel)
set_option maxRecDepth 20000 in
theorem gX4_knowsBetter_X4_parts : GoodIn wsX4_knowsBetter (wsV RX4 70 RX4 yX4_parts wsX4_parts) := goodIn_app (goodIn_of _ (by decide +kernel)) ggX4_knowsBetter_X4_parts
set_option maxRecDepth 20000 in
theorem ggX4_knowsBetter_X4_mistakes : GoodIn wsX4_knowsBetter wsX4_mistakes := goodIn_r _ [19, 20, 7, 8, 4, 9, 10, 11, 12, 13, 14, 15, 31, 32, 33, 34, 35, 36, 37] (by decide +kernel) (by decide +kernel)
set_option maxRecDepth 20000 in
theorem gX4_knowsBetter_X4_mistakes : GoodIn wsX4_knowsBetter (wsV RX4 82 RX4 yX4_mistakes wsX4_mistakes) := goodIn_app (goodIn_of _ (by decide +kernel)) ggX4_knowsBetter_X4_mistakes
set_option maxRecDepth 20000 in
theorem ggX4_knowsBetter_X4_isMoreWorth : GoodIn wsX4_knowsBetter wsX4_isMoreWorth := goodIn_r _ [23, 24, 25, 26, 27, 28, 29, 30] (by decide +kernel) (by decide +kernel)
set_option maxRecDepth 20000 in
theorem gX4_knowsBetter_X4_isMoreWorth : GoodIn wsX4_knowsBetter (va_wsS RX4 84 yX4_isMoreWorth wsX4_isMoreWorth) := goodIn_app (goodIn_of _ (by decide +kernel)) ggX4_knowsBetter_X4_isMoreWorth
theorem dX4_knowsBetter_0 : decode cX4_knowsBetter 0 = .ok (.aload_n 0, 1) := by decide +kernel
theorem dX4_knowsBetter_1 : decode cX4_knowsBetter 1 = .ok (.iload_n 1, 1) := by decide +kernel
theorem dX4_knowsBetter_2 : decode cX4_knowsBetter 2 = .ok (.iload_n 3, 1) := by decide +kernel
theorem dX4_knowsBetter_3 : decode cX4_knowsBetter 3 = .ok (.invokevirtual 70, 3) := by decide +kernel
theorem dX4_knowsBetter_6 : decode cX4_knowsBetter 6 = .ok (.aload_n 0, 1) := by decide +kernel
theorem dX4_knowsBetter_7 : decode cX4_knowsBetter 7 = .ok (.iload_n 1, 1) := by decide +kernel
theorem dX4_knowsBetter_8 : decode cX4_knowsBetter 8 = .ok (.iload_n 3, 1) := by decide +kernel
theorem dX4_knowsBetter_9 : decode cX4_knowsBetter 9 = .ok (.invokevirtual 82, 3) := by decide +kernel
theorem dX4_knowsBetter_12 : decode cX4_knowsBetter 12 = .ok (.aload_n 0, 1) := by decide +kernel
theorem dX4_knowsBetter_13 : decode cX4_knowsBetter 13 = .ok (.iload_n 2, 1) := by decide +kernel
theorem dX4_knowsBetter_14 : decode cX4_knowsBetter 14 = .ok (.iload_n 3, 1) := by decide +kernel
theorem dX4_knowsBetter_15 : decode cX4_knowsBetter 15 = .ok (.invokevirtual 70, 3) := by decide +kernel
theorem dX4_knowsBetter_18 : decode cX4_knowsBetter 18 = .ok (.aload_n 0, 1) := by decide +kernel
theorem dX4_knowsBetter_19 : decode cX4_knowsBetter 19 = .ok (.iload_n 2, 1) := by decide +kernel
theorem dX4_knowsBetter_20 : decode cX4_knowsBetter 20 = .ok (.iload_n 3, 1) := by decide +kernel
theorem dX4_knowsBetter_21 : decode cX4_knowsBetter 21 = .ok (.invokevirtual 82, 3) := by decide +kernel
theorem dX4_knowsBetter_24 : decode cX4_knowsBetter 24 = .ok (.invokestatic 84, 3) := by decide +kernel
theorem dX4_knowsBetter_27 : decode cX4_knowsBetter 27 = .ok (.ireturn, 1) := by decide +kernel
set_option maxRecDepth 20000 in
theorem ggX4_lastParts_X4_lastChild : GoodIn wsX4_lastParts wsX4_lastChild := goodIn_r _ [5, 6, 7, 8, 9, 10, 11, 12, 13, 14, 15, 16, 17, 18, 19, 28, 29, 30, 31, 32, 33, 34, 35, 36, 37, 38, 39, 40, 41, 42] (by decide +kernel) (by decide +kernel)
set_option maxRecDepth 20000 in
theorem gX4_lastParts_X4_lastChild : GoodIn wsX4_lastParts (wsV RX4 88 RX4 yX4_lastChild wsX4_lastChild) := goodIn_app (goodIn_of _ (by decide +kernel)) ggX4_lastParts_X4_lastChild
set_option maxRecDepth 20000 in
theorem ggX4_lastParts_X4_parts : GoodIn wsX4_lastParts wsX4_parts := goodIn_r _ [23, 24, 25, 26, 4, 27, 14, 15, 16, 17, 18, 19, 28, 29, 30, 31, 32, 33, 42] (by decide +kernel) (by decide +kernel)
set_option maxRecDepth 20000 in
theorem gX4_lastParts_X4_parts : GoodIn wsX4_lastParts (wsV RX4 70 RX4 yX4_parts wsX4_parts) := goodIn_app (goodIn_of _ (by decide +kernel)) ggX4_lastParts_X4_parts
theorem dX4_lastParts_0 : decode cX4_lastParts 0 = .ok (.aload_n 0, 1) := by decide +kernel
theorem dX4_lastParts_1 : decode cX4_lastParts 1 = .ok (.aload_n 0, 1) := by decide +kernel
theorem dX4_lastParts_2 : decode cX4_lastParts 2 = .ok (.invokevirtual 88, 3) := by decide +kernel
theorem dX4_lastParts_5 : decode cX4_lastParts 5 = .ok (.iconst 0, 1) := by decide +kernel
theorem dX4_lastParts_6 : decode cX4_lastParts 6 = .ok (.invokevirtual 70, 3) := by decide +kernel
theorem dX4_lastParts_9 : decode cX4_lastParts 9 = .ok (.ireturn, 1) := by decide +kernel
set_option maxRecDepth 20000 in
theorem ggX4_lastMistakes_X4_lastChild : GoodIn wsX4_lastMistakes wsX4_lastChild := goodIn_r _ [5, 6, 7, 8, 9, 10, 11, 12, 13, 14, 15, 16, 17, 18, 19, 35, 36, 37, 38, 39, 40, 41, 42, 43, 44, 45, 46, 47, 48, 49] (by decide +kernel) (by decide +kernel)
set_option maxRecDepth 20000 in
theorem gX4_lastMistakes_X4_lastChild : GoodIn wsX4_lastMistakes (wsV RX4 88 RX4 yX4_lastChild wsX4_lastChild) := goodIn_app (goodIn_of _ (by decide +kernel)) ggX4_lastMistakes_X4_lastChild
set_option maxRecDepth 20000 in
theorem ggX4_lastMistakes_X4_mistakes : GoodIn wsX4_lastMistakes wsX4_mistakes := goodIn_r _ [23, 24, 25, 26, 4, 27, 14, 15, 16, 17, 18, 19, 35, 36, 37, 38, 39, 40, 49] (by decide +kernel) (by decide +kernel)
set_option maxRecDepth 20000 in
theorem gX4_lastMistakes_X4_mistakes : GoodIn wsX4_lastMistakes (wsV RX4 82 RX4 yX4_mistakes wsX4_mistakes) := goodIn_app (goodIn_of _ (by decide +kernel)) ggX4_lastMistakes_X4_mistakes
set_option maxRecDepth 20000 in
theorem ggX4_lastMistakes_J6_bitCount_0f7a4 : GoodIn wsX4_lastMistakes wsJ6_bitCount_0f7a4 := goodIn_r _ [31, 32, 33, 34] (by decide +kernel) (by decide +kernel)
set_option maxRecDepth 20000 in
theorem gX4_lastMistakes_J6_bitCount_0f7a4 : GoodIn wsX4_lastMistakes (va_wsS RX4 65 yJ6_bitCount_0f7a4 wsJ6_bitCount_0f7a4) := goodIn_app (goodIn_of _ (by decide +kernel)) ggX4_lastMistakes_J6_bitCount_0f7a4
theorem dX4_lastMistakes_0 : decode cX4_lastMistakes 0 = .ok (.aload_n 0, 1) := by decide +kernel
theorem dX4_lastMistakes_1 : decode cX4_lastMistakes 1 = .ok (.aload_n 0, 1) := by decide +kernel
theorem dX4_lastMistakes_2 : decode cX4_lastMistakes 2 = .ok (.invokevirtual 88, 3) := by decide +kernel
theorem dX4_lastMistakes_5 : decode cX4_lastMistakes 5 = .ok (.iconst 0, 1) := by decide +kernel
theorem dX4_lastMistakes_6 : decode cX4_lastMistakes 6 = .ok (.invokevirtual 82, 3) := by decide +kernel
theorem dX4_lastMistakes_9 : decode cX4_lastMistakes 9 = .ok (.invokestatic 65, 3) := by decide +kernel
theorem dX4_lastMistakes_12 : decode cX4_lastMistakes 12 = .ok (.ireturn, 1) := by decide +kernel
set_option maxRecDepth 20000 in
theorem ggX4_endsBetterThan_X4_lastParts : GoodIn wsX4_endsBetterThan wsX4_lastParts := goodIn_r _ [5, 6, 7, 8, 4, 9, 10, 11, 12, 13, 14, 15, 16, 17, 18, 19, 20, 21, 22, 23, 24, 25, 26, 27, 28, 29, 30, 31, 47, 48, 49, 50, 51, 52, 53, 54, 55, 56, 57, 58, 59, 60, 61] (by decide +kernel) (by decide +kernel)
set_option maxRecDepth 20000 in
theorem gX4_endsBetterThan_X4_lastParts : GoodIn wsX4_endsBetterThan (wsV RX4 91 RX4 yX4_lastParts wsX4_lastParts) := goodIn_app (goodIn_of _ (by decide +kernel)) ggX4_endsBetterThan_X4_lastParts
set_option maxRecDepth 20000 in
theorem ggX4_endsBetterThan_X4_lastChild : GoodIn wsX4_endsBetterThan wsX4_lastChild := goodIn_r _ [9, 10, 11, 12, 13, 14, 15, 16, 17, 18, 19, 20, 21, 22, 23, 47, 48, 49, 50, 51, 52, 53, 54, 55, 56, 57, 58, 59, 60, 61] (by decide +kernel) (by decide +kernel)
set_option maxRecDepth 20000 in
theorem gX4_endsBetterThan_X4_lastChild : GoodIn wsX4_endsBetterThan (wsV RX4 88 RX4 yX4_lastChild wsX4_lastChild) := goodIn_app (goodIn_of _ (by decide +kernel)) ggX4_endsBetterThan_X4_lastChild
set_option maxRecDepth 20000 in
theorem ggX4_endsBetterThan_X4_mistakes : GoodIn wsX4_endsBetterThan wsX4_mistakes := goodIn_r _ [35, 36, 29, 30, 4, 31, 18, 19, 20, 21, 22, 23, 47, 48, 49, 50, 51, 52, 61] (by decide +kernel) (by decide +kernel)
set_option maxRecDepth 20000 in
theorem gX4_endsBetterThan_X4_mistakes : GoodIn wsX4_endsBetterThan (wsV RX4 82 RX4 yX4_mistakes wsX4_mistakes) := goodIn_app (goodIn_of _ (by decide +kernel)) ggX4_endsBetterThan_X4_mistakes
set_option maxRecDepth 20000 in
theorem ggX4_endsBetterThan_X4_isMoreWorth : GoodIn wsX4_endsBetterThan wsX4_isMoreWorth := goodIn_r _ [39, 40, 41, 42, 43, 44, 45, 46] (by decide +kernel) (by decide +kernel)
set_option maxRecDepth 20000 in
theorem gX4_endsBetterThan_X4_isMoreWorth : GoodIn wsX4_endsBetterThan (va_wsS RX4 84 yX4_isMoreWorth wsX4_isMoreWorth) := goodIn_app (goodIn_of _ (by decide +kernel)) ggX4_endsBetterThan_X4_isMoreWorth
theorem dX4_endsBetterThan_0 : decode cX4_endsBetterThan 0 = .ok (.aload_n 0, 1) := by decide +kernel
theorem dX4_endsBetterThan_1 : decode cX4_endsBetterThan 1 = .ok (.invokevirtual 91, 3) := by decide +kernel
theorem dX4_endsBetterThan_4 : decode cX4_endsBetterThan 4 = .ok (.aload_n 0, 1) := by decide +kernel
theorem dX4_endsBetterThan_5 : decode cX4_endsBetterThan 5 = .ok (.aload_n 0, 1) := by decide +kernel
theorem dX4_endsBetterThan_6 : decode cX4_endsBetterThan 6 = .ok (.invokevirtual 88, 3) := by decide +kernel
theorem dX4_endsBetterThan_9 : decode cX4_endsBetterThan 9 = .ok (.iconst 0, 1) := by decide +kernel
theorem dX4_endsBetterThan_10 : decode cX4_endsBetterThan 10 = .ok (.invokevirtual 82, 3) := by decide +kernel
theorem dX4_endsBetterThan_13 : decode cX4_endsBetterThan 13 = .ok (.aload_n 1, 1) := by decide +kernel
theorem dX4_endsBetterThan_14 : decode cX4_endsBetterThan 14 = .ok (.invokevirtual 91, 3) := by decide +kernel
theorem dX4_endsBetterThan_17 : decode cX4_endsBetterThan 17 = .ok (.aload_n 1, 1) := by decide +kernel
theorem dX4_endsBetterThan_18 : decode cX4_endsBetterThan 18 = .ok (.aload_n 1, 1) := by decide +kernel
theorem dX4_endsBetterThan_19 : decode cX4_endsBetterThan 19 = .ok (.invokevirtual 88, 3) := by decide +kernel
theorem dX4_endsBetterThan_22 : decode cX4_endsBetterThan 22 = .ok (.iconst 0, 1) := by decide +kernel
theorem dX4_endsBetterThan_23 : decode cX4_endsBetterThan 23 = .ok (.invokevirtual 82, 3) := by decide +kernel
theorem dX4_endsBetterThan_26 : decode cX4_endsBetterThan 26 = .ok (.invokestatic 84, 3) := by decide +kernel
theorem dX4_endsBetterThan_29 : decode cX4_endsBetterThan 29 = .ok (.ireturn, 1) := by decide +kernel
set_option maxRecDepth 20000 in
theorem ggX4_lastChild_X5_size : GoodIn wsX4_lastChild wsX5_size := goodIn_r _ [7, 8, 21, 22, 23, 24, 25, 26, 27, 28] (by decide +kernel) (by decide +kernel)
set_option maxRecDepth 20000 in
theorem gX4_lastChild_X5_size : GoodIn wsX4_lastChild (wsV RX4 52 RX5 yX5_size wsX5_size) := goodIn_app (goodIn_of _ (by decide +kernel)) ggX4_lastChild_X5_size
set_option maxRecDepth 20000 in
theorem ggX4_lastChild_X0_at : GoodIn wsX4_lastChild wsX0_at := goodIn_r _ [13, 14, 29] (by decide +kernel) (by decide +kernel)
set_option maxRecDepth 20000 in
theorem gX4_lastChild_X0_at : GoodIn wsX4_lastChild (wsV RX4 48 RX0 yX0_at wsX0_at) := goodIn_app (goodIn_of _ (by decide +kernel)) ggX4_lastChild_X0_at
theorem dX4_lastChild_0 : decode cX4_lastChild 0 = .ok (.aload_n 0, 1) := by decide +kernel
theorem dX4_lastChild_1 : decode cX4_lastChild 1 = .ok (.getfield 14, 3) := by decide +kernel
theorem dX4_lastChild_4 : decode cX4_lastChild 4 = .ok (.aload_n 0, 1) := by decide +kernel
theorem dX4_lastChild_5 : decode cX4_lastChild 5 = .ok (.getfield 29, 3) := by decide +kernel
theorem dX4_lastChild_8 : decode cX4_lastChild 8 = .ok (.invokevirtual 52, 3) := by decide +kernel
theorem dX4_lastChild_11 : decode cX4_lastChild 11 = .ok (.iconst 1, 1) := by decide +kernel
theorem dX4_lastChild_12 : decode cX4_lastChild 12 = .ok (.isub, 1) := by decide +kernel
theorem dX4_lastChild_13 : decode cX4_lastChild 13 = .ok (.invokevirtual 48, 3) := by decide +kernel
theorem dX4_lastChild_16 : decode cX4_lastChild 16 = .ok (.ireturn, 1) := by decide +kernel
set_option maxRecDepth 20000 in
theorem ggX4_isMoreWorth_J6_bitCount_0f7a4 : GoodIn wsX4_isMoreWorth wsJ6_bitCount_0f7a4 := goodIn_r _ [4, 5, 6, 7] (by decide +kernel) (by decide +kernel)
set_option maxRecDepth 20000 in
theorem gX4_isMoreWorth_J6_bitCount_0f7a4 : GoodIn wsX4_isMoreWorth (va_wsS RX4 65 yJ6_bitCount_0f7a4 wsJ6_bitCount_0f7a4) := goodIn_app (goodIn_of _ (by decide +kernel)) ggX4_isMoreWorth_J6_bitCount_0f7a4
theorem dX4_isMoreWorth_0 : decode cX4_isMoreWorth 0 = .ok (.iload_n 0, 1) := by decide +kernel
theorem dX4_isMoreWorth_1 : decode cX4_isMoreWorth 1 = .ok (.iload_n 2, 1) := by decide +kernel
theorem dX4_isMoreWorth_2 : decode cX4_isMoreWorth 2 = .ok (.if_icmp .gt 19, 3) := by decide +kernel
theorem dX4_isMoreWorth_5 : decode cX4_isMoreWorth 5 = .ok (.iload_n 0, 1) := by decide +kernel
theorem dX4_isMoreWorth_6 : decode cX4_isMoreWorth 6 = .ok (.iload_n 2, 1) := by decide +kernel
theorem dX4_isMoreWorth_7 : decode cX4_isMoreWorth 7 = .ok (.if_icmp .ne 18, 3) := by decide +kernel
theorem dX4_isMoreWorth_10 : decode cX4_isMoreWorth 10 = .ok (.iload_n 1, 1) := by decide +kernel
theorem dX4_isMoreWorth_11 : decode cX4_isMoreWorth 11 = .ok (.invokestatic 65, 3) := by decide +kernel
theorem dX4_isMoreWorth_14 : decode cX4_isMoreWorth 14 = .ok (.iload_n 3, 1) := by decide +kernel
theorem dX4_isMoreWorth_15 : decode cX4_isMoreWorth 15 = .ok (.invokestatic 65, 3) := by decide +kernel
theorem dX4_isMoreWorth_18 : decode cX4_isMoreWorth 18 = .ok (.if_icmp .ge 7, 3) := by decide +kernel
theorem dX4_isMoreWorth_21 : decode cX4_isMoreWorth 21 = .ok (.iconst 1, 1) := by decide +kernel
theorem dX4_isMoreWorth_22 : decode cX4_isMoreWorth 22 = .ok (.goto 4, 3) := by decide +kernel
theorem dX4_isMoreWorth_25 : decode cX4_isMoreWorth 25 = .ok (.iconst 0, 1) := by decide +kernel
theorem dX4_isMoreWorth_26 : decode cX4_isMoreWorth 26 = .ok (.ireturn, 1) := by decide +kernel
theorem dX4_slateOf_0 : decode cX4_slateOf 0 = .ok (.iload_n 0, 1) := by decide +kernel
theorem dX4_slateOf_1 : decode cX4_slateOf 1 = .ok (.iconst 4, 1) := by decide +kernel
theorem dX4_slateOf_2 : decode cX4_slateOf 2 = .ok (.imul, 1) := by decide +kernel
theorem dX4_slateOf_3 : decode cX4_slateOf 3 = .ok (.iload_n 1, 1) := by decide +kernel
theorem dX4_slateOf_4 : decode cX4_slateOf 4 = .ok (.iadd, 1) := by decide +kernel
theorem dX4_slateOf_5 : decode cX4_slateOf 5 = .ok (.ireturn, 1) := by decide +kernel
set_option maxRecDepth 20000 in
theorem ggX4_teachFromNothing_X5_size : GoodIn wsX4_teachFromNothing wsX5_size := goodIn_r _ [6, 7, 109, 110, 111, 112, 113, 114, 115, 116] (by decide +kernel) (by decide +kernel)
set_option maxRecDepth 20000 in
theorem gX4_teachFromNothing_X5_size : GoodIn wsX4_teachFromNothing (wsV RX4 52 RX5 yX5_size wsX5_size) := goodIn_app (goodIn_of _ (by decide +kernel)) ggX4_teachFromNothing_X5_size
set_option maxRecDepth 20000 in
theorem ggX4_teachFromNothing_X4_wipeSlate : GoodIn wsX4_teachFromNothing wsX4_wipeSlate := goodIn_r _ [12, 13, 14, 15, 16, 11, 17, 18, 19, 20, 21, 22, 23, 103, 104, 105, 106, 107, 108, 117] (by decide +kernel) (by decide +kernel)
set_option maxRecDepth 20000 in
theorem gX4_teachFromNothing_X4_wipeSlate : GoodIn wsX4_teachFromNothing (wsV RX4 94 RX4 yX4_wipeSlate wsX4_wipeSlate) := goodIn_app (goodIn_of _ (by decide +kernel)) ggX4_teachFromNothing_X4_wipeSlate
set_option maxRecDepth 20000 in
theorem ggX4_teachFromNothing_X4_teachDown : GoodIn wsX4_teachFromNothing wsX4_teachDown := goodIn_r _ [27, 1, 28, 13, 14, 2, 3, 4, 5, 6, 7, 29, 30, 31, 21, 32, 23, 33, 34, 35, 11, 36, 37, 38, 39, 40, 41, 42, 43, 44, 45, 46, 47, 48, 49, 50, 51, 15, 16, 17, 18, 19, 20, 22, 52, 53, 54, 55, 56, 57, 58, 59, 60, 61, 62, 63, 64, 65, 66, 67, 68, 69, 70, 71, 72, 73, 74, 75, 76, 77, 78, 79, 80, 81, 82, 83, 84, 85, 86, 87, 88, 89, 90, 91, 92, 93, 94, 95, 96, 97, 98, 99, 100, 101, 102, 103, 104, 105, 106, 107, 108, 109, 110, 111, 112, 113, 114, 115, 116, 117] (by decide +kernel) (by decide +kernel)
set_option maxRecDepth 20000 in
theorem gX4_teachFromNothing_X4_teachDown : GoodIn wsX4_teachFromNothing (wsV RX4 97 RX4 yX4_teachDown wsX4_teachDown) := goodIn_app (goodIn_of _ (by decide +kernel)) ggX4_teachFromNothing_X4_teachDown
theorem dX4_teachFromNothing_0 : decode cX4_teachFromNothing 0 = .ok (.iconst 0, 1) := by decide +kernel
theorem dX4_teachFromNothing_1 : decode cX4_teachFromNothing 1 = .ok (.istore_n 1, 1) := by decide +kernel
theorem dX4_teachFromNothing_2 : decode cX4_teachFromNothing 2 = .ok (.iload_n 1, 1) := by decide +kernel
theorem dX4_teachFromNothing_3 : decode cX4_teachFromNothing 3 = .ok (.aload_n 0, 1) := by decide +kernel
theorem dX4_teachFromNothing_4 : decode cX4_teachFromNothing 4 = .ok (.getfield 29, 3) := by decide +kernel
theorem dX4_teachFromNothing_7 : decode cX4_teachFromNothing 7 = .ok (.invokevirtual 52, 3) := by decide +kernel
theorem dX4_teachFromNothing_10 : decode cX4_teachFromNothing 10 = .ok (.if_icmp .ge 15, 3) := by decide +kernel
theorem dX4_teachFromNothing_13 : decode cX4_teachFromNothing 13 = .ok (.aload_n 0, 1) := by decide +kernel
theorem dX4_teachFromNothing_14 : decode cX4_teachFromNothing 14 = .ok (.iload_n 1, 1) := by decide +kernel
theorem dX4_teachFromNothing_15 : decode cX4_teachFromNothing 15 = .ok (.iconst 0, 1) := by decide +kernel
theorem dX4_teachFromNothing_16 : decode cX4_teachFromNothing 16 = .ok (.invokevirtual 94, 3) := by decide +kernel
theorem dX4_teachFromNothing_19 : decode cX4_teachFromNothing 19 = .ok (.iinc 1 1, 3) := by decide +kernel
theorem dX4_teachFromNothing_22 : decode cX4_teachFromNothing 22 = .ok (.goto (-20), 3) := by decide +kernel
theorem dX4_teachFromNothing_25 : decode cX4_teachFromNothing 25 = .ok (.aload_n 0, 1) := by decide +kernel
theorem dX4_teachFromNothing_26 : decode cX4_teachFromNothing 26 = .ok (.iconst 0, 1) := by decide +kernel
theorem dX4_teachFromNothing_27 : decode cX4_teachFromNothing 27 = .ok (.iconst 0, 1) := by decide +kernel
theorem dX4_teachFromNothing_28 : decode cX4_teachFromNothing 28 = .ok (.invokevirtual 97, 3) := by decide +kernel
theorem dX4_teachFromNothing_31 : decode cX4_teachFromNothing 31 = .ok (.pop, 1) := by decide +kernel
theorem dX4_teachFromNothing_32 : decode cX4_teachFromNothing 32 = .ok (.return_, 1) := by decide +kernel
set_option maxRecDepth 20000 in
theorem ggX4_teachDown_X5_size : GoodIn wsX4_teachDown wsX5_size := goodIn_r _ [9, 10, 101, 102, 103, 104, 105, 106, 107, 108] (by decide +kernel) (by decide +kernel)
set_option maxRecDepth 20000 in
theorem gX4_teachDown_X5_size : GoodIn wsX4_teachDown (wsV RX4 52 RX5 yX5_size wsX5_size) := goodIn_app (goodIn_of _ (by decide +kernel)) ggX4_teachDown_X5_size
set_option maxRecDepth 20000 in
theorem ggX4_teachDown_X0_at : GoodIn wsX4_teachDown wsX0_at := goodIn_r _ [15, 16, 109] (by decide +kernel) (by decide +kernel)
set_option maxRecDepth 20000 in
theorem gX4_teachDown_X0_at : GoodIn wsX4_teachDown (wsV RX4 48 RX0 yX0_at wsX0_at) := goodIn_app (goodIn_of _ (by decide +kernel)) ggX4_teachDown_X0_at
set_option maxRecDepth 20000 in
theorem ggX4_teachDown_X4_isIll : GoodIn wsX4_teachDown wsX4_isIll := goodIn_r _ [21, 22, 23, 24, 25, 95, 96, 97, 98, 99, 100] (by decide +kernel) (by decide +kernel)
set_option maxRecDepth 20000 in
theorem gX4_teachDown_X4_isIll : GoodIn wsX4_teachDown (wsV RX4 101 RX4 yX4_isIll wsX4_isIll) := goodIn_app (goodIn_of _ (by decide +kernel)) ggX4_teachDown_X4_isIll
set_option maxRecDepth 20000 in
theorem ggX4_teachDown_X5_child : GoodIn wsX4_teachDown wsX5_child := goodIn_r _ [29, 30, 31, 32, 33, 34, 35, 36, 12, 13, 14, 15, 16, 101, 102, 103, 104, 105, 106, 107, 108, 109] (by decide +kernel) (by decide +kernel)
set_option maxRecDepth 20000 in
theorem gX4_teachDown_X5_child : GoodIn wsX4_teachDown (wsV RX4 105 RX5 yX5_child wsX5_child) := goodIn_app (goodIn_of _ (by decide +kernel)) ggX4_teachDown_X5_child
set_option maxRecDepth 20000 in
theorem ggX4_teachDown_X4_slateOf : GoodIn wsX4_teachDown wsX4_slateOf := goodIn_r _ [39] (by decide +kernel) (by decide +kernel)
set_option maxRecDepth 20000 in
theorem gX4_teachDown_X4_slateOf : GoodIn wsX4_teachDown (va_wsS RX4 73 yX4_slateOf wsX4_slateOf) := goodIn_app (goodIn_of _ (by decide +kernel)) ggX4_teachDown_X4_slateOf
set_option maxRecDepth 20000 in
theorem ggX4_teachDown_X0_put : GoodIn wsX4_teachDown wsX0_put := goodIn_r _ [43, 16, 109] (by decide +kernel) (by decide +kernel)
set_option maxRecDepth 20000 in
theorem gX4_teachDown_X0_put : GoodIn wsX4_teachDown (wsV RX4 33 RX0 yX0_put wsX0_put) := goodIn_app (goodIn_of _ (by decide +kernel)) ggX4_teachDown_X0_put
set_option maxRecDepth 20000 in
theorem ggX4_teachDown_X1_takesOf : GoodIn wsX4_teachDown wsX1_takesOf := goodIn_r _ [48] (by decide +kernel) (by decide +kernel)
set_option maxRecDepth 20000 in
theorem gX4_teachDown_X1_takesOf : GoodIn wsX4_teachDown (wsV RX4 109 RX1 yX1_takesOf wsX1_takesOf) := goodIn_app (goodIn_of _ (by decide +kernel)) ggX4_teachDown_X1_takesOf
set_option maxRecDepth 20000 in
theorem ggX4_teachDown_X2_takesOf : GoodIn wsX4_teachDown wsX2_takesOf := goodIn_r _ [55] (by decide +kernel) (by decide +kernel)
set_option maxRecDepth 20000 in
theorem gX4_teachDown_X2_takesOf_u109X2 : GoodIn wsX4_teachDown (va_wsO RX4 109 RX2 "SchoolRow$Child" ⟨"SchoolRow$Child", "takesOf", "(II)I"⟩ yX2_takesOf wsX2_takesOf) := goodIn_app (goodIn_of _ (by decide +kernel)) ggX4_teachDown_X2_takesOf
set_option maxRecDepth 20000 in
theorem gX4_teachDown_X1_takesOf_u109X6 : GoodIn wsX4_teachDown (va_wsU RX4 109 RX6 "SchoolRow$Child" ⟨"SchoolRow$Child", "takesOf", "(II)I"⟩ yX1_takesOf wsX1_takesOf) := goodIn_app (goodIn_of _ (by decide +kernel)) ggX4_teachDown_X1_takesOf
set_option maxRecDepth 20000 in
theorem gX4_teachDown_X1_takesOf_u109X7 : GoodIn wsX4_teachDown (va_wsU RX4 109 RX7 "SchoolRow$Child" ⟨"SchoolRow$Child", "takesOf", "(II)I"⟩ yX1_takesOf wsX1_takesOf) := goodIn_app (goodIn_of _ (by decide +kernel)) ggX4_teachDown_X1_takesOf
set_option maxRecDepth 20000 in
theorem gX4_teachDown_X1_takesOf_u109X8 : GoodIn wsX4_teachDown (va_wsU RX4 109 RX8 "SchoolRow$Child" ⟨"SchoolRow$Child", "takesOf", "(II)I"⟩ yX1_takesOf wsX1_takesOf) := goodIn_app (goodIn_of _ (by decide +kernel)) ggX4_teachDown_X1_takesOf
set_option maxRecDepth 20000 in
theorem ggX4_teachDown_X5_tenthsLost : GoodIn wsX4_teachDown wsX5_tenthsLost := goodIn_r _ [62, 63, 36, 12, 13, 14, 15, 16, 101, 102, 103, 104, 105, 106, 107, 108, 109] (by decide +kernel) (by decide +kernel)
set_option maxRecDepth 20000 in
theorem gX4_teachDown_X5_tenthsLost : GoodIn wsX4_teachDown (wsV RX4 114 RX5 yX5_tenthsLost wsX5_tenthsLost) := goodIn_app (goodIn_of _ (by decide +kernel)) ggX4_teachDown_X5_tenthsLost
set_option maxRecDepth 20000 in
theorem ggX4_teachDown_X1_losesOf : GoodIn wsX4_teachDown wsX1_losesOf := goodIn_r _ [67, 68, 69, 47, 70] (by decide +kernel) (by decide +kernel)
set_option maxRecDepth 20000 in
theorem gX4_teachDown_X1_losesOf : GoodIn wsX4_teachDown (wsV RX4 117 RX1 yX1_losesOf wsX1_losesOf) := goodIn_app (goodIn_of _ (by decide +kernel)) ggX4_teachDown_X1_losesOf
set_option maxRecDepth 20000 in
theorem gX4_teachDown_X1_losesOf_u117X2 : GoodIn wsX4_teachDown (va_wsU RX4 117 RX2 "SchoolRow$Child" ⟨"SchoolRow$Child", "losesOf", "(II)I"⟩ yX1_losesOf wsX1_losesOf) := goodIn_app (goodIn_of _ (by decide +kernel)) ggX4_teachDown_X1_losesOf
set_option maxRecDepth 20000 in
theorem ggX4_teachDown_X7_losesOf : GoodIn wsX4_teachDown wsX7_losesOf := goodIn_r _ [78] (by decide +kernel) (by decide +kernel)
set_option maxRecDepth 20000 in
theorem gX4_teachDown_X7_losesOf_u117X6 : GoodIn wsX4_teachDown (va_wsO RX4 117 RX6 "SchoolRow$Child" ⟨"SchoolRow$Child", "losesOf", "(II)I"⟩ yX7_losesOf wsX7_losesOf) := goodIn_app (goodIn_of _ (by decide +kernel)) ggX4_teachDown_X7_losesOf
set_option maxRecDepth 20000 in
theorem gX4_teachDown_X7_losesOf_u117X7 : GoodIn wsX4_teachDown (va_wsO RX4 117 RX7 "SchoolRow$Child" ⟨"SchoolRow$Child", "losesOf", "(II)I"⟩ yX7_losesOf wsX7_losesOf) := goodIn_app (goodIn_of _ (by decide +kernel)) ggX4_teachDown_X7_losesOf
set_option maxRecDepth 20000 in
theorem gX4_teachDown_X1_losesOf_u117X8 : GoodIn wsX4_teachDown (va_wsU RX4 117 RX8 "SchoolRow$Child" ⟨"SchoolRow$Child", "losesOf", "(II)I"⟩ yX1_losesOf wsX1_losesOf) := goodIn_app (goodIn_of _ (by decide +kernel)) ggX4_teachDown_X1_losesOf
set_option maxRecDepth 20000 in
theorem ggX4_teachDown_X1_givesOf : GoodIn wsX4_teachDown wsX1_givesOf := goodIn_r _ [84] (by decide +kernel) (by decide +kernel)
set_option maxRecDepth 20000 in
theorem gX4_teachDown_X1_givesOf : GoodIn wsX4_teachDown (wsV RX4 120 RX1 yX1_givesOf wsX1_givesOf) := goodIn_app (goodIn_of _ (by decide +kernel)) ggX4_teachDown_X1_givesOf
set_option maxRecDepth 20000 in
theorem gX4_teachDown_X1_givesOf_u120X2 : GoodIn wsX4_teachDown (va_wsU RX4 120 RX2 "SchoolRow$Child" ⟨"SchoolRow$Child", "givesOf", "(II)I"⟩ yX1_givesOf wsX1_givesOf) := goodIn_app (goodIn_of _ (by decide +kernel)) ggX4_teachDown_X1_givesOf
set_option maxRecDepth 20000 in
theorem gX4_teachDown_X1_givesOf_u120X6 : GoodIn wsX4_teachDown (va_wsU RX4 120 RX6 "SchoolRow$Child" ⟨"SchoolRow$Child", "givesOf", "(II)I"⟩ yX1_givesOf wsX1_givesOf) := goodIn_app (goodIn_of _ (by decide +kernel)) ggX4_teachDown_X1_givesOf
set_option maxRecDepth 20000 in
theorem gX4_teachDown_X1_givesOf_u120X7 : GoodIn wsX4_teachDown (va_wsU RX4 120 RX7 "SchoolRow$Child" ⟨"SchoolRow$Child", "givesOf", "(II)I"⟩ yX1_givesOf wsX1_givesOf) := goodIn_app (goodIn_of _ (by decide +kernel)) ggX4_teachDown_X1_givesOf
set_option maxRecDepth 20000 in
theorem ggX4_teachDown_X8_givesOf : GoodIn wsX4_teachDown wsX8_givesOf := goodIn_r _ [94] (by decide +kernel) (by decide +kernel)
set_option maxRecDepth 20000 in
theorem gX4_teachDown_X8_givesOf_u120X8 : GoodIn wsX4_teachDown (va_wsO RX4 120 RX8 "SchoolRow$Child" ⟨"SchoolRow$Child", "givesOf", "(II)I"⟩ yX8_givesOf wsX8_givesOf) := goodIn_app (goodIn_of _ (by decide +kernel)) ggX4_teachDown_X8_givesOf
theorem dX4_teachDown_0 : decode cX4_teachDown 0 = .ok (.iconst 0, 1) := by decide +kernel
theorem dX4_teachDown_1 : decode cX4_teachDown 1 = .ok (.istore_n 3, 1) := by decide +kernel
theorem dX4_teachDown_2 : decode cX4_teachDown 2 = .ok (.bipush 100, 2) := by decide +kernel
theorem dX4_teachDown_4 : decode cX4_teachDown 4 = .ok (.istore 4, 2) := by decide +kernel
theorem dX4_teachDown_6 : decode cX4_teachDown 6 = .ok (.iconst 0, 1) := by decide +kernel
theorem dX4_teachDown_7 : decode cX4_teachDown 7 = .ok (.istore 5, 2) := by decide +kernel
theorem dX4_teachDown_9 : decode cX4_teachDown 9 = .ok (.iconst 0, 1) := by decide +kernel
theorem dX4_teachDown_10 : decode cX4_teachDown 10 = .ok (.istore 6, 2) := by decide +kernel
theorem dX4_teachDown_12 : decode cX4_teachDown 12 = .ok (.iconst 0, 1) := by decide +kernel
theorem dX4_teachDown_13 : decode cX4_teachDown 13 = .ok (.istore 7, 2) := by decide +kernel
theorem dX4_teachDown_15 : decode cX4_teachDown 15 = .ok (.iload 7, 2) := by decide +kernel
theorem dX4_teachDown_17 : decode cX4_teachDown 17 = .ok (.aload_n 0, 1) := by decide +kernel
theorem dX4_teachDown_18 : decode cX4_teachDown 18 = .ok (.getfield 29, 3) := by decide +kernel
theorem dX4_teachDown_21 : decode cX4_teachDown 21 = .ok (.invokevirtual 52, 3) := by decide +kernel
theorem dX4_teachDown_24 : decode cX4_teachDown 24 = .ok (.if_icmp .ge 168, 3) := by decide +kernel
theorem dX4_teachDown_27 : decode cX4_teachDown 27 = .ok (.aload_n 0, 1) := by decide +kernel
theorem dX4_teachDown_28 : decode cX4_teachDown 28 = .ok (.getfield 14, 3) := by decide +kernel
theorem dX4_teachDown_31 : decode cX4_teachDown 31 = .ok (.iload 7, 2) := by decide +kernel
theorem dX4_teachDown_33 : decode cX4_teachDown 33 = .ok (.invokevirtual 48, 3) := by decide +kernel
theorem dX4_teachDown_36 : decode cX4_teachDown 36 = .ok (.istore 8, 2) := by decide +kernel
theorem dX4_teachDown_38 : decode cX4_teachDown 38 = .ok (.aload_n 0, 1) := by decide +kernel
theorem dX4_teachDown_39 : decode cX4_teachDown 39 = .ok (.iload 8, 2) := by decide +kernel
theorem dX4_teachDown_41 : decode cX4_teachDown 41 = .ok (.invokevirtual 101, 3) := by decide +kernel
theorem dX4_teachDown_44 : decode cX4_teachDown 44 = .ok (.ifCond .eq 6, 3) := by decide +kernel
theorem dX4_teachDown_47 : decode cX4_teachDown 47 = .ok (.goto 139, 3) := by decide +kernel
theorem dX4_teachDown_50 : decode cX4_teachDown 50 = .ok (.aload_n 0, 1) := by decide +kernel
theorem dX4_teachDown_51 : decode cX4_teachDown 51 = .ok (.getfield 29, 3) := by decide +kernel
theorem dX4_teachDown_54 : decode cX4_teachDown 54 = .ok (.iload 8, 2) := by decide +kernel
theorem dX4_teachDown_56 : decode cX4_teachDown 56 = .ok (.invokevirtual 105, 3) := by decide +kernel
theorem dX4_teachDown_59 : decode cX4_teachDown 59 = .ok (.astore 9, 2) := by decide +kernel
theorem dX4_teachDown_61 : decode cX4_teachDown 61 = .ok (.iload 8, 2) := by decide +kernel
theorem dX4_teachDown_63 : decode cX4_teachDown 63 = .ok (.iload_n 1, 1) := by decide +kernel
theorem dX4_teachDown_64 : decode cX4_teachDown 64 = .ok (.invokestatic 73, 3) := by decide +kernel
theorem dX4_teachDown_67 : decode cX4_teachDown 67 = .ok (.istore 10, 2) := by decide +kernel
theorem dX4_teachDown_69 : decode cX4_teachDown 69 = .ok (.iload 4, 2) := by decide +kernel
theorem dX4_teachDown_71 : decode cX4_teachDown 71 = .ok (.aload_n 0, 1) := by decide +kernel
theorem dX4_teachDown_72 : decode cX4_teachDown 72 = .ok (.getfield 20, 3) := by decide +kernel
theorem dX4_teachDown_75 : decode cX4_teachDown 75 = .ok (.iload 10, 2) := by decide +kernel
theorem dX4_teachDown_77 : decode cX4_teachDown 77 = .ok (.invokevirtual 48, 3) := by decide +kernel
theorem dX4_teachDown_80 : decode cX4_teachDown 80 = .ok (.if_icmp .le 35, 3) := by decide +kernel
theorem dX4_teachDown_83 : decode cX4_teachDown 83 = .ok (.aload_n 0, 1) := by decide +kernel
theorem dX4_teachDown_84 : decode cX4_teachDown 84 = .ok (.getfield 20, 3) := by decide +kernel
theorem dX4_teachDown_87 : decode cX4_teachDown 87 = .ok (.iload 10, 2) := by decide +kernel
theorem dX4_teachDown_89 : decode cX4_teachDown 89 = .ok (.iload 4, 2) := by decide +kernel
theorem dX4_teachDown_91 : decode cX4_teachDown 91 = .ok (.invokevirtual 33, 3) := by decide +kernel
theorem dX4_teachDown_94 : decode cX4_teachDown 94 = .ok (.aload_n 0, 1) := by decide +kernel
theorem dX4_teachDown_95 : decode cX4_teachDown 95 = .ok (.getfield 23, 3) := by decide +kernel
theorem dX4_teachDown_98 : decode cX4_teachDown 98 = .ok (.iload 10, 2) := by decide +kernel
theorem dX4_teachDown_100 : decode cX4_teachDown 100 = .ok (.aload 9, 2) := by decide +kernel
theorem dX4_teachDown_102 : decode cX4_teachDown 102 = .ok (.iload 5, 2) := by decide +kernel
theorem dX4_teachDown_104 : decode cX4_teachDown 104 = .ok (.iload 6, 2) := by decide +kernel
theorem dX4_teachDown_106 : decode cX4_teachDown 106 = .ok (.invokevirtual 109, 3) := by decide +kernel
theorem dX4_teachDown_109 : decode cX4_teachDown 109 = .ok (.invokevirtual 33, 3) := by decide +kernel
theorem dX4_teachDown_112 : decode cX4_teachDown 112 = .ok (.iinc 3 1, 3) := by decide +kernel
theorem dX4_teachDown_115 : decode cX4_teachDown 115 = .ok (.aload_n 0, 1) := by decide +kernel
theorem dX4_teachDown_116 : decode cX4_teachDown 116 = .ok (.getfield 20, 3) := by decide +kernel
theorem dX4_teachDown_119 : decode cX4_teachDown 119 = .ok (.iload 10, 2) := by decide +kernel
theorem dX4_teachDown_121 : decode cX4_teachDown 121 = .ok (.invokevirtual 48, 3) := by decide +kernel
theorem dX4_teachDown_124 : decode cX4_teachDown 124 = .ok (.istore 11, 2) := by decide +kernel
theorem dX4_teachDown_126 : decode cX4_teachDown 126 = .ok (.iconst 1, 1) := by decide +kernel
theorem dX4_teachDown_127 : decode cX4_teachDown 127 = .ok (.iload 8, 2) := by decide +kernel
theorem dX4_teachDown_129 : decode cX4_teachDown 129 = .ok (.ishl, 1) := by decide +kernel
theorem dX4_teachDown_130 : decode cX4_teachDown 130 = .ok (.istore 6, 2) := by decide +kernel
theorem dX4_teachDown_132 : decode cX4_teachDown 132 = .ok (.iload_n 2, 1) := by decide +kernel
theorem dX4_teachDown_133 : decode cX4_teachDown 133 = .ok (.ifCond .eq 8, 3) := by decide +kernel
theorem dX4_teachDown_136 : decode cX4_teachDown 136 = .ok (.iload 11, 2) := by decide +kernel
theorem dX4_teachDown_138 : decode cX4_teachDown 138 = .ok (.goto 20, 3) := by decide +kernel
theorem dX4_teachDown_141 : decode cX4_teachDown 141 = .ok (.iload 11, 2) := by decide +kernel
theorem dX4_teachDown_143 : decode cX4_teachDown 143 = .ok (.aload 9, 2) := by decide +kernel
theorem dX4_teachDown_145 : decode cX4_teachDown 145 = .ok (.iload 11, 2) := by decide +kernel
theorem dX4_teachDown_147 : decode cX4_teachDown 147 = .ok (.aload_n 0, 1) := by decide +kernel
theorem dX4_teachDown_148 : decode cX4_teachDown 148 = .ok (.getfield 29, 3) := by decide +kernel
theorem dX4_teachDown_151 : decode cX4_teachDown 151 = .ok (.invokevirtual 114, 3) := by decide +kernel
theorem dX4_teachDown_154 : decode cX4_teachDown 154 = .ok (.invokevirtual 117, 3) := by decide +kernel
theorem dX4_teachDown_157 : decode cX4_teachDown 157 = .ok (.isub, 1) := by decide +kernel
theorem dX4_teachDown_158 : decode cX4_teachDown 158 = .ok (.istore 4, 2) := by decide +kernel
theorem dX4_teachDown_160 : decode cX4_teachDown 160 = .ok (.aload 9, 2) := by decide +kernel
theorem dX4_teachDown_162 : decode cX4_teachDown 162 = .ok (.aload_n 0, 1) := by decide +kernel
theorem dX4_teachDown_163 : decode cX4_teachDown 163 = .ok (.getfield 23, 3) := by decide +kernel
theorem dX4_teachDown_166 : decode cX4_teachDown 166 = .ok (.iload 10, 2) := by decide +kernel
theorem dX4_teachDown_168 : decode cX4_teachDown 168 = .ok (.invokevirtual 48, 3) := by decide +kernel
theorem dX4_teachDown_171 : decode cX4_teachDown 171 = .ok (.iload_n 2, 1) := by decide +kernel
theorem dX4_teachDown_172 : decode cX4_teachDown 172 = .ok (.ifCond .eq 7, 3) := by decide +kernel
theorem dX4_teachDown_175 : decode cX4_teachDown 175 = .ok (.iconst 0, 1) := by decide +kernel
theorem dX4_teachDown_176 : decode cX4_teachDown 176 = .ok (.goto 5, 3) := by decide +kernel
theorem dX4_teachDown_179 : decode cX4_teachDown 179 = .ok (.iload 6, 2) := by decide +kernel
theorem dX4_teachDown_181 : decode cX4_teachDown 181 = .ok (.invokevirtual 120, 3) := by decide +kernel
theorem dX4_teachDown_184 : decode cX4_teachDown 184 = .ok (.istore 5, 2) := by decide +kernel
theorem dX4_teachDown_186 : decode cX4_teachDown 186 = .ok (.iinc 7 1, 3) := by decide +kernel
theorem dX4_teachDown_189 : decode cX4_teachDown 189 = .ok (.goto (-174), 3) := by decide +kernel
theorem dX4_teachDown_192 : decode cX4_teachDown 192 = .ok (.iload_n 3, 1) := by decide +kernel
theorem dX4_teachDown_193 : decode cX4_teachDown 193 = .ok (.ireturn, 1) := by decide +kernel
set_option maxRecDepth 20000 in
theorem ggX4_passSummer_X5_size : GoodIn wsX4_passSummer wsX5_size := goodIn_r _ [8, 9, 64, 65, 66, 67, 68, 69, 70, 71] (by decide +kernel) (by decide +kernel)
set_option maxRecDepth 20000 in
theorem gX4_passSummer_X5_size : GoodIn wsX4_passSummer (wsV RX4 52 RX5 yX5_size wsX5_size) := goodIn_app (goodIn_of _ (by decide +kernel)) ggX4_passSummer_X5_size
set_option maxRecDepth 20000 in
theorem ggX4_passSummer_X5_child : GoodIn wsX4_passSummer wsX5_child := goodIn_r _ [13, 14, 15, 16, 17, 18, 19, 20, 21, 22, 23, 24, 25, 64, 65, 66, 67, 68, 69, 70, 71, 72] (by decide +kernel) (by decide +kernel)
set_option maxRecDepth 20000 in
theorem gX4_passSummer_X5_child : GoodIn wsX4_passSummer (wsV RX4 105 RX5 yX5_child wsX5_child) := goodIn_app (goodIn_of _ (by decide +kernel)) ggX4_passSummer_X5_child
set_option maxRecDepth 20000 in
theorem ggX4_passSummer_X4_slateOf : GoodIn wsX4_passSummer wsX4_slateOf := goodIn_r _ [29] (by decide +kernel) (by decide +kernel)
set_option maxRecDepth 20000 in
theorem gX4_passSummer_X4_slateOf : GoodIn wsX4_passSummer (va_wsS RX4 73 yX4_slateOf wsX4_slateOf) := goodIn_app (goodIn_of _ (by decide +kernel)) ggX4_passSummer_X4_slateOf
set_option maxRecDepth 20000 in
theorem ggX4_passSummer_X0_at : GoodIn wsX4_passSummer wsX0_at := goodIn_r _ [24, 25, 72] (by decide +kernel) (by decide +kernel)
set_option maxRecDepth 20000 in
theorem gX4_passSummer_X0_at : GoodIn wsX4_passSummer (wsV RX4 48 RX0 yX0_at wsX0_at) := goodIn_app (goodIn_of _ (by decide +kernel)) ggX4_passSummer_X0_at
set_option maxRecDepth 20000 in
theorem ggX4_passSummer_X5_tenthsForgotten : GoodIn wsX4_passSummer wsX5_tenthsForgotten := goodIn_r _ [34, 35, 20, 21, 22, 23, 24, 25, 64, 65, 66, 67, 68, 69, 70, 71, 72] (by decide +kernel) (by decide +kernel)
set_option maxRecDepth 20000 in
theorem gX4_passSummer_X5_tenthsForgotten : GoodIn wsX4_passSummer (wsV RX4 123 RX5 yX5_tenthsForgotten wsX5_tenthsForgotten) := goodIn_app (goodIn_of _ (by decide +kernel)) ggX4_passSummer_X5_tenthsForgotten
set_option maxRecDepth 20000 in
theorem ggX4_passSummer_X1_forgetsOf : GoodIn wsX4_passSummer wsX1_forgetsOf := goodIn_r _ [40, 41, 42, 39, 43] (by decide +kernel) (by decide +kernel)
set_option maxRecDepth 20000 in
theorem gX4_passSummer_X1_forgetsOf : GoodIn wsX4_passSummer (wsV RX4 126 RX1 yX1_forgetsOf wsX1_forgetsOf) := goodIn_app (goodIn_of _ (by decide +kernel)) ggX4_passSummer_X1_forgetsOf
set_option maxRecDepth 20000 in
theorem gX4_passSummer_X1_forgetsOf_u126X2 : GoodIn wsX4_passSummer (va_wsU RX4 126 RX2 "SchoolRow$Child" ⟨"SchoolRow$Child", "forgetsOf", "(II)I"⟩ yX1_forgetsOf wsX1_forgetsOf) := goodIn_app (goodIn_of _ (by decide +kernel)) ggX4_passSummer_X1_forgetsOf
set_option maxRecDepth 20000 in
theorem ggX4_passSummer_X6_forgetsOf : GoodIn wsX4_passSummer wsX6_forgetsOf := goodIn_r _ [51] (by decide +kernel) (by decide +kernel)
set_option maxRecDepth 20000 in
theorem gX4_passSummer_X6_forgetsOf_u126X6 : GoodIn wsX4_passSummer (va_wsO RX4 126 RX6 "SchoolRow$Child" ⟨"SchoolRow$Child", "forgetsOf", "(II)I"⟩ yX6_forgetsOf wsX6_forgetsOf) := goodIn_app (goodIn_of _ (by decide +kernel)) ggX4_passSummer_X6_forgetsOf
set_option maxRecDepth 20000 in
theorem gX4_passSummer_X1_forgetsOf_u126X7 : GoodIn wsX4_passSummer (va_wsU RX4 126 RX7 "SchoolRow$Child" ⟨"SchoolRow$Child", "forgetsOf", "(II)I"⟩ yX1_forgetsOf wsX1_forgetsOf) := goodIn_app (goodIn_of _ (by decide +kernel)) ggX4_passSummer_X1_forgetsOf
set_option maxRecDepth 20000 in
theorem gX4_passSummer_X1_forgetsOf_u126X8 : GoodIn wsX4_passSummer (va_wsU RX4 126 RX8 "SchoolRow$Child" ⟨"SchoolRow$Child", "forgetsOf", "(II)I"⟩ yX1_forgetsOf wsX1_forgetsOf) := goodIn_app (goodIn_of _ (by decide +kernel)) ggX4_passSummer_X1_forgetsOf
set_option maxRecDepth 20000 in
theorem ggX4_passSummer_X0_put : GoodIn wsX4_passSummer wsX0_put := goodIn_r _ [57, 25, 72] (by decide +kernel) (by decide +kernel)
set_option maxRecDepth 20000 in
theorem gX4_passSummer_X0_put : GoodIn wsX4_passSummer (wsV RX4 33 RX0 yX0_put wsX0_put) := goodIn_app (goodIn_of _ (by decide +kernel)) ggX4_passSummer_X0_put
theorem dX4_passSummer_0 : decode cX4_passSummer 0 = .ok (.iconst 0, 1) := by decide +kernel
theorem dX4_passSummer_1 : decode cX4_passSummer 1 = .ok (.istore_n 1, 1) := by decide +kernel
theorem dX4_passSummer_2 : decode cX4_passSummer 2 = .ok (.iconst 0, 1) := by decide +kernel
theorem dX4_passSummer_3 : decode cX4_passSummer 3 = .ok (.istore_n 2, 1) := by decide +kernel
theorem dX4_passSummer_4 : decode cX4_passSummer 4 = .ok (.iload_n 2, 1) := by decide +kernel
theorem dX4_passSummer_5 : decode cX4_passSummer 5 = .ok (.aload_n 0, 1) := by decide +kernel
theorem dX4_passSummer_6 : decode cX4_passSummer 6 = .ok (.getfield 29, 3) := by decide +kernel
theorem dX4_passSummer_9 : decode cX4_passSummer 9 = .ok (.invokevirtual 52, 3) := by decide +kernel
theorem dX4_passSummer_12 : decode cX4_passSummer 12 = .ok (.if_icmp .ge 111, 3) := by decide +kernel
theorem dX4_passSummer_15 : decode cX4_passSummer 15 = .ok (.aload_n 0, 1) := by decide +kernel
theorem dX4_passSummer_16 : decode cX4_passSummer 16 = .ok (.getfield 29, 3) := by decide +kernel
theorem dX4_passSummer_19 : decode cX4_passSummer 19 = .ok (.iload_n 2, 1) := by decide +kernel
theorem dX4_passSummer_20 : decode cX4_passSummer 20 = .ok (.invokevirtual 105, 3) := by decide +kernel
theorem dX4_passSummer_23 : decode cX4_passSummer 23 = .ok (.astore_n 3, 1) := by decide +kernel
theorem dX4_passSummer_24 : decode cX4_passSummer 24 = .ok (.iconst 0, 1) := by decide +kernel
theorem dX4_passSummer_25 : decode cX4_passSummer 25 = .ok (.istore 4, 2) := by decide +kernel
theorem dX4_passSummer_27 : decode cX4_passSummer 27 = .ok (.iload 4, 2) := by decide +kernel
theorem dX4_passSummer_29 : decode cX4_passSummer 29 = .ok (.iconst 4, 1) := by decide +kernel
theorem dX4_passSummer_30 : decode cX4_passSummer 30 = .ok (.if_icmp .ge 87, 3) := by decide +kernel
theorem dX4_passSummer_33 : decode cX4_passSummer 33 = .ok (.iload_n 2, 1) := by decide +kernel
theorem dX4_passSummer_34 : decode cX4_passSummer 34 = .ok (.iload 4, 2) := by decide +kernel
theorem dX4_passSummer_36 : decode cX4_passSummer 36 = .ok (.invokestatic 73, 3) := by decide +kernel
theorem dX4_passSummer_39 : decode cX4_passSummer 39 = .ok (.istore 5, 2) := by decide +kernel
theorem dX4_passSummer_41 : decode cX4_passSummer 41 = .ok (.aload_n 3, 1) := by decide +kernel
theorem dX4_passSummer_42 : decode cX4_passSummer 42 = .ok (.aload_n 0, 1) := by decide +kernel
theorem dX4_passSummer_43 : decode cX4_passSummer 43 = .ok (.getfield 20, 3) := by decide +kernel
theorem dX4_passSummer_46 : decode cX4_passSummer 46 = .ok (.iload 5, 2) := by decide +kernel
theorem dX4_passSummer_48 : decode cX4_passSummer 48 = .ok (.invokevirtual 48, 3) := by decide +kernel
theorem dX4_passSummer_51 : decode cX4_passSummer 51 = .ok (.aload_n 0, 1) := by decide +kernel
theorem dX4_passSummer_52 : decode cX4_passSummer 52 = .ok (.getfield 29, 3) := by decide +kernel
theorem dX4_passSummer_55 : decode cX4_passSummer 55 = .ok (.invokevirtual 123, 3) := by decide +kernel
theorem dX4_passSummer_58 : decode cX4_passSummer 58 = .ok (.invokevirtual 126, 3) := by decide +kernel
theorem dX4_passSummer_61 : decode cX4_passSummer 61 = .ok (.istore 6, 2) := by decide +kernel
theorem dX4_passSummer_63 : decode cX4_passSummer 63 = .ok (.aload_n 0, 1) := by decide +kernel
theorem dX4_passSummer_64 : decode cX4_passSummer 64 = .ok (.getfield 20, 3) := by decide +kernel
theorem dX4_passSummer_67 : decode cX4_passSummer 67 = .ok (.iload 5, 2) := by decide +kernel
theorem dX4_passSummer_69 : decode cX4_passSummer 69 = .ok (.aload_n 0, 1) := by decide +kernel
theorem dX4_passSummer_70 : decode cX4_passSummer 70 = .ok (.getfield 20, 3) := by decide +kernel
theorem dX4_passSummer_73 : decode cX4_passSummer 73 = .ok (.iload 5, 2) := by decide +kernel
theorem dX4_passSummer_75 : decode cX4_passSummer 75 = .ok (.invokevirtual 48, 3) := by decide +kernel
theorem dX4_passSummer_78 : decode cX4_passSummer 78 = .ok (.iload 6, 2) := by decide +kernel
theorem dX4_passSummer_80 : decode cX4_passSummer 80 = .ok (.isub, 1) := by decide +kernel
theorem dX4_passSummer_81 : decode cX4_passSummer 81 = .ok (.invokevirtual 33, 3) := by decide +kernel
theorem dX4_passSummer_84 : decode cX4_passSummer 84 = .ok (.aload_n 0, 1) := by decide +kernel
theorem dX4_passSummer_85 : decode cX4_passSummer 85 = .ok (.getfield 20, 3) := by decide +kernel
theorem dX4_passSummer_88 : decode cX4_passSummer 88 = .ok (.iload 5, 2) := by decide +kernel
theorem dX4_passSummer_90 : decode cX4_passSummer 90 = .ok (.invokevirtual 48, 3) := by decide +kernel
theorem dX4_passSummer_93 : decode cX4_passSummer 93 = .ok (.ifCond .ne 13, 3) := by decide +kernel
theorem dX4_passSummer_96 : decode cX4_passSummer 96 = .ok (.aload_n 0, 1) := by decide +kernel
theorem dX4_passSummer_97 : decode cX4_passSummer 97 = .ok (.getfield 23, 3) := by decide +kernel
theorem dX4_passSummer_100 : decode cX4_passSummer 100 = .ok (.iload 5, 2) := by decide +kernel
theorem dX4_passSummer_102 : decode cX4_passSummer 102 = .ok (.iconst 0, 1) := by decide +kernel
theorem dX4_passSummer_103 : decode cX4_passSummer 103 = .ok (.invokevirtual 33, 3) := by decide +kernel
theorem dX4_passSummer_106 : decode cX4_passSummer 106 = .ok (.iload_n 1, 1) := by decide +kernel
theorem dX4_passSummer_107 : decode cX4_passSummer 107 = .ok (.iload 6, 2) := by decide +kernel
