theorem dX0_init_0 : decode cX0_init 0 = .ok (.aload_n 0, 1) := by decide +kernel
theorem dX0_init_1 : decode cX0_init 1 = .ok (.invokespecial 1, 3) := by decide +kernel
theorem dX0_init_4 : decode cX0_init 4 = .ok (.aload_n 0, 1) := by decide +kernel
theorem dX0_init_5 : decode cX0_init 5 = .ok (.iload_n 1, 1) := by decide +kernel
theorem dX0_init_6 : decode cX0_init 6 = .ok (.ifCond .ge 7, 3) := by decide +kernel
theorem dX0_init_9 : decode cX0_init 9 = .ok (.iconst 0, 1) := by decide +kernel
theorem dX0_init_10 : decode cX0_init 10 = .ok (.goto 4, 3) := by decide +kernel
theorem dX0_init_13 : decode cX0_init 13 = .ok (.iload_n 1, 1) := by decide +kernel
theorem dX0_init_14 : decode cX0_init 14 = .ok (.newarray .int, 2) := by decide +kernel
theorem dX0_init_16 : decode cX0_init 16 = .ok (.putfield 7, 3) := by decide +kernel
theorem dX0_init_19 : decode cX0_init 19 = .ok (.return_, 1) := by decide +kernel
theorem dX0_at_0 : decode cX0_at 0 = .ok (.iload_n 1, 1) := by decide +kernel
theorem dX0_at_1 : decode cX0_at 1 = .ok (.ifCond .lt 21, 3) := by decide +kernel
theorem dX0_at_4 : decode cX0_at 4 = .ok (.iload_n 1, 1) := by decide +kernel
theorem dX0_at_5 : decode cX0_at 5 = .ok (.aload_n 0, 1) := by decide +kernel
theorem dX0_at_6 : decode cX0_at 6 = .ok (.getfield 7, 3) := by decide +kernel
theorem dX0_at_9 : decode cX0_at 9 = .ok (.arraylength, 1) := by decide +kernel
theorem dX0_at_10 : decode cX0_at 10 = .ok (.if_icmp .ge 12, 3) := by decide +kernel
theorem dX0_at_13 : decode cX0_at 13 = .ok (.aload_n 0, 1) := by decide +kernel
theorem dX0_at_14 : decode cX0_at 14 = .ok (.getfield 7, 3) := by decide +kernel
theorem dX0_at_17 : decode cX0_at 17 = .ok (.iload_n 1, 1) := by decide +kernel
theorem dX0_at_18 : decode cX0_at 18 = .ok (.iaload, 1) := by decide +kernel
theorem dX0_at_19 : decode cX0_at 19 = .ok (.goto 4, 3) := by decide +kernel
theorem dX0_at_22 : decode cX0_at 22 = .ok (.iconst 0, 1) := by decide +kernel
theorem dX0_at_23 : decode cX0_at 23 = .ok (.ireturn, 1) := by decide +kernel
theorem dX0_put_0 : decode cX0_put 0 = .ok (.iload_n 1, 1) := by decide +kernel
theorem dX0_put_1 : decode cX0_put 1 = .ok (.ifCond .lt 19, 3) := by decide +kernel
theorem dX0_put_4 : decode cX0_put 4 = .ok (.iload_n 1, 1) := by decide +kernel
theorem dX0_put_5 : decode cX0_put 5 = .ok (.aload_n 0, 1) := by decide +kernel
theorem dX0_put_6 : decode cX0_put 6 = .ok (.getfield 7, 3) := by decide +kernel
theorem dX0_put_9 : decode cX0_put 9 = .ok (.arraylength, 1) := by decide +kernel
theorem dX0_put_10 : decode cX0_put 10 = .ok (.if_icmp .ge 10, 3) := by decide +kernel
theorem dX0_put_13 : decode cX0_put 13 = .ok (.aload_n 0, 1) := by decide +kernel
theorem dX0_put_14 : decode cX0_put 14 = .ok (.getfield 7, 3) := by decide +kernel
theorem dX0_put_17 : decode cX0_put 17 = .ok (.iload_n 1, 1) := by decide +kernel
theorem dX0_put_18 : decode cX0_put 18 = .ok (.iload_n 2, 1) := by decide +kernel
theorem dX0_put_19 : decode cX0_put 19 = .ok (.iastore, 1) := by decide +kernel
theorem dX0_put_20 : decode cX0_put 20 = .ok (.return_, 1) := by decide +kernel
theorem dX0_putAll_0 : decode cX0_putAll 0 = .ok (.iconst 0, 1) := by decide +kernel
theorem dX0_putAll_1 : decode cX0_putAll 1 = .ok (.istore_n 2, 1) := by decide +kernel
theorem dX0_putAll_2 : decode cX0_putAll 2 = .ok (.iload_n 2, 1) := by decide +kernel
theorem dX0_putAll_3 : decode cX0_putAll 3 = .ok (.aload_n 0, 1) := by decide +kernel
theorem dX0_putAll_4 : decode cX0_putAll 4 = .ok (.getfield 7, 3) := by decide +kernel
theorem dX0_putAll_7 : decode cX0_putAll 7 = .ok (.arraylength, 1) := by decide +kernel
theorem dX0_putAll_8 : decode cX0_putAll 8 = .ok (.if_icmp .ge 16, 3) := by decide +kernel
theorem dX0_putAll_11 : decode cX0_putAll 11 = .ok (.aload_n 0, 1) := by decide +kernel
theorem dX0_putAll_12 : decode cX0_putAll 12 = .ok (.getfield 7, 3) := by decide +kernel
theorem dX0_putAll_15 : decode cX0_putAll 15 = .ok (.iload_n 2, 1) := by decide +kernel
theorem dX0_putAll_16 : decode cX0_putAll 16 = .ok (.iload_n 1, 1) := by decide +kernel
theorem dX0_putAll_17 : decode cX0_putAll 17 = .ok (.iastore, 1) := by decide +kernel
theorem dX0_putAll_18 : decode cX0_putAll 18 = .ok (.iinc 2 1, 3) := by decide +kernel
theorem dX0_putAll_21 : decode cX0_putAll 21 = .ok (.goto (-19), 3) := by decide +kernel
theorem dX0_putAll_24 : decode cX0_putAll 24 = .ok (.return_, 1) := by decide +kernel
set_option maxRecDepth 20000 in
theorem ggX0_copyFrom_X0_at : GoodIn wsX0_copyFrom wsX0_at := goodIn_r _ [6, 1, 7] (by decide +kernel) (by decide +kernel)
set_option maxRecDepth 20000 in
theorem gX0_copyFrom_X0_at : GoodIn wsX0_copyFrom (wsV RX0 13 RX0 yX0_at wsX0_at) := goodIn_app (goodIn_of _ (by decide +kernel)) ggX0_copyFrom_X0_at
theorem dX0_copyFrom_0 : decode cX0_copyFrom 0 = .ok (.iconst 0, 1) := by decide +kernel
theorem dX0_copyFrom_1 : decode cX0_copyFrom 1 = .ok (.istore_n 2, 1) := by decide +kernel
theorem dX0_copyFrom_2 : decode cX0_copyFrom 2 = .ok (.iload_n 2, 1) := by decide +kernel
theorem dX0_copyFrom_3 : decode cX0_copyFrom 3 = .ok (.aload_n 0, 1) := by decide +kernel
theorem dX0_copyFrom_4 : decode cX0_copyFrom 4 = .ok (.getfield 7, 3) := by decide +kernel
theorem dX0_copyFrom_7 : decode cX0_copyFrom 7 = .ok (.arraylength, 1) := by decide +kernel
theorem dX0_copyFrom_8 : decode cX0_copyFrom 8 = .ok (.if_icmp .ge 20, 3) := by decide +kernel
theorem dX0_copyFrom_11 : decode cX0_copyFrom 11 = .ok (.aload_n 0, 1) := by decide +kernel
theorem dX0_copyFrom_12 : decode cX0_copyFrom 12 = .ok (.getfield 7, 3) := by decide +kernel
theorem dX0_copyFrom_15 : decode cX0_copyFrom 15 = .ok (.iload_n 2, 1) := by decide +kernel
theorem dX0_copyFrom_16 : decode cX0_copyFrom 16 = .ok (.aload_n 1, 1) := by decide +kernel
theorem dX0_copyFrom_17 : decode cX0_copyFrom 17 = .ok (.iload_n 2, 1) := by decide +kernel
theorem dX0_copyFrom_18 : decode cX0_copyFrom 18 = .ok (.invokevirtual 13, 3) := by decide +kernel
theorem dX0_copyFrom_21 : decode cX0_copyFrom 21 = .ok (.iastore, 1) := by decide +kernel
theorem dX0_copyFrom_22 : decode cX0_copyFrom 22 = .ok (.iinc 2 1, 3) := by decide +kernel
theorem dX0_copyFrom_25 : decode cX0_copyFrom 25 = .ok (.goto (-23), 3) := by decide +kernel
theorem dX0_copyFrom_28 : decode cX0_copyFrom 28 = .ok (.return_, 1) := by decide +kernel
theorem dX0_sum_0 : decode cX0_sum 0 = .ok (.iconst 0, 1) := by decide +kernel
theorem dX0_sum_1 : decode cX0_sum 1 = .ok (.istore_n 1, 1) := by decide +kernel
theorem dX0_sum_2 : decode cX0_sum 2 = .ok (.iconst 0, 1) := by decide +kernel
theorem dX0_sum_3 : decode cX0_sum 3 = .ok (.istore_n 2, 1) := by decide +kernel
theorem dX0_sum_4 : decode cX0_sum 4 = .ok (.iload_n 2, 1) := by decide +kernel
theorem dX0_sum_5 : decode cX0_sum 5 = .ok (.aload_n 0, 1) := by decide +kernel
theorem dX0_sum_6 : decode cX0_sum 6 = .ok (.getfield 7, 3) := by decide +kernel
theorem dX0_sum_9 : decode cX0_sum 9 = .ok (.arraylength, 1) := by decide +kernel
theorem dX0_sum_10 : decode cX0_sum 10 = .ok (.if_icmp .ge 18, 3) := by decide +kernel
theorem dX0_sum_13 : decode cX0_sum 13 = .ok (.iload_n 1, 1) := by decide +kernel
theorem dX0_sum_14 : decode cX0_sum 14 = .ok (.aload_n 0, 1) := by decide +kernel
theorem dX0_sum_15 : decode cX0_sum 15 = .ok (.getfield 7, 3) := by decide +kernel
theorem dX0_sum_18 : decode cX0_sum 18 = .ok (.iload_n 2, 1) := by decide +kernel
theorem dX0_sum_19 : decode cX0_sum 19 = .ok (.iaload, 1) := by decide +kernel
theorem dX0_sum_20 : decode cX0_sum 20 = .ok (.iadd, 1) := by decide +kernel
theorem dX0_sum_21 : decode cX0_sum 21 = .ok (.istore_n 1, 1) := by decide +kernel
theorem dX0_sum_22 : decode cX0_sum 22 = .ok (.iinc 2 1, 3) := by decide +kernel
theorem dX0_sum_25 : decode cX0_sum 25 = .ok (.goto (-21), 3) := by decide +kernel
theorem dX0_sum_28 : decode cX0_sum 28 = .ok (.iload_n 1, 1) := by decide +kernel
theorem dX0_sum_29 : decode cX0_sum 29 = .ok (.ireturn, 1) := by decide +kernel
set_option maxRecDepth 20000 in
theorem ggX0_sumOfBits_J6_bitCount_0f7a4 : GoodIn wsX0_sumOfBits wsJ6_bitCount_0f7a4 := goodIn_r _ [5, 6, 7, 8] (by decide +kernel) (by decide +kernel)
set_option maxRecDepth 20000 in
theorem gX0_sumOfBits_J6_bitCount_0f7a4 : GoodIn wsX0_sumOfBits (va_wsS RX0 17 yJ6_bitCount_0f7a4 wsJ6_bitCount_0f7a4) := goodIn_app (goodIn_of _ (by decide +kernel)) ggX0_sumOfBits_J6_bitCount_0f7a4
theorem dX0_sumOfBits_0 : decode cX0_sumOfBits 0 = .ok (.iconst 0, 1) := by decide +kernel
theorem dX0_sumOfBits_1 : decode cX0_sumOfBits 1 = .ok (.istore_n 1, 1) := by decide +kernel
theorem dX0_sumOfBits_2 : decode cX0_sumOfBits 2 = .ok (.iconst 0, 1) := by decide +kernel
theorem dX0_sumOfBits_3 : decode cX0_sumOfBits 3 = .ok (.istore_n 2, 1) := by decide +kernel
theorem dX0_sumOfBits_4 : decode cX0_sumOfBits 4 = .ok (.iload_n 2, 1) := by decide +kernel
theorem dX0_sumOfBits_5 : decode cX0_sumOfBits 5 = .ok (.aload_n 0, 1) := by decide +kernel
theorem dX0_sumOfBits_6 : decode cX0_sumOfBits 6 = .ok (.getfield 7, 3) := by decide +kernel
theorem dX0_sumOfBits_9 : decode cX0_sumOfBits 9 = .ok (.arraylength, 1) := by decide +kernel
theorem dX0_sumOfBits_10 : decode cX0_sumOfBits 10 = .ok (.if_icmp .ge 21, 3) := by decide +kernel
theorem dX0_sumOfBits_13 : decode cX0_sumOfBits 13 = .ok (.iload_n 1, 1) := by decide +kernel
theorem dX0_sumOfBits_14 : decode cX0_sumOfBits 14 = .ok (.aload_n 0, 1) := by decide +kernel
theorem dX0_sumOfBits_15 : decode cX0_sumOfBits 15 = .ok (.getfield 7, 3) := by decide +kernel
theorem dX0_sumOfBits_18 : decode cX0_sumOfBits 18 = .ok (.iload_n 2, 1) := by decide +kernel
theorem dX0_sumOfBits_19 : decode cX0_sumOfBits 19 = .ok (.iaload, 1) := by decide +kernel
theorem dX0_sumOfBits_20 : decode cX0_sumOfBits 20 = .ok (.invokestatic 17, 3) := by decide +kernel
theorem dX0_sumOfBits_23 : decode cX0_sumOfBits 23 = .ok (.iadd, 1) := by decide +kernel
theorem dX0_sumOfBits_24 : decode cX0_sumOfBits 24 = .ok (.istore_n 1, 1) := by decide +kernel
theorem dX0_sumOfBits_25 : decode cX0_sumOfBits 25 = .ok (.iinc 2 1, 3) := by decide +kernel
theorem dX0_sumOfBits_28 : decode cX0_sumOfBits 28 = .ok (.goto (-24), 3) := by decide +kernel
theorem dX0_sumOfBits_31 : decode cX0_sumOfBits 31 = .ok (.iload_n 1, 1) := by decide +kernel
theorem dX0_sumOfBits_32 : decode cX0_sumOfBits 32 = .ok (.ireturn, 1) := by decide +kernel
theorem dX1_init_0 : decode cX1_init 0 = .ok (.aload_n 0, 1) := by decide +kernel
theorem dX1_init_1 : decode cX1_init 1 = .ok (.invokespecial 1, 3) := by decide +kernel
theorem dX1_init_4 : decode cX1_init 4 = .ok (.return_, 1) := by decide +kernel
set_option maxRecDepth 20000 in
theorem ggX1_losesOf_X1_roundedUpTenths : GoodIn wsX1_losesOf wsX1_roundedUpTenths := goodIn_r _ [4] (by decide +kernel) (by decide +kernel)
set_option maxRecDepth 20000 in
theorem gX1_losesOf_X1_roundedUpTenths : GoodIn wsX1_losesOf (va_wsS RX1 7 yX1_roundedUpTenths wsX1_roundedUpTenths) := goodIn_app (goodIn_of _ (by decide +kernel)) ggX1_losesOf_X1_roundedUpTenths
theorem dX1_losesOf_0 : decode cX1_losesOf 0 = .ok (.iload_n 1, 1) := by decide +kernel
theorem dX1_losesOf_1 : decode cX1_losesOf 1 = .ok (.iload_n 2, 1) := by decide +kernel
theorem dX1_losesOf_2 : decode cX1_losesOf 2 = .ok (.invokestatic 7, 3) := by decide +kernel
theorem dX1_losesOf_5 : decode cX1_losesOf 5 = .ok (.ireturn, 1) := by decide +kernel
theorem dX1_givesOf_0 : decode cX1_givesOf 0 = .ok (.iload_n 1, 1) := by decide +kernel
theorem dX1_givesOf_1 : decode cX1_givesOf 1 = .ok (.iload_n 2, 1) := by decide +kernel
theorem dX1_givesOf_2 : decode cX1_givesOf 2 = .ok (.ior, 1) := by decide +kernel
theorem dX1_givesOf_3 : decode cX1_givesOf 3 = .ok (.ireturn, 1) := by decide +kernel
theorem dX1_takesOf_0 : decode cX1_takesOf 0 = .ok (.iload_n 1, 1) := by decide +kernel
theorem dX1_takesOf_1 : decode cX1_takesOf 1 = .ok (.ireturn, 1) := by decide +kernel
set_option maxRecDepth 20000 in
theorem ggX1_forgetsOf_X1_roundedUpTenths : GoodIn wsX1_forgetsOf wsX1_roundedUpTenths := goodIn_r _ [4] (by decide +kernel) (by decide +kernel)
set_option maxRecDepth 20000 in
theorem gX1_forgetsOf_X1_roundedUpTenths : GoodIn wsX1_forgetsOf (va_wsS RX1 7 yX1_roundedUpTenths wsX1_roundedUpTenths) := goodIn_app (goodIn_of _ (by decide +kernel)) ggX1_forgetsOf_X1_roundedUpTenths
theorem dX1_forgetsOf_0 : decode cX1_forgetsOf 0 = .ok (.iload_n 1, 1) := by decide +kernel
theorem dX1_forgetsOf_1 : decode cX1_forgetsOf 1 = .ok (.iload_n 2, 1) := by decide +kernel
theorem dX1_forgetsOf_2 : decode cX1_forgetsOf 2 = .ok (.invokestatic 7, 3) := by decide +kernel
theorem dX1_forgetsOf_5 : decode cX1_forgetsOf 5 = .ok (.ireturn, 1) := by decide +kernel
theorem dX1_roundedUpTenths_0 : decode cX1_roundedUpTenths 0 = .ok (.iload_n 0, 1) := by decide +kernel
theorem dX1_roundedUpTenths_1 : decode cX1_roundedUpTenths 1 = .ok (.iload_n 1, 1) := by decide +kernel
theorem dX1_roundedUpTenths_2 : decode cX1_roundedUpTenths 2 = .ok (.imul, 1) := by decide +kernel
theorem dX1_roundedUpTenths_3 : decode cX1_roundedUpTenths 3 = .ok (.bipush 9, 2) := by decide +kernel
theorem dX1_roundedUpTenths_5 : decode cX1_roundedUpTenths 5 = .ok (.iadd, 1) := by decide +kernel
theorem dX1_roundedUpTenths_6 : decode cX1_roundedUpTenths 6 = .ok (.bipush 10, 2) := by decide +kernel
theorem dX1_roundedUpTenths_8 : decode cX1_roundedUpTenths 8 = .ok (.idiv, 1) := by decide +kernel
theorem dX1_roundedUpTenths_9 : decode cX1_roundedUpTenths 9 = .ok (.ireturn, 1) := by decide +kernel
set_option maxRecDepth 20000 in
theorem ggX2_init_X1_init : GoodIn wsX2_init wsX1_init := goodIn_r _ [3, 4, 5, 6] (by decide +kernel) (by decide +kernel)
set_option maxRecDepth 20000 in
theorem gX2_init_X1_init_n1 : GoodIn wsX2_init (wsX1_init) := ggX2_init_X1_init
theorem dX2_init_0 : decode cX2_init 0 = .ok (.aload_n 0, 1) := by decide +kernel
theorem dX2_init_1 : decode cX2_init 1 = .ok (.invokespecial 1, 3) := by decide +kernel
theorem dX2_init_4 : decode cX2_init 4 = .ok (.return_, 1) := by decide +kernel
theorem dX2_takesOf_0 : decode cX2_takesOf 0 = .ok (.iload_n 1, 1) := by decide +kernel
theorem dX2_takesOf_1 : decode cX2_takesOf 1 = .ok (.iload_n 2, 1) := by decide +kernel
theorem dX2_takesOf_2 : decode cX2_takesOf 2 = .ok (.iand, 1) := by decide +kernel
theorem dX2_takesOf_3 : decode cX2_takesOf 3 = .ok (.ireturn, 1) := by decide +kernel
set_option maxRecDepth 20000 in
theorem ggX3_init_X0_init : GoodIn wsX3_init wsX0_init := goodIn_r _ [10, 11, 2, 3, 12, 13, 14] (by decide +kernel) (by decide +kernel)
set_option maxRecDepth 20000 in
theorem gX3_init_X0_init : GoodIn wsX3_init (wsX0_init) := ggX3_init_X0_init
theorem dX3_init_0 : decode cX3_init 0 = .ok (.aload_n 0, 1) := by decide +kernel
theorem dX3_init_1 : decode cX3_init 1 = .ok (.invokespecial 3, 3) := by decide +kernel
theorem dX3_init_4 : decode cX3_init 4 = .ok (.aload_n 0, 1) := by decide +kernel
theorem dX3_init_5 : decode cX3_init 5 = .ok (.new 9, 3) := by decide +kernel
theorem dX3_init_8 : decode cX3_init 8 = .ok (.dup, 1) := by decide +kernel
theorem dX3_init_9 : decode cX3_init 9 = .ok (.bipush 14, 2) := by decide +kernel
theorem dX3_init_11 : decode cX3_init 11 = .ok (.invokespecial 11, 3) := by decide +kernel
theorem dX3_init_14 : decode cX3_init 14 = .ok (.putfield 14, 3) := by decide +kernel
theorem dX3_init_17 : decode cX3_init 17 = .ok (.return_, 1) := by decide +kernel
theorem dX3_length_0 : decode cX3_length 0 = .ok (.aload_n 0, 1) := by decide +kernel
theorem dX3_length_1 : decode cX3_length 1 = .ok (.getfield 20, 3) := by decide +kernel
theorem dX3_length_4 : decode cX3_length 4 = .ok (.ireturn, 1) := by decide +kernel
set_option maxRecDepth 20000 in
theorem ggX3_letterAt_X0_at : GoodIn wsX3_letterAt wsX0_at := goodIn_r _ [6, 7, 10] (by decide +kernel) (by decide +kernel)
set_option maxRecDepth 20000 in
theorem gX3_letterAt_X0_at : GoodIn wsX3_letterAt (wsV RX3 24 RX0 yX0_at wsX0_at) := goodIn_app (goodIn_of _ (by decide +kernel)) ggX3_letterAt_X0_at
theorem dX3_letterAt_0 : decode cX3_letterAt 0 = .ok (.aload_n 0, 1) := by decide +kernel
theorem dX3_letterAt_1 : decode cX3_letterAt 1 = .ok (.getfield 14, 3) := by decide +kernel
theorem dX3_letterAt_4 : decode cX3_letterAt 4 = .ok (.iload_n 1, 1) := by decide +kernel
theorem dX3_letterAt_5 : decode cX3_letterAt 5 = .ok (.invokevirtual 24, 3) := by decide +kernel
theorem dX3_letterAt_8 : decode cX3_letterAt 8 = .ok (.ireturn, 1) := by decide +kernel
set_option maxRecDepth 20000 in
theorem ggX3_add_X0_put : GoodIn wsX3_add wsX0_put := goodIn_r _ [7, 8, 11] (by decide +kernel) (by decide +kernel)
set_option maxRecDepth 20000 in
theorem gX3_add_X0_put : GoodIn wsX3_add (wsV RX3 28 RX0 yX0_put wsX0_put) := goodIn_app (goodIn_of _ (by decide +kernel)) ggX3_add_X0_put
theorem dX3_add_0 : decode cX3_add 0 = .ok (.aload_n 0, 1) := by decide +kernel
theorem dX3_add_1 : decode cX3_add 1 = .ok (.getfield 20, 3) := by decide +kernel
theorem dX3_add_4 : decode cX3_add 4 = .ok (.bipush 14, 2) := by decide +kernel
theorem dX3_add_6 : decode cX3_add 6 = .ok (.if_icmp .ge 25, 3) := by decide +kernel
theorem dX3_add_9 : decode cX3_add 9 = .ok (.aload_n 0, 1) := by decide +kernel
theorem dX3_add_10 : decode cX3_add 10 = .ok (.getfield 14, 3) := by decide +kernel
theorem dX3_add_13 : decode cX3_add 13 = .ok (.aload_n 0, 1) := by decide +kernel
theorem dX3_add_14 : decode cX3_add 14 = .ok (.getfield 20, 3) := by decide +kernel
theorem dX3_add_17 : decode cX3_add 17 = .ok (.iload_n 1, 1) := by decide +kernel
theorem dX3_add_18 : decode cX3_add 18 = .ok (.invokevirtual 28, 3) := by decide +kernel
theorem dX3_add_21 : decode cX3_add 21 = .ok (.aload_n 0, 1) := by decide +kernel
theorem dX3_add_22 : decode cX3_add 22 = .ok (.dup, 1) := by decide +kernel
theorem dX3_add_23 : decode cX3_add 23 = .ok (.getfield 20, 3) := by decide +kernel
theorem dX3_add_26 : decode cX3_add 26 = .ok (.iconst 1, 1) := by decide +kernel
theorem dX3_add_27 : decode cX3_add 27 = .ok (.iadd, 1) := by decide +kernel
theorem dX3_add_28 : decode cX3_add 28 = .ok (.putfield 20, 3) := by decide +kernel
theorem dX3_add_31 : decode cX3_add 31 = .ok (.return_, 1) := by decide +kernel
theorem dX3_clear_0 : decode cX3_clear 0 = .ok (.aload_n 0, 1) := by decide +kernel
theorem dX3_clear_1 : decode cX3_clear 1 = .ok (.iconst 0, 1) := by decide +kernel
theorem dX3_clear_2 : decode cX3_clear 2 = .ok (.putfield 20, 3) := by decide +kernel
theorem dX3_clear_5 : decode cX3_clear 5 = .ok (.return_, 1) := by decide +kernel
set_option maxRecDepth 20000 in
theorem ggX3_isSchool_X3_firstFault : GoodIn wsX3_isSchool wsX3_firstFault := goodIn_r _ [6, 1, 7, 8, 9, 10, 11, 12, 13, 14, 15, 5, 16, 17, 18, 19, 20, 21, 22, 23] (by decide +kernel) (by decide +kernel)
set_option maxRecDepth 20000 in
theorem gX3_isSchool_X3_firstFault : GoodIn wsX3_isSchool (wsV RX3 32 RX3 yX3_firstFault wsX3_firstFault) := goodIn_app (goodIn_of _ (by decide +kernel)) ggX3_isSchool_X3_firstFault
theorem dX3_isSchool_0 : decode cX3_isSchool 0 = .ok (.aload_n 0, 1) := by decide +kernel
theorem dX3_isSchool_1 : decode cX3_isSchool 1 = .ok (.getfield 20, 3) := by decide +kernel
theorem dX3_isSchool_4 : decode cX3_isSchool 4 = .ok (.bipush 7, 2) := by decide +kernel
theorem dX3_isSchool_6 : decode cX3_isSchool 6 = .ok (.if_icmp .le 18, 3) := by decide +kernel
theorem dX3_isSchool_9 : decode cX3_isSchool 9 = .ok (.aload_n 0, 1) := by decide +kernel
theorem dX3_isSchool_10 : decode cX3_isSchool 10 = .ok (.invokevirtual 32, 3) := by decide +kernel
theorem dX3_isSchool_13 : decode cX3_isSchool 13 = .ok (.aload_n 0, 1) := by decide +kernel
theorem dX3_isSchool_14 : decode cX3_isSchool 14 = .ok (.getfield 20, 3) := by decide +kernel
theorem dX3_isSchool_17 : decode cX3_isSchool 17 = .ok (.if_icmp .ne 7, 3) := by decide +kernel
theorem dX3_isSchool_20 : decode cX3_isSchool 20 = .ok (.iconst 1, 1) := by decide +kernel
theorem dX3_isSchool_21 : decode cX3_isSchool 21 = .ok (.goto 4, 3) := by decide +kernel
theorem dX3_isSchool_24 : decode cX3_isSchool 24 = .ok (.iconst 0, 1) := by decide +kernel
theorem dX3_isSchool_25 : decode cX3_isSchool 25 = .ok (.ireturn, 1) := by decide +kernel
set_option maxRecDepth 20000 in
theorem ggX3_firstFault_X0_at : GoodIn wsX3_firstFault wsX0_at := goodIn_r _ [7, 8, 19] (by decide +kernel) (by decide +kernel)
set_option maxRecDepth 20000 in
theorem gX3_firstFault_X0_at : GoodIn wsX3_firstFault (wsV RX3 24 RX0 yX0_at wsX0_at) := goodIn_app (goodIn_of _ (by decide +kernel)) ggX3_firstFault_X0_at
set_option maxRecDepth 20000 in
theorem ggX3_firstFault_X3_mayStand : GoodIn wsX3_firstFault wsX3_mayStand := goodIn_r _ [12, 13, 14, 15, 16] (by decide +kernel) (by decide +kernel)
set_option maxRecDepth 20000 in
theorem gX3_firstFault_X3_mayStand : GoodIn wsX3_firstFault (va_wsS RX3 36 yX3_mayStand wsX3_mayStand) := goodIn_app (goodIn_of _ (by decide +kernel)) ggX3_firstFault_X3_mayStand
theorem dX3_firstFault_0 : decode cX3_firstFault 0 = .ok (.iconst 0, 1) := by decide +kernel
theorem dX3_firstFault_1 : decode cX3_firstFault 1 = .ok (.istore_n 1, 1) := by decide +kernel
theorem dX3_firstFault_2 : decode cX3_firstFault 2 = .ok (.iload_n 1, 1) := by decide +kernel
theorem dX3_firstFault_3 : decode cX3_firstFault 3 = .ok (.aload_n 0, 1) := by decide +kernel
theorem dX3_firstFault_4 : decode cX3_firstFault 4 = .ok (.getfield 20, 3) := by decide +kernel
theorem dX3_firstFault_7 : decode cX3_firstFault 7 = .ok (.if_icmp .ge 26, 3) := by decide +kernel
theorem dX3_firstFault_10 : decode cX3_firstFault 10 = .ok (.aload_n 0, 1) := by decide +kernel
theorem dX3_firstFault_11 : decode cX3_firstFault 11 = .ok (.getfield 14, 3) := by decide +kernel
theorem dX3_firstFault_14 : decode cX3_firstFault 14 = .ok (.iload_n 1, 1) := by decide +kernel
theorem dX3_firstFault_15 : decode cX3_firstFault 15 = .ok (.invokevirtual 24, 3) := by decide +kernel
theorem dX3_firstFault_18 : decode cX3_firstFault 18 = .ok (.iload_n 1, 1) := by decide +kernel
theorem dX3_firstFault_19 : decode cX3_firstFault 19 = .ok (.invokestatic 36, 3) := by decide +kernel
theorem dX3_firstFault_22 : decode cX3_firstFault 22 = .ok (.ifCond .ne 5, 3) := by decide +kernel
theorem dX3_firstFault_25 : decode cX3_firstFault 25 = .ok (.iload_n 1, 1) := by decide +kernel
theorem dX3_firstFault_26 : decode cX3_firstFault 26 = .ok (.ireturn, 1) := by decide +kernel
theorem dX3_firstFault_27 : decode cX3_firstFault 27 = .ok (.iinc 1 1, 3) := by decide +kernel
theorem dX3_firstFault_30 : decode cX3_firstFault 30 = .ok (.goto (-28), 3) := by decide +kernel
theorem dX3_firstFault_33 : decode cX3_firstFault 33 = .ok (.aload_n 0, 1) := by decide +kernel
theorem dX3_firstFault_34 : decode cX3_firstFault 34 = .ok (.getfield 20, 3) := by decide +kernel
theorem dX3_firstFault_37 : decode cX3_firstFault 37 = .ok (.ireturn, 1) := by decide +kernel
set_option maxRecDepth 20000 in
theorem ggX3_mayStand_X5_kindBy : GoodIn wsX3_mayStand wsX5_kindBy := goodIn_r _ [4] (by decide +kernel) (by decide +kernel)
set_option maxRecDepth 20000 in
theorem gX3_mayStand_X5_kindBy : GoodIn wsX3_mayStand (va_wsS RX3 40 yX5_kindBy wsX5_kindBy) := goodIn_app (goodIn_of _ (by decide +kernel)) ggX3_mayStand_X5_kindBy
theorem dX3_mayStand_0 : decode cX3_mayStand 0 = .ok (.iload_n 1, 1) := by decide +kernel
theorem dX3_mayStand_1 : decode cX3_mayStand 1 = .ok (.iconst 2, 1) := by decide +kernel
theorem dX3_mayStand_2 : decode cX3_mayStand 2 = .ok (.if_icmp .ge 21, 3) := by decide +kernel
theorem dX3_mayStand_5 : decode cX3_mayStand 5 = .ok (.iload_n 0, 1) := by decide +kernel
theorem dX3_mayStand_6 : decode cX3_mayStand 6 = .ok (.bipush 48, 2) := by decide +kernel
theorem dX3_mayStand_8 : decode cX3_mayStand 8 = .ok (.if_icmp .lt 13, 3) := by decide +kernel
theorem dX3_mayStand_11 : decode cX3_mayStand 11 = .ok (.iload_n 0, 1) := by decide +kernel
theorem dX3_mayStand_12 : decode cX3_mayStand 12 = .ok (.bipush 57, 2) := by decide +kernel
theorem dX3_mayStand_14 : decode cX3_mayStand 14 = .ok (.if_icmp .gt 7, 3) := by decide +kernel
theorem dX3_mayStand_17 : decode cX3_mayStand 17 = .ok (.iconst 1, 1) := by decide +kernel
theorem dX3_mayStand_18 : decode cX3_mayStand 18 = .ok (.goto 4, 3) := by decide +kernel
theorem dX3_mayStand_21 : decode cX3_mayStand 21 = .ok (.iconst 0, 1) := by decide +kernel
theorem dX3_mayStand_22 : decode cX3_mayStand 22 = .ok (.ireturn, 1) := by decide +kernel
theorem dX3_mayStand_23 : decode cX3_mayStand 23 = .ok (.iload_n 1, 1) := by decide +kernel
theorem dX3_mayStand_24 : decode cX3_mayStand 24 = .ok (.bipush 6, 2) := by decide +kernel
theorem dX3_mayStand_26 : decode cX3_mayStand 26 = .ok (.if_icmp .ge 21, 3) := by decide +kernel
theorem dX3_mayStand_29 : decode cX3_mayStand 29 = .ok (.iload_n 0, 1) := by decide +kernel
theorem dX3_mayStand_30 : decode cX3_mayStand 30 = .ok (.bipush 49, 2) := by decide +kernel
theorem dX3_mayStand_32 : decode cX3_mayStand 32 = .ok (.if_icmp .lt 13, 3) := by decide +kernel
theorem dX3_mayStand_35 : decode cX3_mayStand 35 = .ok (.iload_n 0, 1) := by decide +kernel
theorem dX3_mayStand_36 : decode cX3_mayStand 36 = .ok (.bipush 57, 2) := by decide +kernel
theorem dX3_mayStand_38 : decode cX3_mayStand 38 = .ok (.if_icmp .gt 7, 3) := by decide +kernel
theorem dX3_mayStand_41 : decode cX3_mayStand 41 = .ok (.iconst 1, 1) := by decide +kernel
theorem dX3_mayStand_42 : decode cX3_mayStand 42 = .ok (.goto 4, 3) := by decide +kernel
theorem dX3_mayStand_45 : decode cX3_mayStand 45 = .ok (.iconst 0, 1) := by decide +kernel
theorem dX3_mayStand_46 : decode cX3_mayStand 46 = .ok (.ireturn, 1) := by decide +kernel
theorem dX3_mayStand_47 : decode cX3_mayStand 47 = .ok (.iload_n 1, 1) := by decide +kernel
theorem dX3_mayStand_48 : decode cX3_mayStand 48 = .ok (.bipush 7, 2) := by decide +kernel
theorem dX3_mayStand_50 : decode cX3_mayStand 50 = .ok (.if_icmp .ge 15, 3) := by decide +kernel
theorem dX3_mayStand_53 : decode cX3_mayStand 53 = .ok (.iload_n 0, 1) := by decide +kernel
theorem dX3_mayStand_54 : decode cX3_mayStand 54 = .ok (.bipush 58, 2) := by decide +kernel
theorem dX3_mayStand_56 : decode cX3_mayStand 56 = .ok (.if_icmp .ne 7, 3) := by decide +kernel
theorem dX3_mayStand_59 : decode cX3_mayStand 59 = .ok (.iconst 1, 1) := by decide +kernel
theorem dX3_mayStand_60 : decode cX3_mayStand 60 = .ok (.goto 4, 3) := by decide +kernel
theorem dX3_mayStand_63 : decode cX3_mayStand 63 = .ok (.iconst 0, 1) := by decide +kernel
theorem dX3_mayStand_64 : decode cX3_mayStand 64 = .ok (.ireturn, 1) := by decide +kernel
theorem dX3_mayStand_65 : decode cX3_mayStand 65 = .ok (.iload_n 1, 1) := by decide +kernel
theorem dX3_mayStand_66 : decode cX3_mayStand 66 = .ok (.bipush 13, 2) := by decide +kernel
theorem dX3_mayStand_68 : decode cX3_mayStand 68 = .ok (.if_icmp .ge 15, 3) := by decide +kernel
theorem dX3_mayStand_71 : decode cX3_mayStand 71 = .ok (.iload_n 0, 1) := by decide +kernel
theorem dX3_mayStand_72 : decode cX3_mayStand 72 = .ok (.invokestatic 40, 3) := by decide +kernel
theorem dX3_mayStand_75 : decode cX3_mayStand 75 = .ok (.iconst (-1), 1) := by decide +kernel
theorem dX3_mayStand_76 : decode cX3_mayStand 76 = .ok (.if_icmp .eq 7, 3) := by decide +kernel
theorem dX3_mayStand_79 : decode cX3_mayStand 79 = .ok (.iconst 1, 1) := by decide +kernel
theorem dX3_mayStand_80 : decode cX3_mayStand 80 = .ok (.goto 4, 3) := by decide +kernel
theorem dX3_mayStand_83 : decode cX3_mayStand 83 = .ok (.iconst 0, 1) := by decide +kernel
theorem dX3_mayStand_84 : decode cX3_mayStand 84 = .ok (.ireturn, 1) := by decide +kernel
set_option maxRecDepth 20000 in
theorem ggX4_init_X0_init : GoodIn wsX4_init wsX0_init := goodIn_r _ [14, 15, 2, 3, 16, 17, 18] (by decide +kernel) (by decide +kernel)
set_option maxRecDepth 20000 in
theorem gX4_init_X0_init : GoodIn wsX4_init (wsX0_init) := ggX4_init_X0_init
theorem dX4_init_0 : decode cX4_init 0 = .ok (.aload_n 0, 1) := by decide +kernel
theorem dX4_init_1 : decode cX4_init 1 = .ok (.invokespecial 3, 3) := by decide +kernel
theorem dX4_init_4 : decode cX4_init 4 = .ok (.aload_n 0, 1) := by decide +kernel
theorem dX4_init_5 : decode cX4_init 5 = .ok (.new 9, 3) := by decide +kernel
theorem dX4_init_8 : decode cX4_init 8 = .ok (.dup, 1) := by decide +kernel
theorem dX4_init_9 : decode cX4_init 9 = .ok (.bipush 6, 2) := by decide +kernel
theorem dX4_init_11 : decode cX4_init 11 = .ok (.invokespecial 11, 3) := by decide +kernel
theorem dX4_init_14 : decode cX4_init 14 = .ok (.putfield 14, 3) := by decide +kernel
theorem dX4_init_17 : decode cX4_init 17 = .ok (.aload_n 0, 1) := by decide +kernel
theorem dX4_init_18 : decode cX4_init 18 = .ok (.new 9, 3) := by decide +kernel
theorem dX4_init_21 : decode cX4_init 21 = .ok (.dup, 1) := by decide +kernel
theorem dX4_init_22 : decode cX4_init 22 = .ok (.bipush 24, 2) := by decide +kernel
theorem dX4_init_24 : decode cX4_init 24 = .ok (.invokespecial 11, 3) := by decide +kernel
theorem dX4_init_27 : decode cX4_init 27 = .ok (.putfield 20, 3) := by decide +kernel
theorem dX4_init_30 : decode cX4_init 30 = .ok (.aload_n 0, 1) := by decide +kernel
theorem dX4_init_31 : decode cX4_init 31 = .ok (.new 9, 3) := by decide +kernel
theorem dX4_init_34 : decode cX4_init 34 = .ok (.dup, 1) := by decide +kernel
theorem dX4_init_35 : decode cX4_init 35 = .ok (.bipush 24, 2) := by decide +kernel
theorem dX4_init_37 : decode cX4_init 37 = .ok (.invokespecial 11, 3) := by decide +kernel
theorem dX4_init_40 : decode cX4_init 40 = .ok (.putfield 23, 3) := by decide +kernel
theorem dX4_init_43 : decode cX4_init 43 = .ok (.aload_n 0, 1) := by decide +kernel
theorem dX4_init_44 : decode cX4_init 44 = .ok (.new 9, 3) := by decide +kernel
theorem dX4_init_47 : decode cX4_init 47 = .ok (.dup, 1) := by decide +kernel
theorem dX4_init_48 : decode cX4_init 48 = .ok (.bipush 6, 2) := by decide +kernel
theorem dX4_init_50 : decode cX4_init 50 = .ok (.invokespecial 11, 3) := by decide +kernel
theorem dX4_init_53 : decode cX4_init 53 = .ok (.putfield 26, 3) := by decide +kernel
theorem dX4_init_56 : decode cX4_init 56 = .ok (.aload_n 0, 1) := by decide +kernel
theorem dX4_init_57 : decode cX4_init 57 = .ok (.aload_n 1, 1) := by decide +kernel
theorem dX4_init_58 : decode cX4_init 58 = .ok (.putfield 29, 3) := by decide +kernel
theorem dX4_init_61 : decode cX4_init 61 = .ok (.return_, 1) := by decide +kernel
set_option maxRecDepth 20000 in
theorem ggX4_startAfresh_X0_put : GoodIn wsX4_startAfresh wsX0_put := goodIn_r _ [10, 11, 22] (by decide +kernel) (by decide +kernel)
set_option maxRecDepth 20000 in
theorem gX4_startAfresh_X0_put : GoodIn wsX4_startAfresh (wsV RX4 33 RX0 yX0_put wsX0_put) := goodIn_app (goodIn_of _ (by decide +kernel)) ggX4_startAfresh_X0_put
set_option maxRecDepth 20000 in
theorem ggX4_startAfresh_X0_putAll : GoodIn wsX4_startAfresh wsX0_putAll := goodIn_r _ [15, 11, 22] (by decide +kernel) (by decide +kernel)
set_option maxRecDepth 20000 in
theorem gX4_startAfresh_X0_putAll : GoodIn wsX4_startAfresh (wsV RX4 37 RX0 yX0_putAll wsX0_putAll) := goodIn_app (goodIn_of _ (by decide +kernel)) ggX4_startAfresh_X0_putAll
theorem dX4_startAfresh_0 : decode cX4_startAfresh 0 = .ok (.iconst 0, 1) := by decide +kernel
theorem dX4_startAfresh_1 : decode cX4_startAfresh 1 = .ok (.istore_n 1, 1) := by decide +kernel
theorem dX4_startAfresh_2 : decode cX4_startAfresh 2 = .ok (.iload_n 1, 1) := by decide +kernel
theorem dX4_startAfresh_3 : decode cX4_startAfresh 3 = .ok (.bipush 6, 2) := by decide +kernel
theorem dX4_startAfresh_5 : decode cX4_startAfresh 5 = .ok (.if_icmp .ge 18, 3) := by decide +kernel
theorem dX4_startAfresh_8 : decode cX4_startAfresh 8 = .ok (.aload_n 0, 1) := by decide +kernel
theorem dX4_startAfresh_9 : decode cX4_startAfresh 9 = .ok (.getfield 14, 3) := by decide +kernel
theorem dX4_startAfresh_12 : decode cX4_startAfresh 12 = .ok (.iload_n 1, 1) := by decide +kernel
theorem dX4_startAfresh_13 : decode cX4_startAfresh 13 = .ok (.iload_n 1, 1) := by decide +kernel
theorem dX4_startAfresh_14 : decode cX4_startAfresh 14 = .ok (.invokevirtual 33, 3) := by decide +kernel
theorem dX4_startAfresh_17 : decode cX4_startAfresh 17 = .ok (.iinc 1 1, 3) := by decide +kernel
theorem dX4_startAfresh_20 : decode cX4_startAfresh 20 = .ok (.goto (-18), 3) := by decide +kernel
theorem dX4_startAfresh_23 : decode cX4_startAfresh 23 = .ok (.aload_n 0, 1) := by decide +kernel
theorem dX4_startAfresh_24 : decode cX4_startAfresh 24 = .ok (.getfield 20, 3) := by decide +kernel
theorem dX4_startAfresh_27 : decode cX4_startAfresh 27 = .ok (.iconst 0, 1) := by decide +kernel
theorem dX4_startAfresh_28 : decode cX4_startAfresh 28 = .ok (.invokevirtual 37, 3) := by decide +kernel
theorem dX4_startAfresh_31 : decode cX4_startAfresh 31 = .ok (.aload_n 0, 1) := by decide +kernel
theorem dX4_startAfresh_32 : decode cX4_startAfresh 32 = .ok (.getfield 23, 3) := by decide +kernel
theorem dX4_startAfresh_35 : decode cX4_startAfresh 35 = .ok (.iconst 0, 1) := by decide +kernel
theorem dX4_startAfresh_36 : decode cX4_startAfresh 36 = .ok (.invokevirtual 37, 3) := by decide +kernel
theorem dX4_startAfresh_39 : decode cX4_startAfresh 39 = .ok (.aload_n 0, 1) := by decide +kernel
theorem dX4_startAfresh_40 : decode cX4_startAfresh 40 = .ok (.getfield 26, 3) := by decide +kernel
theorem dX4_startAfresh_43 : decode cX4_startAfresh 43 = .ok (.iconst (-1), 1) := by decide +kernel
theorem dX4_startAfresh_44 : decode cX4_startAfresh 44 = .ok (.invokevirtual 37, 3) := by decide +kernel
theorem dX4_startAfresh_47 : decode cX4_startAfresh 47 = .ok (.aload_n 0, 1) := by decide +kernel
theorem dX4_startAfresh_48 : decode cX4_startAfresh 48 = .ok (.iconst 0, 1) := by decide +kernel
theorem dX4_startAfresh_49 : decode cX4_startAfresh 49 = .ok (.putfield 40, 3) := by decide +kernel
theorem dX4_startAfresh_52 : decode cX4_startAfresh 52 = .ok (.return_, 1) := by decide +kernel
set_option maxRecDepth 20000 in
theorem ggX4_copyFrom_X0_copyFrom : GoodIn wsX4_copyFrom wsX0_copyFrom := goodIn_r _ [10, 11, 12, 13, 14, 9, 15, 22] (by decide +kernel) (by decide +kernel)
set_option maxRecDepth 20000 in
theorem gX4_copyFrom_X0_copyFrom : GoodIn wsX4_copyFrom (wsV RX4 44 RX0 yX0_copyFrom wsX0_copyFrom) := goodIn_app (goodIn_of _ (by decide +kernel)) ggX4_copyFrom_X0_copyFrom
theorem dX4_copyFrom_0 : decode cX4_copyFrom 0 = .ok (.aload_n 0, 1) := by decide +kernel
theorem dX4_copyFrom_1 : decode cX4_copyFrom 1 = .ok (.getfield 14, 3) := by decide +kernel
theorem dX4_copyFrom_4 : decode cX4_copyFrom 4 = .ok (.aload_n 1, 1) := by decide +kernel
theorem dX4_copyFrom_5 : decode cX4_copyFrom 5 = .ok (.getfield 14, 3) := by decide +kernel
theorem dX4_copyFrom_8 : decode cX4_copyFrom 8 = .ok (.invokevirtual 44, 3) := by decide +kernel
theorem dX4_copyFrom_11 : decode cX4_copyFrom 11 = .ok (.aload_n 0, 1) := by decide +kernel
theorem dX4_copyFrom_12 : decode cX4_copyFrom 12 = .ok (.getfield 20, 3) := by decide +kernel
theorem dX4_copyFrom_15 : decode cX4_copyFrom 15 = .ok (.aload_n 1, 1) := by decide +kernel
theorem dX4_copyFrom_16 : decode cX4_copyFrom 16 = .ok (.getfield 20, 3) := by decide +kernel
theorem dX4_copyFrom_19 : decode cX4_copyFrom 19 = .ok (.invokevirtual 44, 3) := by decide +kernel
theorem dX4_copyFrom_22 : decode cX4_copyFrom 22 = .ok (.aload_n 0, 1) := by decide +kernel
theorem dX4_copyFrom_23 : decode cX4_copyFrom 23 = .ok (.getfield 23, 3) := by decide +kernel
theorem dX4_copyFrom_26 : decode cX4_copyFrom 26 = .ok (.aload_n 1, 1) := by decide +kernel
theorem dX4_copyFrom_27 : decode cX4_copyFrom 27 = .ok (.getfield 23, 3) := by decide +kernel
theorem dX4_copyFrom_30 : decode cX4_copyFrom 30 = .ok (.invokevirtual 44, 3) := by decide +kernel
theorem dX4_copyFrom_33 : decode cX4_copyFrom 33 = .ok (.aload_n 0, 1) := by decide +kernel
theorem dX4_copyFrom_34 : decode cX4_copyFrom 34 = .ok (.getfield 26, 3) := by decide +kernel
theorem dX4_copyFrom_37 : decode cX4_copyFrom 37 = .ok (.aload_n 1, 1) := by decide +kernel
theorem dX4_copyFrom_38 : decode cX4_copyFrom 38 = .ok (.getfield 26, 3) := by decide +kernel
theorem dX4_copyFrom_41 : decode cX4_copyFrom 41 = .ok (.invokevirtual 44, 3) := by decide +kernel
theorem dX4_copyFrom_44 : decode cX4_copyFrom 44 = .ok (.aload_n 0, 1) := by decide +kernel
theorem dX4_copyFrom_45 : decode cX4_copyFrom 45 = .ok (.aload_n 1, 1) := by decide +kernel
theorem dX4_copyFrom_46 : decode cX4_copyFrom 46 = .ok (.getfield 40, 3) := by decide +kernel
theorem dX4_copyFrom_49 : decode cX4_copyFrom 49 = .ok (.putfield 40, 3) := by decide +kernel
theorem dX4_copyFrom_52 : decode cX4_copyFrom 52 = .ok (.return_, 1) := by decide +kernel
set_option maxRecDepth 20000 in
theorem ggX4_childOn_X0_at : GoodIn wsX4_childOn wsX0_at := goodIn_r _ [6, 7, 14] (by decide +kernel) (by decide +kernel)
set_option maxRecDepth 20000 in
theorem gX4_childOn_X0_at : GoodIn wsX4_childOn (wsV RX4 48 RX0 yX0_at wsX0_at) := goodIn_app (goodIn_of _ (by decide +kernel)) ggX4_childOn_X0_at
theorem dX4_childOn_0 : decode cX4_childOn 0 = .ok (.aload_n 0, 1) := by decide +kernel
theorem dX4_childOn_1 : decode cX4_childOn 1 = .ok (.getfield 14, 3) := by decide +kernel
theorem dX4_childOn_4 : decode cX4_childOn 4 = .ok (.iload_n 1, 1) := by decide +kernel
theorem dX4_childOn_5 : decode cX4_childOn 5 = .ok (.invokevirtual 48, 3) := by decide +kernel
theorem dX4_childOn_8 : decode cX4_childOn 8 = .ok (.ireturn, 1) := by decide +kernel
set_option maxRecDepth 20000 in
theorem ggX4_seatOf_X5_size : GoodIn wsX4_seatOf wsX5_size := goodIn_r _ [7, 8, 21, 22, 23, 24, 25, 26, 27, 28] (by decide +kernel) (by decide +kernel)
set_option maxRecDepth 20000 in
theorem gX4_seatOf_X5_size : GoodIn wsX4_seatOf (wsV RX4 52 RX5 yX5_size wsX5_size) := goodIn_app (goodIn_of _ (by decide +kernel)) ggX4_seatOf_X5_size
set_option maxRecDepth 20000 in
theorem ggX4_seatOf_X0_at : GoodIn wsX4_seatOf wsX0_at := goodIn_r _ [13, 14, 29] (by decide +kernel) (by decide +kernel)
set_option maxRecDepth 20000 in
theorem gX4_seatOf_X0_at : GoodIn wsX4_seatOf (wsV RX4 48 RX0 yX0_at wsX0_at) := goodIn_app (goodIn_of _ (by decide +kernel)) ggX4_seatOf_X0_at
theorem dX4_seatOf_0 : decode cX4_seatOf 0 = .ok (.iconst 0, 1) := by decide +kernel
theorem dX4_seatOf_1 : decode cX4_seatOf 1 = .ok (.istore_n 2, 1) := by decide +kernel
theorem dX4_seatOf_2 : decode cX4_seatOf 2 = .ok (.iload_n 2, 1) := by decide +kernel
theorem dX4_seatOf_3 : decode cX4_seatOf 3 = .ok (.aload_n 0, 1) := by decide +kernel
theorem dX4_seatOf_4 : decode cX4_seatOf 4 = .ok (.getfield 29, 3) := by decide +kernel
theorem dX4_seatOf_7 : decode cX4_seatOf 7 = .ok (.invokevirtual 52, 3) := by decide +kernel
theorem dX4_seatOf_10 : decode cX4_seatOf 10 = .ok (.if_icmp .ge 23, 3) := by decide +kernel
theorem dX4_seatOf_13 : decode cX4_seatOf 13 = .ok (.aload_n 0, 1) := by decide +kernel
theorem dX4_seatOf_14 : decode cX4_seatOf 14 = .ok (.getfield 14, 3) := by decide +kernel
theorem dX4_seatOf_17 : decode cX4_seatOf 17 = .ok (.iload_n 2, 1) := by decide +kernel
theorem dX4_seatOf_18 : decode cX4_seatOf 18 = .ok (.invokevirtual 48, 3) := by decide +kernel
theorem dX4_seatOf_21 : decode cX4_seatOf 21 = .ok (.iload_n 1, 1) := by decide +kernel
theorem dX4_seatOf_22 : decode cX4_seatOf 22 = .ok (.if_icmp .ne 5, 3) := by decide +kernel
theorem dX4_seatOf_25 : decode cX4_seatOf 25 = .ok (.iload_n 2, 1) := by decide +kernel
theorem dX4_seatOf_26 : decode cX4_seatOf 26 = .ok (.ireturn, 1) := by decide +kernel
theorem dX4_seatOf_27 : decode cX4_seatOf 27 = .ok (.iinc 2 1, 3) := by decide +kernel
theorem dX4_seatOf_30 : decode cX4_seatOf 30 = .ok (.goto (-28), 3) := by decide +kernel
theorem dX4_seatOf_33 : decode cX4_seatOf 33 = .ok (.iconst (-1), 1) := by decide +kernel
theorem dX4_seatOf_34 : decode cX4_seatOf 34 = .ok (.ireturn, 1) := by decide +kernel
set_option maxRecDepth 20000 in
theorem ggX4_changeSeats_X0_at : GoodIn wsX4_changeSeats wsX0_at := goodIn_r _ [6, 7, 18] (by decide +kernel) (by decide +kernel)
set_option maxRecDepth 20000 in
theorem gX4_changeSeats_X0_at : GoodIn wsX4_changeSeats (wsV RX4 48 RX0 yX0_at wsX0_at) := goodIn_app (goodIn_of _ (by decide +kernel)) ggX4_changeSeats_X0_at
set_option maxRecDepth 20000 in
theorem ggX4_changeSeats_X0_put : GoodIn wsX4_changeSeats wsX0_put := goodIn_r _ [11, 7, 18] (by decide +kernel) (by decide +kernel)
set_option maxRecDepth 20000 in
theorem gX4_changeSeats_X0_put : GoodIn wsX4_changeSeats (wsV RX4 33 RX0 yX0_put wsX0_put) := goodIn_app (goodIn_of _ (by decide +kernel)) ggX4_changeSeats_X0_put
theorem dX4_changeSeats_0 : decode cX4_changeSeats 0 = .ok (.aload_n 0, 1) := by decide +kernel
theorem dX4_changeSeats_1 : decode cX4_changeSeats 1 = .ok (.getfield 14, 3) := by decide +kernel
theorem dX4_changeSeats_4 : decode cX4_changeSeats 4 = .ok (.iload_n 1, 1) := by decide +kernel
theorem dX4_changeSeats_5 : decode cX4_changeSeats 5 = .ok (.invokevirtual 48, 3) := by decide +kernel
theorem dX4_changeSeats_8 : decode cX4_changeSeats 8 = .ok (.istore_n 3, 1) := by decide +kernel
theorem dX4_changeSeats_9 : decode cX4_changeSeats 9 = .ok (.aload_n 0, 1) := by decide +kernel
theorem dX4_changeSeats_10 : decode cX4_changeSeats 10 = .ok (.getfield 14, 3) := by decide +kernel
theorem dX4_changeSeats_13 : decode cX4_changeSeats 13 = .ok (.iload_n 1, 1) := by decide +kernel
theorem dX4_changeSeats_14 : decode cX4_changeSeats 14 = .ok (.aload_n 0, 1) := by decide +kernel
theorem dX4_changeSeats_15 : decode cX4_changeSeats 15 = .ok (.getfield 14, 3) := by decide +kernel
theorem dX4_changeSeats_18 : decode cX4_changeSeats 18 = .ok (.iload_n 2, 1) := by decide +kernel
theorem dX4_changeSeats_19 : decode cX4_changeSeats 19 = .ok (.invokevirtual 48, 3) := by decide +kernel
theorem dX4_changeSeats_22 : decode cX4_changeSeats 22 = .ok (.invokevirtual 33, 3) := by decide +kernel
theorem dX4_changeSeats_25 : decode cX4_changeSeats 25 = .ok (.aload_n 0, 1) := by decide +kernel
theorem dX4_changeSeats_26 : decode cX4_changeSeats 26 = .ok (.getfield 14, 3) := by decide +kernel
theorem dX4_changeSeats_29 : decode cX4_changeSeats 29 = .ok (.iload_n 2, 1) := by decide +kernel
theorem dX4_changeSeats_30 : decode cX4_changeSeats 30 = .ok (.iload_n 3, 1) := by decide +kernel
theorem dX4_changeSeats_31 : decode cX4_changeSeats 31 = .ok (.invokevirtual 33, 3) := by decide +kernel
theorem dX4_changeSeats_34 : decode cX4_changeSeats 34 = .ok (.return_, 1) := by decide +kernel
set_option maxRecDepth 20000 in
theorem ggX4_sitInNextOrder_X5_size : GoodIn wsX4_sitInNextOrder wsX5_size := goodIn_r _ [7, 8, 30, 31, 32, 33, 34, 35, 36, 37] (by decide +kernel) (by decide +kernel)
set_option maxRecDepth 20000 in
theorem gX4_sitInNextOrder_X5_size : GoodIn wsX4_sitInNextOrder (wsV RX4 52 RX5 yX5_size wsX5_size) := goodIn_app (goodIn_of _ (by decide +kernel)) ggX4_sitInNextOrder_X5_size
set_option maxRecDepth 20000 in
theorem ggX4_sitInNextOrder_X0_at : GoodIn wsX4_sitInNextOrder wsX0_at := goodIn_r _ [13, 14, 38] (by decide +kernel) (by decide +kernel)
set_option maxRecDepth 20000 in
theorem gX4_sitInNextOrder_X0_at : GoodIn wsX4_sitInNextOrder (wsV RX4 48 RX0 yX0_at wsX0_at) := goodIn_app (goodIn_of _ (by decide +kernel)) ggX4_sitInNextOrder_X0_at
set_option maxRecDepth 20000 in
theorem ggX4_sitInNextOrder_X4_changeSeats : GoodIn wsX4_sitInNextOrder wsX4_changeSeats := goodIn_r _ [19, 2, 9, 10, 11, 12, 13, 14, 20, 21, 22, 23, 24, 25, 26, 27, 28, 29, 38] (by decide +kernel) (by decide +kernel)
set_option maxRecDepth 20000 in
theorem gX4_sitInNextOrder_X4_changeSeats : GoodIn wsX4_sitInNextOrder (wsV RX4 58 RX4 yX4_changeSeats wsX4_changeSeats) := goodIn_app (goodIn_of _ (by decide +kernel)) ggX4_sitInNextOrder_X4_changeSeats
theorem dX4_sitInNextOrder_0 : decode cX4_sitInNextOrder 0 = .ok (.aload_n 0, 1) := by decide +kernel
theorem dX4_sitInNextOrder_1 : decode cX4_sitInNextOrder 1 = .ok (.getfield 29, 3) := by decide +kernel
theorem dX4_sitInNextOrder_4 : decode cX4_sitInNextOrder 4 = .ok (.invokevirtual 52, 3) := by decide +kernel
theorem dX4_sitInNextOrder_7 : decode cX4_sitInNextOrder 7 = .ok (.iconst 1, 1) := by decide +kernel
theorem dX4_sitInNextOrder_8 : decode cX4_sitInNextOrder 8 = .ok (.isub, 1) := by decide +kernel
theorem dX4_sitInNextOrder_9 : decode cX4_sitInNextOrder 9 = .ok (.istore_n 1, 1) := by decide +kernel
theorem dX4_sitInNextOrder_10 : decode cX4_sitInNextOrder 10 = .ok (.iload_n 1, 1) := by decide +kernel
theorem dX4_sitInNextOrder_11 : decode cX4_sitInNextOrder 11 = .ok (.iconst 1, 1) := by decide +kernel
theorem dX4_sitInNextOrder_12 : decode cX4_sitInNextOrder 12 = .ok (.isub, 1) := by decide +kernel
theorem dX4_sitInNextOrder_13 : decode cX4_sitInNextOrder 13 = .ok (.istore_n 2, 1) := by decide +kernel
theorem dX4_sitInNextOrder_14 : decode cX4_sitInNextOrder 14 = .ok (.iload_n 2, 1) := by decide +kernel
theorem dX4_sitInNextOrder_15 : decode cX4_sitInNextOrder 15 = .ok (.ifCond .lt 30, 3) := by decide +kernel
theorem dX4_sitInNextOrder_18 : decode cX4_sitInNextOrder 18 = .ok (.aload_n 0, 1) := by decide +kernel
theorem dX4_sitInNextOrder_19 : decode cX4_sitInNextOrder 19 = .ok (.getfield 14, 3) := by decide +kernel
theorem dX4_sitInNextOrder_22 : decode cX4_sitInNextOrder 22 = .ok (.iload_n 2, 1) := by decide +kernel
theorem dX4_sitInNextOrder_23 : decode cX4_sitInNextOrder 23 = .ok (.invokevirtual 48, 3) := by decide +kernel
theorem dX4_sitInNextOrder_26 : decode cX4_sitInNextOrder 26 = .ok (.aload_n 0, 1) := by decide +kernel
theorem dX4_sitInNextOrder_27 : decode cX4_sitInNextOrder 27 = .ok (.getfield 14, 3) := by decide +kernel
theorem dX4_sitInNextOrder_30 : decode cX4_sitInNextOrder 30 = .ok (.iload_n 2, 1) := by decide +kernel
theorem dX4_sitInNextOrder_31 : decode cX4_sitInNextOrder 31 = .ok (.iconst 1, 1) := by decide +kernel
theorem dX4_sitInNextOrder_32 : decode cX4_sitInNextOrder 32 = .ok (.iadd, 1) := by decide +kernel
theorem dX4_sitInNextOrder_33 : decode cX4_sitInNextOrder 33 = .ok (.invokevirtual 48, 3) := by decide +kernel
theorem dX4_sitInNextOrder_36 : decode cX4_sitInNextOrder 36 = .ok (.if_icmp .le 9, 3) := by decide +kernel
theorem dX4_sitInNextOrder_39 : decode cX4_sitInNextOrder 39 = .ok (.iinc 2 (-1), 3) := by decide +kernel
theorem dX4_sitInNextOrder_42 : decode cX4_sitInNextOrder 42 = .ok (.goto (-28), 3) := by decide +kernel
theorem dX4_sitInNextOrder_45 : decode cX4_sitInNextOrder 45 = .ok (.iload_n 2, 1) := by decide +kernel
theorem dX4_sitInNextOrder_46 : decode cX4_sitInNextOrder 46 = .ok (.ifCond .ge 5, 3) := by decide +kernel
theorem dX4_sitInNextOrder_49 : decode cX4_sitInNextOrder 49 = .ok (.iconst 0, 1) := by decide +kernel
theorem dX4_sitInNextOrder_50 : decode cX4_sitInNextOrder 50 = .ok (.ireturn, 1) := by decide +kernel
theorem dX4_sitInNextOrder_51 : decode cX4_sitInNextOrder 51 = .ok (.iload_n 1, 1) := by decide +kernel
theorem dX4_sitInNextOrder_52 : decode cX4_sitInNextOrder 52 = .ok (.istore_n 3, 1) := by decide +kernel
theorem dX4_sitInNextOrder_53 : decode cX4_sitInNextOrder 53 = .ok (.iload_n 3, 1) := by decide +kernel
theorem dX4_sitInNextOrder_54 : decode cX4_sitInNextOrder 54 = .ok (.iload_n 2, 1) := by decide +kernel
theorem dX4_sitInNextOrder_55 : decode cX4_sitInNextOrder 55 = .ok (.if_icmp .le 28, 3) := by decide +kernel
theorem dX4_sitInNextOrder_58 : decode cX4_sitInNextOrder 58 = .ok (.aload_n 0, 1) := by decide +kernel
theorem dX4_sitInNextOrder_59 : decode cX4_sitInNextOrder 59 = .ok (.getfield 14, 3) := by decide +kernel
theorem dX4_sitInNextOrder_62 : decode cX4_sitInNextOrder 62 = .ok (.iload_n 3, 1) := by decide +kernel
theorem dX4_sitInNextOrder_63 : decode cX4_sitInNextOrder 63 = .ok (.invokevirtual 48, 3) := by decide +kernel
theorem dX4_sitInNextOrder_66 : decode cX4_sitInNextOrder 66 = .ok (.aload_n 0, 1) := by decide +kernel
theorem dX4_sitInNextOrder_67 : decode cX4_sitInNextOrder 67 = .ok (.getfield 14, 3) := by decide +kernel
theorem dX4_sitInNextOrder_70 : decode cX4_sitInNextOrder 70 = .ok (.iload_n 2, 1) := by decide +kernel
theorem dX4_sitInNextOrder_71 : decode cX4_sitInNextOrder 71 = .ok (.invokevirtual 48, 3) := by decide +kernel
theorem dX4_sitInNextOrder_74 : decode cX4_sitInNextOrder 74 = .ok (.if_icmp .ge 9, 3) := by decide +kernel
theorem dX4_sitInNextOrder_77 : decode cX4_sitInNextOrder 77 = .ok (.iinc 3 (-1), 3) := by decide +kernel
theorem dX4_sitInNextOrder_80 : decode cX4_sitInNextOrder 80 = .ok (.goto (-27), 3) := by decide +kernel
theorem dX4_sitInNextOrder_83 : decode cX4_sitInNextOrder 83 = .ok (.aload_n 0, 1) := by decide +kernel
theorem dX4_sitInNextOrder_84 : decode cX4_sitInNextOrder 84 = .ok (.iload_n 2, 1) := by decide +kernel
theorem dX4_sitInNextOrder_85 : decode cX4_sitInNextOrder 85 = .ok (.iload_n 3, 1) := by decide +kernel
theorem dX4_sitInNextOrder_86 : decode cX4_sitInNextOrder 86 = .ok (.invokevirtual 58, 3) := by decide +kernel
theorem dX4_sitInNextOrder_89 : decode cX4_sitInNextOrder 89 = .ok (.iload_n 2, 1) := by decide +kernel
theorem dX4_sitInNextOrder_90 : decode cX4_sitInNextOrder 90 = .ok (.iconst 1, 1) := by decide +kernel
theorem dX4_sitInNextOrder_91 : decode cX4_sitInNextOrder 91 = .ok (.iadd, 1) := by decide +kernel
theorem dX4_sitInNextOrder_92 : decode cX4_sitInNextOrder 92 = .ok (.istore 4, 2) := by decide +kernel
theorem dX4_sitInNextOrder_94 : decode cX4_sitInNextOrder 94 = .ok (.iload_n 1, 1) := by decide +kernel
theorem dX4_sitInNextOrder_95 : decode cX4_sitInNextOrder 95 = .ok (.istore 5, 2) := by decide +kernel
theorem dX4_sitInNextOrder_97 : decode cX4_sitInNextOrder 97 = .ok (.iload 4, 2) := by decide +kernel
theorem dX4_sitInNextOrder_99 : decode cX4_sitInNextOrder 99 = .ok (.iload 5, 2) := by decide +kernel
theorem dX4_sitInNextOrder_101 : decode cX4_sitInNextOrder 101 = .ok (.if_icmp .ge 20, 3) := by decide +kernel
theorem dX4_sitInNextOrder_104 : decode cX4_sitInNextOrder 104 = .ok (.aload_n 0, 1) := by decide +kernel
theorem dX4_sitInNextOrder_105 : decode cX4_sitInNextOrder 105 = .ok (.iload 4, 2) := by decide +kernel
theorem dX4_sitInNextOrder_107 : decode cX4_sitInNextOrder 107 = .ok (.iload 5, 2) := by decide +kernel
theorem dX4_sitInNextOrder_109 : decode cX4_sitInNextOrder 109 = .ok (.invokevirtual 58, 3) := by decide +kernel
theorem dX4_sitInNextOrder_112 : decode cX4_sitInNextOrder 112 = .ok (.iinc 4 1, 3) := by decide +kernel
theorem dX4_sitInNextOrder_115 : decode cX4_sitInNextOrder 115 = .ok (.iinc 5 (-1), 3) := by decide +kernel
theorem dX4_sitInNextOrder_118 : decode cX4_sitInNextOrder 118 = .ok (.goto (-21), 3) := by decide +kernel
