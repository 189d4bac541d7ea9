theorem dX4_passSummer_109 : decode cX4_passSummer 109 = .ok (.iadd, 1) := by decide +kernel
theorem dX4_passSummer_110 : decode cX4_passSummer 110 = .ok (.istore_n 1, 1) := by decide +kernel
theorem dX4_passSummer_111 : decode cX4_passSummer 111 = .ok (.iinc 4 1, 3) := by decide +kernel
theorem dX4_passSummer_114 : decode cX4_passSummer 114 = .ok (.goto (-87), 3) := by decide +kernel
theorem dX4_passSummer_117 : decode cX4_passSummer 117 = .ok (.iinc 2 1, 3) := by decide +kernel
theorem dX4_passSummer_120 : decode cX4_passSummer 120 = .ok (.goto (-116), 3) := by decide +kernel
theorem dX4_passSummer_123 : decode cX4_passSummer 123 = .ok (.iload_n 1, 1) := by decide +kernel
theorem dX4_passSummer_124 : decode cX4_passSummer 124 = .ok (.ireturn, 1) := by decide +kernel
set_option maxRecDepth 20000 in
theorem ggX5_init_X0_init : GoodIn wsX5_init wsX0_init := goodIn_r _ [31, 32, 2, 3, 33, 34, 46] (by decide +kernel) (by decide +kernel)
set_option maxRecDepth 20000 in
theorem gX5_init_X0_init : GoodIn wsX5_init (wsX0_init) := ggX5_init_X0_init
set_option maxRecDepth 20000 in
theorem ggX5_init_X1_init : GoodIn wsX5_init wsX1_init := goodIn_r _ [36, 37, 2, 3] (by decide +kernel) (by decide +kernel)
set_option maxRecDepth 20000 in
theorem gX5_init_X1_init_n25 : GoodIn wsX5_init (wsX1_init) := ggX5_init_X1_init
set_option maxRecDepth 20000 in
theorem ggX5_init_X8_init : GoodIn wsX5_init wsX8_init := goodIn_r _ [39, 35, 11, 36, 37, 2, 3] (by decide +kernel) (by decide +kernel)
set_option maxRecDepth 20000 in
theorem gX5_init_X8_init_n32 : GoodIn wsX5_init (wsX8_init) := ggX5_init_X8_init
set_option maxRecDepth 20000 in
theorem ggX5_init_X2_init : GoodIn wsX5_init wsX2_init := goodIn_r _ [41, 35, 11, 36, 37, 2, 3] (by decide +kernel) (by decide +kernel)
set_option maxRecDepth 20000 in
theorem gX5_init_X2_init_n38 : GoodIn wsX5_init (wsX2_init) := ggX5_init_X2_init
set_option maxRecDepth 20000 in
theorem ggX5_init_X7_init : GoodIn wsX5_init wsX7_init := goodIn_r _ [43, 35, 11, 36, 37, 2, 3] (by decide +kernel) (by decide +kernel)
set_option maxRecDepth 20000 in
theorem gX5_init_X7_init_n44 : GoodIn wsX5_init (wsX7_init) := ggX5_init_X7_init
set_option maxRecDepth 20000 in
theorem ggX5_init_X6_init : GoodIn wsX5_init wsX6_init := goodIn_r _ [45, 42, 23, 43, 35, 11, 36, 37, 2, 3] (by decide +kernel) (by decide +kernel)
set_option maxRecDepth 20000 in
theorem gX5_init_X6_init_n50 : GoodIn wsX5_init (wsX6_init) := ggX5_init_X6_init
theorem dX5_init_0 : decode cX5_init 0 = .ok (.aload_n 0, 1) := by decide +kernel
theorem dX5_init_1 : decode cX5_init 1 = .ok (.invokespecial 3, 3) := by decide +kernel
theorem dX5_init_4 : decode cX5_init 4 = .ok (.aload_n 0, 1) := by decide +kernel
theorem dX5_init_5 : decode cX5_init 5 = .ok (.new 9, 3) := by decide +kernel
theorem dX5_init_8 : decode cX5_init 8 = .ok (.dup, 1) := by decide +kernel
theorem dX5_init_9 : decode cX5_init 9 = .ok (.bipush 6, 2) := by decide +kernel
theorem dX5_init_11 : decode cX5_init 11 = .ok (.invokespecial 11, 3) := by decide +kernel
theorem dX5_init_14 : decode cX5_init 14 = .ok (.putfield 14, 3) := by decide +kernel
theorem dX5_init_17 : decode cX5_init 17 = .ok (.aload_n 0, 1) := by decide +kernel
theorem dX5_init_18 : decode cX5_init 18 = .ok (.new 9, 3) := by decide +kernel
theorem dX5_init_21 : decode cX5_init 21 = .ok (.dup, 1) := by decide +kernel
theorem dX5_init_22 : decode cX5_init 22 = .ok (.bipush 6, 2) := by decide +kernel
theorem dX5_init_24 : decode cX5_init 24 = .ok (.invokespecial 11, 3) := by decide +kernel
theorem dX5_init_27 : decode cX5_init 27 = .ok (.putfield 20, 3) := by decide +kernel
theorem dX5_init_30 : decode cX5_init 30 = .ok (.aload_n 0, 1) := by decide +kernel
theorem dX5_init_31 : decode cX5_init 31 = .ok (.new 23, 3) := by decide +kernel
theorem dX5_init_34 : decode cX5_init 34 = .ok (.dup, 1) := by decide +kernel
theorem dX5_init_35 : decode cX5_init 35 = .ok (.invokespecial 25, 3) := by decide +kernel
theorem dX5_init_38 : decode cX5_init 38 = .ok (.putfield 26, 3) := by decide +kernel
theorem dX5_init_41 : decode cX5_init 41 = .ok (.aload_n 0, 1) := by decide +kernel
theorem dX5_init_42 : decode cX5_init 42 = .ok (.new 30, 3) := by decide +kernel
theorem dX5_init_45 : decode cX5_init 45 = .ok (.dup, 1) := by decide +kernel
theorem dX5_init_46 : decode cX5_init 46 = .ok (.invokespecial 32, 3) := by decide +kernel
theorem dX5_init_49 : decode cX5_init 49 = .ok (.putfield 33, 3) := by decide +kernel
theorem dX5_init_52 : decode cX5_init 52 = .ok (.aload_n 0, 1) := by decide +kernel
theorem dX5_init_53 : decode cX5_init 53 = .ok (.new 36, 3) := by decide +kernel
theorem dX5_init_56 : decode cX5_init 56 = .ok (.dup, 1) := by decide +kernel
theorem dX5_init_57 : decode cX5_init 57 = .ok (.invokespecial 38, 3) := by decide +kernel
theorem dX5_init_60 : decode cX5_init 60 = .ok (.putfield 39, 3) := by decide +kernel
theorem dX5_init_63 : decode cX5_init 63 = .ok (.aload_n 0, 1) := by decide +kernel
theorem dX5_init_64 : decode cX5_init 64 = .ok (.new 42, 3) := by decide +kernel
theorem dX5_init_67 : decode cX5_init 67 = .ok (.dup, 1) := by decide +kernel
theorem dX5_init_68 : decode cX5_init 68 = .ok (.invokespecial 44, 3) := by decide +kernel
theorem dX5_init_71 : decode cX5_init 71 = .ok (.putfield 45, 3) := by decide +kernel
theorem dX5_init_74 : decode cX5_init 74 = .ok (.aload_n 0, 1) := by decide +kernel
theorem dX5_init_75 : decode cX5_init 75 = .ok (.new 48, 3) := by decide +kernel
theorem dX5_init_78 : decode cX5_init 78 = .ok (.dup, 1) := by decide +kernel
theorem dX5_init_79 : decode cX5_init 79 = .ok (.invokespecial 50, 3) := by decide +kernel
theorem dX5_init_82 : decode cX5_init 82 = .ok (.putfield 51, 3) := by decide +kernel
theorem dX5_init_85 : decode cX5_init 85 = .ok (.return_, 1) := by decide +kernel
set_option maxRecDepth 20000 in
theorem ggX5_readFrom_X3_letterAt : GoodIn wsX5_readFrom wsX3_letterAt := goodIn_r _ [8, 9, 10, 11, 12, 13, 14, 15, 37, 38, 39] (by decide +kernel) (by decide +kernel)
set_option maxRecDepth 20000 in
theorem gX5_readFrom_X3_letterAt : GoodIn wsX5_readFrom (wsV RX5 54 RX3 yX3_letterAt wsX3_letterAt) := goodIn_app (goodIn_of _ (by decide +kernel)) ggX5_readFrom_X3_letterAt
set_option maxRecDepth 20000 in
theorem ggX5_readFrom_X0_put : GoodIn wsX5_readFrom wsX0_put := goodIn_r _ [19, 15, 39] (by decide +kernel) (by decide +kernel)
set_option maxRecDepth 20000 in
theorem gX5_readFrom_X0_put : GoodIn wsX5_readFrom (wsV RX5 60 RX0 yX0_put wsX0_put) := goodIn_app (goodIn_of _ (by decide +kernel)) ggX5_readFrom_X0_put
set_option maxRecDepth 20000 in
theorem ggX5_readFrom_X3_length : GoodIn wsX5_readFrom wsX3_length := goodIn_r _ [23, 24, 37, 38] (by decide +kernel) (by decide +kernel)
set_option maxRecDepth 20000 in
theorem gX5_readFrom_X3_length : GoodIn wsX5_readFrom (wsV RX5 68 RX3 yX3_length wsX3_length) := goodIn_app (goodIn_of _ (by decide +kernel)) ggX5_readFrom_X3_length
set_option maxRecDepth 20000 in
theorem ggX5_readFrom_X5_kindBy : GoodIn wsX5_readFrom wsX5_kindBy := goodIn_r _ [28] (by decide +kernel) (by decide +kernel)
set_option maxRecDepth 20000 in
theorem gX5_readFrom_X5_kindBy : GoodIn wsX5_readFrom (va_wsS RX5 72 yX5_kindBy wsX5_kindBy) := goodIn_app (goodIn_of _ (by decide +kernel)) ggX5_readFrom_X5_kindBy
theorem dX5_readFrom_0 : decode cX5_readFrom 0 = .ok (.iconst 0, 1) := by decide +kernel
theorem dX5_readFrom_1 : decode cX5_readFrom 1 = .ok (.istore_n 2, 1) := by decide +kernel
theorem dX5_readFrom_2 : decode cX5_readFrom 2 = .ok (.iload_n 2, 1) := by decide +kernel
theorem dX5_readFrom_3 : decode cX5_readFrom 3 = .ok (.bipush 6, 2) := by decide +kernel
theorem dX5_readFrom_5 : decode cX5_readFrom 5 = .ok (.if_icmp .ge 25, 3) := by decide +kernel
theorem dX5_readFrom_8 : decode cX5_readFrom 8 = .ok (.aload_n 0, 1) := by decide +kernel
theorem dX5_readFrom_9 : decode cX5_readFrom 9 = .ok (.getfield 14, 3) := by decide +kernel
theorem dX5_readFrom_12 : decode cX5_readFrom 12 = .ok (.iload_n 2, 1) := by decide +kernel
theorem dX5_readFrom_13 : decode cX5_readFrom 13 = .ok (.aload_n 1, 1) := by decide +kernel
theorem dX5_readFrom_14 : decode cX5_readFrom 14 = .ok (.iload_n 2, 1) := by decide +kernel
theorem dX5_readFrom_15 : decode cX5_readFrom 15 = .ok (.invokevirtual 54, 3) := by decide +kernel
theorem dX5_readFrom_18 : decode cX5_readFrom 18 = .ok (.bipush 48, 2) := by decide +kernel
theorem dX5_readFrom_20 : decode cX5_readFrom 20 = .ok (.isub, 1) := by decide +kernel
theorem dX5_readFrom_21 : decode cX5_readFrom 21 = .ok (.invokevirtual 60, 3) := by decide +kernel
theorem dX5_readFrom_24 : decode cX5_readFrom 24 = .ok (.iinc 2 1, 3) := by decide +kernel
theorem dX5_readFrom_27 : decode cX5_readFrom 27 = .ok (.goto (-25), 3) := by decide +kernel
theorem dX5_readFrom_30 : decode cX5_readFrom 30 = .ok (.aload_n 0, 1) := by decide +kernel
theorem dX5_readFrom_31 : decode cX5_readFrom 31 = .ok (.iconst 0, 1) := by decide +kernel
theorem dX5_readFrom_32 : decode cX5_readFrom 32 = .ok (.putfield 64, 3) := by decide +kernel
theorem dX5_readFrom_35 : decode cX5_readFrom 35 = .ok (.bipush 7, 2) := by decide +kernel
theorem dX5_readFrom_37 : decode cX5_readFrom 37 = .ok (.istore_n 2, 1) := by decide +kernel
theorem dX5_readFrom_38 : decode cX5_readFrom 38 = .ok (.iload_n 2, 1) := by decide +kernel
theorem dX5_readFrom_39 : decode cX5_readFrom 39 = .ok (.aload_n 1, 1) := by decide +kernel
theorem dX5_readFrom_40 : decode cX5_readFrom 40 = .ok (.invokevirtual 68, 3) := by decide +kernel
theorem dX5_readFrom_43 : decode cX5_readFrom 43 = .ok (.if_icmp .ge 38, 3) := by decide +kernel
theorem dX5_readFrom_46 : decode cX5_readFrom 46 = .ok (.aload_n 0, 1) := by decide +kernel
theorem dX5_readFrom_47 : decode cX5_readFrom 47 = .ok (.getfield 20, 3) := by decide +kernel
theorem dX5_readFrom_50 : decode cX5_readFrom 50 = .ok (.aload_n 0, 1) := by decide +kernel
theorem dX5_readFrom_51 : decode cX5_readFrom 51 = .ok (.getfield 64, 3) := by decide +kernel
theorem dX5_readFrom_54 : decode cX5_readFrom 54 = .ok (.aload_n 1, 1) := by decide +kernel
theorem dX5_readFrom_55 : decode cX5_readFrom 55 = .ok (.iload_n 2, 1) := by decide +kernel
theorem dX5_readFrom_56 : decode cX5_readFrom 56 = .ok (.invokevirtual 54, 3) := by decide +kernel
theorem dX5_readFrom_59 : decode cX5_readFrom 59 = .ok (.invokestatic 72, 3) := by decide +kernel
theorem dX5_readFrom_62 : decode cX5_readFrom 62 = .ok (.invokevirtual 60, 3) := by decide +kernel
theorem dX5_readFrom_65 : decode cX5_readFrom 65 = .ok (.aload_n 0, 1) := by decide +kernel
theorem dX5_readFrom_66 : decode cX5_readFrom 66 = .ok (.dup, 1) := by decide +kernel
theorem dX5_readFrom_67 : decode cX5_readFrom 67 = .ok (.getfield 64, 3) := by decide +kernel
theorem dX5_readFrom_70 : decode cX5_readFrom 70 = .ok (.iconst 1, 1) := by decide +kernel
theorem dX5_readFrom_71 : decode cX5_readFrom 71 = .ok (.iadd, 1) := by decide +kernel
theorem dX5_readFrom_72 : decode cX5_readFrom 72 = .ok (.putfield 64, 3) := by decide +kernel
theorem dX5_readFrom_75 : decode cX5_readFrom 75 = .ok (.iinc 2 1, 3) := by decide +kernel
theorem dX5_readFrom_78 : decode cX5_readFrom 78 = .ok (.goto (-40), 3) := by decide +kernel
theorem dX5_readFrom_81 : decode cX5_readFrom 81 = .ok (.return_, 1) := by decide +kernel
theorem dX5_kindBy_0 : decode cX5_kindBy 0 = .ok (.iload_n 0, 1) := by decide +kernel
theorem dX5_kindBy_1 : decode cX5_kindBy 1 = .ok (.lookupswitch 61 #[(99, 51), (100, 55), (103, 57), (104, 59), (115, 53)], 51) := by decide +kernel
theorem dX5_kindBy_52 : decode cX5_kindBy 52 = .ok (.iconst 0, 1) := by decide +kernel
theorem dX5_kindBy_53 : decode cX5_kindBy 53 = .ok (.ireturn, 1) := by decide +kernel
theorem dX5_kindBy_54 : decode cX5_kindBy 54 = .ok (.iconst 1, 1) := by decide +kernel
theorem dX5_kindBy_55 : decode cX5_kindBy 55 = .ok (.ireturn, 1) := by decide +kernel
theorem dX5_kindBy_56 : decode cX5_kindBy 56 = .ok (.iconst 2, 1) := by decide +kernel
theorem dX5_kindBy_57 : decode cX5_kindBy 57 = .ok (.ireturn, 1) := by decide +kernel
theorem dX5_kindBy_58 : decode cX5_kindBy 58 = .ok (.iconst 3, 1) := by decide +kernel
theorem dX5_kindBy_59 : decode cX5_kindBy 59 = .ok (.ireturn, 1) := by decide +kernel
theorem dX5_kindBy_60 : decode cX5_kindBy 60 = .ok (.iconst 4, 1) := by decide +kernel
theorem dX5_kindBy_61 : decode cX5_kindBy 61 = .ok (.ireturn, 1) := by decide +kernel
theorem dX5_kindBy_62 : decode cX5_kindBy 62 = .ok (.iconst (-1), 1) := by decide +kernel
theorem dX5_kindBy_63 : decode cX5_kindBy 63 = .ok (.ireturn, 1) := by decide +kernel
theorem dX5_size_0 : decode cX5_size 0 = .ok (.aload_n 0, 1) := by decide +kernel
theorem dX5_size_1 : decode cX5_size 1 = .ok (.getfield 64, 3) := by decide +kernel
theorem dX5_size_4 : decode cX5_size 4 = .ok (.ireturn, 1) := by decide +kernel
set_option maxRecDepth 20000 in
theorem ggX5_digit_X0_at : GoodIn wsX5_digit wsX0_at := goodIn_r _ [6, 7, 16] (by decide +kernel) (by decide +kernel)
set_option maxRecDepth 20000 in
theorem gX5_digit_X0_at : GoodIn wsX5_digit (wsV RX5 75 RX0 yX0_at wsX0_at) := goodIn_app (goodIn_of _ (by decide +kernel)) ggX5_digit_X0_at
theorem dX5_digit_0 : decode cX5_digit 0 = .ok (.aload_n 0, 1) := by decide +kernel
theorem dX5_digit_1 : decode cX5_digit 1 = .ok (.getfield 14, 3) := by decide +kernel
theorem dX5_digit_4 : decode cX5_digit 4 = .ok (.iload_n 1, 1) := by decide +kernel
theorem dX5_digit_5 : decode cX5_digit 5 = .ok (.invokevirtual 75, 3) := by decide +kernel
theorem dX5_digit_8 : decode cX5_digit 8 = .ok (.ireturn, 1) := by decide +kernel
set_option maxRecDepth 20000 in
theorem ggX5_tenthsLost_X0_at : GoodIn wsX5_tenthsLost wsX0_at := goodIn_r _ [6, 7, 16] (by decide +kernel) (by decide +kernel)
set_option maxRecDepth 20000 in
theorem gX5_tenthsLost_X0_at : GoodIn wsX5_tenthsLost (wsV RX5 75 RX0 yX0_at wsX0_at) := goodIn_app (goodIn_of _ (by decide +kernel)) ggX5_tenthsLost_X0_at
theorem dX5_tenthsLost_0 : decode cX5_tenthsLost 0 = .ok (.aload_n 0, 1) := by decide +kernel
theorem dX5_tenthsLost_1 : decode cX5_tenthsLost 1 = .ok (.getfield 14, 3) := by decide +kernel
theorem dX5_tenthsLost_4 : decode cX5_tenthsLost 4 = .ok (.iconst 0, 1) := by decide +kernel
theorem dX5_tenthsLost_5 : decode cX5_tenthsLost 5 = .ok (.invokevirtual 75, 3) := by decide +kernel
theorem dX5_tenthsLost_8 : decode cX5_tenthsLost 8 = .ok (.ireturn, 1) := by decide +kernel
set_option maxRecDepth 20000 in
theorem ggX5_tenthsForgotten_X0_at : GoodIn wsX5_tenthsForgotten wsX0_at := goodIn_r _ [6, 7, 16] (by decide +kernel) (by decide +kernel)
set_option maxRecDepth 20000 in
theorem gX5_tenthsForgotten_X0_at : GoodIn wsX5_tenthsForgotten (wsV RX5 75 RX0 yX0_at wsX0_at) := goodIn_app (goodIn_of _ (by decide +kernel)) ggX5_tenthsForgotten_X0_at
theorem dX5_tenthsForgotten_0 : decode cX5_tenthsForgotten 0 = .ok (.aload_n 0, 1) := by decide +kernel
theorem dX5_tenthsForgotten_1 : decode cX5_tenthsForgotten 1 = .ok (.getfield 14, 3) := by decide +kernel
theorem dX5_tenthsForgotten_4 : decode cX5_tenthsForgotten 4 = .ok (.iconst 1, 1) := by decide +kernel
theorem dX5_tenthsForgotten_5 : decode cX5_tenthsForgotten 5 = .ok (.invokevirtual 75, 3) := by decide +kernel
theorem dX5_tenthsForgotten_8 : decode cX5_tenthsForgotten 8 = .ok (.ireturn, 1) := by decide +kernel
set_option maxRecDepth 20000 in
theorem ggX5_kindNumber_X0_at : GoodIn wsX5_kindNumber wsX0_at := goodIn_r _ [6, 7, 16] (by decide +kernel) (by decide +kernel)
set_option maxRecDepth 20000 in
theorem gX5_kindNumber_X0_at : GoodIn wsX5_kindNumber (wsV RX5 75 RX0 yX0_at wsX0_at) := goodIn_app (goodIn_of _ (by decide +kernel)) ggX5_kindNumber_X0_at
theorem dX5_kindNumber_0 : decode cX5_kindNumber 0 = .ok (.aload_n 0, 1) := by decide +kernel
theorem dX5_kindNumber_1 : decode cX5_kindNumber 1 = .ok (.getfield 20, 3) := by decide +kernel
theorem dX5_kindNumber_4 : decode cX5_kindNumber 4 = .ok (.iload_n 1, 1) := by decide +kernel
theorem dX5_kindNumber_5 : decode cX5_kindNumber 5 = .ok (.invokevirtual 75, 3) := by decide +kernel
theorem dX5_kindNumber_8 : decode cX5_kindNumber 8 = .ok (.ireturn, 1) := by decide +kernel
set_option maxRecDepth 20000 in
theorem ggX5_child_X0_at : GoodIn wsX5_child wsX0_at := goodIn_r _ [11, 12, 21] (by decide +kernel) (by decide +kernel)
set_option maxRecDepth 20000 in
theorem gX5_child_X0_at : GoodIn wsX5_child (wsV RX5 75 RX0 yX0_at wsX0_at) := goodIn_app (goodIn_of _ (by decide +kernel)) ggX5_child_X0_at
theorem dX5_child_0 : decode cX5_child 0 = .ok (.aload_n 0, 1) := by decide +kernel
theorem dX5_child_1 : decode cX5_child 1 = .ok (.getfield 20, 3) := by decide +kernel
theorem dX5_child_4 : decode cX5_child 4 = .ok (.iload_n 1, 1) := by decide +kernel
theorem dX5_child_5 : decode cX5_child 5 = .ok (.invokevirtual 75, 3) := by decide +kernel
theorem dX5_child_8 : decode cX5_child 8 = .ok (.tableswitch 52 1 4 #[32, 37, 42, 47], 32) := by decide +kernel
theorem dX5_child_40 : decode cX5_child 40 = .ok (.aload_n 0, 1) := by decide +kernel
theorem dX5_child_41 : decode cX5_child 41 = .ok (.getfield 33, 3) := by decide +kernel
theorem dX5_child_44 : decode cX5_child 44 = .ok (.areturn, 1) := by decide +kernel
theorem dX5_child_45 : decode cX5_child 45 = .ok (.aload_n 0, 1) := by decide +kernel
theorem dX5_child_46 : decode cX5_child 46 = .ok (.getfield 39, 3) := by decide +kernel
theorem dX5_child_49 : decode cX5_child 49 = .ok (.areturn, 1) := by decide +kernel
theorem dX5_child_50 : decode cX5_child 50 = .ok (.aload_n 0, 1) := by decide +kernel
theorem dX5_child_51 : decode cX5_child 51 = .ok (.getfield 45, 3) := by decide +kernel
theorem dX5_child_54 : decode cX5_child 54 = .ok (.areturn, 1) := by decide +kernel
theorem dX5_child_55 : decode cX5_child 55 = .ok (.aload_n 0, 1) := by decide +kernel
theorem dX5_child_56 : decode cX5_child 56 = .ok (.getfield 51, 3) := by decide +kernel
theorem dX5_child_59 : decode cX5_child 59 = .ok (.areturn, 1) := by decide +kernel
theorem dX5_child_60 : decode cX5_child 60 = .ok (.aload_n 0, 1) := by decide +kernel
theorem dX5_child_61 : decode cX5_child 61 = .ok (.getfield 26, 3) := by decide +kernel
theorem dX5_child_64 : decode cX5_child 64 = .ok (.areturn, 1) := by decide +kernel
set_option maxRecDepth 20000 in
theorem ggX6_init_X7_init : GoodIn wsX6_init wsX7_init := goodIn_r _ [3, 4, 5, 6, 7, 8, 9] (by decide +kernel) (by decide +kernel)
set_option maxRecDepth 20000 in
theorem gX6_init_X7_init_n1 : GoodIn wsX6_init (wsX7_init) := ggX6_init_X7_init
theorem dX6_init_0 : decode cX6_init 0 = .ok (.aload_n 0, 1) := by decide +kernel
theorem dX6_init_1 : decode cX6_init 1 = .ok (.invokespecial 1, 3) := by decide +kernel
theorem dX6_init_4 : decode cX6_init 4 = .ok (.return_, 1) := by decide +kernel
theorem dX6_forgetsOf_0 : decode cX6_forgetsOf 0 = .ok (.iconst 0, 1) := by decide +kernel
theorem dX6_forgetsOf_1 : decode cX6_forgetsOf 1 = .ok (.ireturn, 1) := by decide +kernel
set_option maxRecDepth 20000 in
theorem ggX7_init_X1_init : GoodIn wsX7_init wsX1_init := goodIn_r _ [3, 4, 5, 6] (by decide +kernel) (by decide +kernel)
set_option maxRecDepth 20000 in
theorem gX7_init_X1_init_n1 : GoodIn wsX7_init (wsX1_init) := ggX7_init_X1_init
theorem dX7_init_0 : decode cX7_init 0 = .ok (.aload_n 0, 1) := by decide +kernel
theorem dX7_init_1 : decode cX7_init 1 = .ok (.invokespecial 1, 3) := by decide +kernel
theorem dX7_init_4 : decode cX7_init 4 = .ok (.return_, 1) := by decide +kernel
theorem dX7_losesOf_0 : decode cX7_losesOf 0 = .ok (.iconst 0, 1) := by decide +kernel
theorem dX7_losesOf_1 : decode cX7_losesOf 1 = .ok (.ireturn, 1) := by decide +kernel
set_option maxRecDepth 20000 in
theorem ggX8_init_X1_init : GoodIn wsX8_init wsX1_init := goodIn_r _ [3, 4, 5, 6] (by decide +kernel) (by decide +kernel)
set_option maxRecDepth 20000 in
theorem gX8_init_X1_init_n1 : GoodIn wsX8_init (wsX1_init) := ggX8_init_X1_init
theorem dX8_init_0 : decode cX8_init 0 = .ok (.aload_n 0, 1) := by decide +kernel
theorem dX8_init_1 : decode cX8_init 1 = .ok (.invokespecial 1, 3) := by decide +kernel
theorem dX8_init_4 : decode cX8_init 4 = .ok (.return_, 1) := by decide +kernel
theorem dX8_givesOf_0 : decode cX8_givesOf 0 = .ok (.iconst 0, 1) := by decide +kernel
theorem dX8_givesOf_1 : decode cX8_givesOf 1 = .ok (.ireturn, 1) := by decide +kernel
set_option maxRecDepth 20000 in
theorem ggX9_init_X3_init : GoodIn wsX9_init wsX3_init := goodIn_r _ [20, 21, 2, 3, 22, 23, 24, 25, 26, 27, 28, 29, 30, 31, 106, 81, 82] (by decide +kernel) (by decide +kernel)
set_option maxRecDepth 20000 in
theorem gX9_init_X3_init_n11 : GoodIn wsX9_init (wsX3_init) := ggX9_init_X3_init
set_option maxRecDepth 20000 in
theorem ggX9_init_X5_init : GoodIn wsX9_init wsX5_init := goodIn_r _ [33, 34, 2, 3, 35, 23, 24, 36, 37, 38, 39, 40, 41, 42, 43, 44, 45, 46, 47, 48, 49, 50, 51, 52, 53, 54, 55, 56, 57, 58, 27, 28, 29, 30, 31, 59, 60, 61, 62, 63, 64, 65, 66, 67, 68, 69, 106, 92, 93, 94, 95, 96, 97, 98, 99] (by decide +kernel) (by decide +kernel)
set_option maxRecDepth 20000 in
theorem gX9_init_X5_init_n18 : GoodIn wsX9_init (wsX5_init) := ggX9_init_X5_init
set_option maxRecDepth 20000 in
theorem ggX9_init_X4_init : GoodIn wsX9_init wsX4_init := goodIn_r _ [72, 73, 2, 3, 74, 23, 24, 75, 76, 77, 78, 79, 80, 27, 28, 29, 30, 31, 106, 100, 101, 102, 103, 104, 105] (by decide +kernel) (by decide +kernel)
set_option maxRecDepth 20000 in
theorem gX9_init_X4_init : GoodIn wsX9_init (wsX4_init) := ggX9_init_X4_init
theorem dX9_init_0 : decode cX9_init 0 = .ok (.aload_n 0, 1) := by decide +kernel
theorem dX9_init_1 : decode cX9_init 1 = .ok (.invokespecial 3, 3) := by decide +kernel
theorem dX9_init_4 : decode cX9_init 4 = .ok (.aload_n 0, 1) := by decide +kernel
theorem dX9_init_5 : decode cX9_init 5 = .ok (.new 9, 3) := by decide +kernel
theorem dX9_init_8 : decode cX9_init 8 = .ok (.dup, 1) := by decide +kernel
theorem dX9_init_9 : decode cX9_init 9 = .ok (.invokespecial 11, 3) := by decide +kernel
theorem dX9_init_12 : decode cX9_init 12 = .ok (.putfield 12, 3) := by decide +kernel
theorem dX9_init_15 : decode cX9_init 15 = .ok (.aload_n 0, 1) := by decide +kernel
theorem dX9_init_16 : decode cX9_init 16 = .ok (.new 16, 3) := by decide +kernel
theorem dX9_init_19 : decode cX9_init 19 = .ok (.dup, 1) := by decide +kernel
theorem dX9_init_20 : decode cX9_init 20 = .ok (.invokespecial 18, 3) := by decide +kernel
theorem dX9_init_23 : decode cX9_init 23 = .ok (.putfield 19, 3) := by decide +kernel
theorem dX9_init_26 : decode cX9_init 26 = .ok (.aload_n 0, 1) := by decide +kernel
theorem dX9_init_27 : decode cX9_init 27 = .ok (.new 23, 3) := by decide +kernel
theorem dX9_init_30 : decode cX9_init 30 = .ok (.dup, 1) := by decide +kernel
theorem dX9_init_31 : decode cX9_init 31 = .ok (.aload_n 0, 1) := by decide +kernel
theorem dX9_init_32 : decode cX9_init 32 = .ok (.getfield 19, 3) := by decide +kernel
theorem dX9_init_35 : decode cX9_init 35 = .ok (.invokespecial 25, 3) := by decide +kernel
theorem dX9_init_38 : decode cX9_init 38 = .ok (.putfield 28, 3) := by decide +kernel
theorem dX9_init_41 : decode cX9_init 41 = .ok (.aload_n 0, 1) := by decide +kernel
theorem dX9_init_42 : decode cX9_init 42 = .ok (.new 23, 3) := by decide +kernel
theorem dX9_init_45 : decode cX9_init 45 = .ok (.dup, 1) := by decide +kernel
theorem dX9_init_46 : decode cX9_init 46 = .ok (.aload_n 0, 1) := by decide +kernel
theorem dX9_init_47 : decode cX9_init 47 = .ok (.getfield 19, 3) := by decide +kernel
theorem dX9_init_50 : decode cX9_init 50 = .ok (.invokespecial 25, 3) := by decide +kernel
theorem dX9_init_53 : decode cX9_init 53 = .ok (.putfield 32, 3) := by decide +kernel
theorem dX9_init_56 : decode cX9_init 56 = .ok (.aload_n 0, 1) := by decide +kernel
theorem dX9_init_57 : decode cX9_init 57 = .ok (.new 23, 3) := by decide +kernel
theorem dX9_init_60 : decode cX9_init 60 = .ok (.dup, 1) := by decide +kernel
theorem dX9_init_61 : decode cX9_init 61 = .ok (.aload_n 0, 1) := by decide +kernel
theorem dX9_init_62 : decode cX9_init 62 = .ok (.getfield 19, 3) := by decide +kernel
theorem dX9_init_65 : decode cX9_init 65 = .ok (.invokespecial 25, 3) := by decide +kernel
theorem dX9_init_68 : decode cX9_init 68 = .ok (.putfield 35, 3) := by decide +kernel
theorem dX9_init_71 : decode cX9_init 71 = .ok (.aload_n 0, 1) := by decide +kernel
theorem dX9_init_72 : decode cX9_init 72 = .ok (.new 23, 3) := by decide +kernel
theorem dX9_init_75 : decode cX9_init 75 = .ok (.dup, 1) := by decide +kernel
theorem dX9_init_76 : decode cX9_init 76 = .ok (.aload_n 0, 1) := by decide +kernel
theorem dX9_init_77 : decode cX9_init 77 = .ok (.getfield 19, 3) := by decide +kernel
theorem dX9_init_80 : decode cX9_init 80 = .ok (.invokespecial 25, 3) := by decide +kernel
theorem dX9_init_83 : decode cX9_init 83 = .ok (.putfield 38, 3) := by decide +kernel
theorem dX9_init_86 : decode cX9_init 86 = .ok (.return_, 1) := by decide +kernel
set_option maxRecDepth 20000 in
theorem ggX9_letter_X3_length : GoodIn wsX9_letter wsX3_length := goodIn_r _ [6, 7, 28, 29] (by decide +kernel) (by decide +kernel)
set_option maxRecDepth 20000 in
theorem gX9_letter_X3_length : GoodIn wsX9_letter (wsV RX9 41 RX3 yX3_length wsX3_length) := goodIn_app (goodIn_of _ (by decide +kernel)) ggX9_letter_X3_length
set_option maxRecDepth 20000 in
theorem ggX9_letter_X3_add : GoodIn wsX9_letter wsX3_add := goodIn_r _ [11, 7, 12, 13, 14, 15, 16, 17, 18, 28, 29, 30] (by decide +kernel) (by decide +kernel)
set_option maxRecDepth 20000 in
theorem gX9_letter_X3_add : GoodIn wsX9_letter (wsV RX9 45 RX3 yX3_add wsX3_add) := goodIn_app (goodIn_of _ (by decide +kernel)) ggX9_letter_X3_add
theorem dX9_letter_0 : decode cX9_letter 0 = .ok (.iload_n 1, 1) := by decide +kernel
theorem dX9_letter_1 : decode cX9_letter 1 = .ok (.bipush 32, 2) := by decide +kernel
theorem dX9_letter_3 : decode cX9_letter 3 = .ok (.if_icmp .lt 9, 3) := by decide +kernel
theorem dX9_letter_6 : decode cX9_letter 6 = .ok (.iload_n 1, 1) := by decide +kernel
theorem dX9_letter_7 : decode cX9_letter 7 = .ok (.bipush 126, 2) := by decide +kernel
theorem dX9_letter_9 : decode cX9_letter 9 = .ok (.if_icmp .le 6, 3) := by decide +kernel
theorem dX9_letter_12 : decode cX9_letter 12 = .ok (.bipush (-102), 2) := by decide +kernel
theorem dX9_letter_14 : decode cX9_letter 14 = .ok (.ireturn, 1) := by decide +kernel
theorem dX9_letter_15 : decode cX9_letter 15 = .ok (.aload_n 0, 1) := by decide +kernel
theorem dX9_letter_16 : decode cX9_letter 16 = .ok (.getfield 12, 3) := by decide +kernel
theorem dX9_letter_19 : decode cX9_letter 19 = .ok (.invokevirtual 41, 3) := by decide +kernel
theorem dX9_letter_22 : decode cX9_letter 22 = .ok (.bipush 14, 2) := by decide +kernel
theorem dX9_letter_24 : decode cX9_letter 24 = .ok (.if_icmp .lt 6, 3) := by decide +kernel
theorem dX9_letter_27 : decode cX9_letter 27 = .ok (.bipush (-104), 2) := by decide +kernel
theorem dX9_letter_29 : decode cX9_letter 29 = .ok (.ireturn, 1) := by decide +kernel
theorem dX9_letter_30 : decode cX9_letter 30 = .ok (.aload_n 0, 1) := by decide +kernel
theorem dX9_letter_31 : decode cX9_letter 31 = .ok (.getfield 12, 3) := by decide +kernel
theorem dX9_letter_34 : decode cX9_letter 34 = .ok (.iload_n 1, 1) := by decide +kernel
theorem dX9_letter_35 : decode cX9_letter 35 = .ok (.invokevirtual 45, 3) := by decide +kernel
theorem dX9_letter_38 : decode cX9_letter 38 = .ok (.aload_n 0, 1) := by decide +kernel
theorem dX9_letter_39 : decode cX9_letter 39 = .ok (.getfield 12, 3) := by decide +kernel
theorem dX9_letter_42 : decode cX9_letter 42 = .ok (.invokevirtual 41, 3) := by decide +kernel
theorem dX9_letter_45 : decode cX9_letter 45 = .ok (.ireturn, 1) := by decide +kernel
set_option maxRecDepth 20000 in
theorem ggX9_blank_X3_length : GoodIn wsX9_blank wsX3_length := goodIn_r _ [6, 7, 21, 22] (by decide +kernel) (by decide +kernel)
set_option maxRecDepth 20000 in
theorem gX9_blank_X3_length : GoodIn wsX9_blank (wsV RX9 41 RX3 yX3_length wsX3_length) := goodIn_app (goodIn_of _ (by decide +kernel)) ggX9_blank_X3_length
set_option maxRecDepth 20000 in
theorem ggX9_blank_X3_clear : GoodIn wsX9_blank wsX3_clear := goodIn_r _ [11, 7, 21, 22] (by decide +kernel) (by decide +kernel)
set_option maxRecDepth 20000 in
theorem gX9_blank_X3_clear : GoodIn wsX9_blank (wsV RX9 49 RX3 yX3_clear wsX3_clear) := goodIn_app (goodIn_of _ (by decide +kernel)) ggX9_blank_X3_clear
theorem dX9_blank_0 : decode cX9_blank 0 = .ok (.aload_n 0, 1) := by decide +kernel
theorem dX9_blank_1 : decode cX9_blank 1 = .ok (.getfield 12, 3) := by decide +kernel
theorem dX9_blank_4 : decode cX9_blank 4 = .ok (.invokevirtual 41, 3) := by decide +kernel
theorem dX9_blank_7 : decode cX9_blank 7 = .ok (.istore_n 1, 1) := by decide +kernel
theorem dX9_blank_8 : decode cX9_blank 8 = .ok (.aload_n 0, 1) := by decide +kernel
theorem dX9_blank_9 : decode cX9_blank 9 = .ok (.getfield 12, 3) := by decide +kernel
theorem dX9_blank_12 : decode cX9_blank 12 = .ok (.invokevirtual 49, 3) := by decide +kernel
theorem dX9_blank_15 : decode cX9_blank 15 = .ok (.iload_n 1, 1) := by decide +kernel
theorem dX9_blank_16 : decode cX9_blank 16 = .ok (.ireturn, 1) := by decide +kernel
set_option maxRecDepth 20000 in
theorem ggX9_fault_X3_firstFault : GoodIn wsX9_fault wsX3_firstFault := goodIn_r _ [6, 7, 8, 9, 10, 11, 12, 13, 14, 15, 16, 5, 17, 18, 19, 20, 21, 31, 32, 33] (by decide +kernel) (by decide +kernel)
set_option maxRecDepth 20000 in
theorem gX9_fault_X3_firstFault : GoodIn wsX9_fault (wsV RX9 52 RX3 yX3_firstFault wsX3_firstFault) := goodIn_app (goodIn_of _ (by decide +kernel)) ggX9_fault_X3_firstFault
theorem dX9_fault_0 : decode cX9_fault 0 = .ok (.aload_n 0, 1) := by decide +kernel
theorem dX9_fault_1 : decode cX9_fault 1 = .ok (.getfield 12, 3) := by decide +kernel
theorem dX9_fault_4 : decode cX9_fault 4 = .ok (.invokevirtual 52, 3) := by decide +kernel
theorem dX9_fault_7 : decode cX9_fault 7 = .ok (.ireturn, 1) := by decide +kernel
set_option maxRecDepth 20000 in
theorem ggX9_school_X3_isSchool : GoodIn wsX9_school wsX3_isSchool := goodIn_r _ [11, 12, 13, 14, 15, 10, 16, 17, 18, 19, 20, 21, 22, 23, 24, 25, 26, 27, 28, 29, 30, 83, 84, 85] (by decide +kernel) (by decide +kernel)
set_option maxRecDepth 20000 in
theorem gX9_school_X3_isSchool : GoodIn wsX9_school (wsV RX9 55 RX3 yX3_isSchool wsX3_isSchool) := goodIn_app (goodIn_of _ (by decide +kernel)) ggX9_school_X3_isSchool
set_option maxRecDepth 20000 in
theorem ggX9_school_X5_readFrom : GoodIn wsX9_school wsX5_readFrom := goodIn_r _ [34, 35, 36, 37, 38, 39, 40, 10, 41, 17, 18, 19, 20, 21, 22, 23, 42, 43, 44, 45, 46, 47, 48, 49, 12, 50, 28, 29, 30, 86, 87, 88, 89, 90, 91, 92, 93, 83, 84, 85] (by decide +kernel) (by decide +kernel)
set_option maxRecDepth 20000 in
theorem gX9_school_X5_readFrom : GoodIn wsX9_school (wsV RX9 59 RX5 yX5_readFrom wsX5_readFrom) := goodIn_app (goodIn_of _ (by decide +kernel)) ggX9_school_X5_readFrom
set_option maxRecDepth 20000 in
theorem ggX9_school_X3_clear : GoodIn wsX9_school wsX3_clear := goodIn_r _ [54, 12, 83, 84] (by decide +kernel) (by decide +kernel)
set_option maxRecDepth 20000 in
theorem gX9_school_X3_clear : GoodIn wsX9_school (wsV RX9 49 RX3 yX3_clear wsX3_clear) := goodIn_app (goodIn_of _ (by decide +kernel)) ggX9_school_X3_clear
set_option maxRecDepth 20000 in
theorem ggX9_school_X4_startAfresh : GoodIn wsX9_school wsX4_startAfresh := goodIn_r _ [59, 60, 61, 62, 63, 64, 65, 43, 44, 21, 45, 23, 66, 67, 68, 69, 94, 95, 96, 97, 98, 99, 85] (by decide +kernel) (by decide +kernel)
set_option maxRecDepth 20000 in
theorem gX9_school_X4_startAfresh : GoodIn wsX9_school (wsV RX9 63 RX4 yX4_startAfresh wsX4_startAfresh) := goodIn_app (goodIn_of _ (by decide +kernel)) ggX9_school_X4_startAfresh
set_option maxRecDepth 20000 in
theorem ggX9_school_X5_size : GoodIn wsX9_school wsX5_size := goodIn_r _ [73, 36, 86, 87, 88, 89, 90, 91, 92, 93] (by decide +kernel) (by decide +kernel)
set_option maxRecDepth 20000 in
theorem gX9_school_X5_size : GoodIn wsX9_school (wsV RX9 77 RX5 yX5_size wsX5_size) := goodIn_app (goodIn_of _ (by decide +kernel)) ggX9_school_X5_size
theorem dX9_school_0 : decode cX9_school 0 = .ok (.aload_n 0, 1) := by decide +kernel
theorem dX9_school_1 : decode cX9_school 1 = .ok (.getfield 12, 3) := by decide +kernel
theorem dX9_school_4 : decode cX9_school 4 = .ok (.invokevirtual 55, 3) := by decide +kernel
theorem dX9_school_7 : decode cX9_school 7 = .ok (.ifCond .ne 6, 3) := by decide +kernel
theorem dX9_school_10 : decode cX9_school 10 = .ok (.bipush (-103), 2) := by decide +kernel
theorem dX9_school_12 : decode cX9_school 12 = .ok (.ireturn, 1) := by decide +kernel
theorem dX9_school_13 : decode cX9_school 13 = .ok (.aload_n 0, 1) := by decide +kernel
theorem dX9_school_14 : decode cX9_school 14 = .ok (.getfield 19, 3) := by decide +kernel
theorem dX9_school_17 : decode cX9_school 17 = .ok (.aload_n 0, 1) := by decide +kernel
theorem dX9_school_18 : decode cX9_school 18 = .ok (.getfield 12, 3) := by decide +kernel
theorem dX9_school_21 : decode cX9_school 21 = .ok (.invokevirtual 59, 3) := by decide +kernel
theorem dX9_school_24 : decode cX9_school 24 = .ok (.aload_n 0, 1) := by decide +kernel
theorem dX9_school_25 : decode cX9_school 25 = .ok (.getfield 12, 3) := by decide +kernel
theorem dX9_school_28 : decode cX9_school 28 = .ok (.invokevirtual 49, 3) := by decide +kernel
theorem dX9_school_31 : decode cX9_school 31 = .ok (.aload_n 0, 1) := by decide +kernel
theorem dX9_school_32 : decode cX9_school 32 = .ok (.getfield 28, 3) := by decide +kernel
theorem dX9_school_35 : decode cX9_school 35 = .ok (.invokevirtual 63, 3) := by decide +kernel
theorem dX9_school_38 : decode cX9_school 38 = .ok (.aload_n 0, 1) := by decide +kernel
theorem dX9_school_39 : decode cX9_school 39 = .ok (.iconst 0, 1) := by decide +kernel
theorem dX9_school_40 : decode cX9_school 40 = .ok (.putfield 66, 3) := by decide +kernel
theorem dX9_school_43 : decode cX9_school 43 = .ok (.aload_n 0, 1) := by decide +kernel
theorem dX9_school_44 : decode cX9_school 44 = .ok (.iconst 0, 1) := by decide +kernel
theorem dX9_school_45 : decode cX9_school 45 = .ok (.putfield 70, 3) := by decide +kernel
theorem dX9_school_48 : decode cX9_school 48 = .ok (.aload_n 0, 1) := by decide +kernel
theorem dX9_school_49 : decode cX9_school 49 = .ok (.dup, 1) := by decide +kernel
theorem dX9_school_50 : decode cX9_school 50 = .ok (.getfield 73, 3) := by decide +kernel
theorem dX9_school_53 : decode cX9_school 53 = .ok (.iconst 1, 1) := by decide +kernel
theorem dX9_school_54 : decode cX9_school 54 = .ok (.iadd, 1) := by decide +kernel
theorem dX9_school_55 : decode cX9_school 55 = .ok (.putfield 73, 3) := by decide +kernel
theorem dX9_school_58 : decode cX9_school 58 = .ok (.aload_n 0, 1) := by decide +kernel
theorem dX9_school_59 : decode cX9_school 59 = .ok (.getfield 19, 3) := by decide +kernel
theorem dX9_school_62 : decode cX9_school 62 = .ok (.invokevirtual 77, 3) := by decide +kernel
theorem dX9_school_65 : decode cX9_school 65 = .ok (.ireturn, 1) := by decide +kernel
set_option maxRecDepth 20000 in
theorem ggX9_about_X9_isChild : GoodIn wsX9_about wsX9_isChild := goodIn_r _ [7, 1, 8, 9, 10, 11, 12, 13, 58, 59, 60, 61, 62, 63, 64, 65, 66, 67, 68, 69, 70, 71, 72, 73, 74] (by decide +kernel) (by decide +kernel)
set_option maxRecDepth 20000 in
theorem gX9_about_X9_isChild : GoodIn wsX9_about (wsV RX9 80 RX9 yX9_isChild wsX9_isChild) := goodIn_app (goodIn_of _ (by decide +kernel)) ggX9_about_X9_isChild
set_option maxRecDepth 20000 in
theorem ggX9_about_X5_kindNumber : GoodIn wsX9_about wsX5_kindNumber := goodIn_r _ [17, 18, 19, 20, 21, 22, 23, 24, 67, 68, 69, 70, 71, 72, 73, 74, 75] (by decide +kernel) (by decide +kernel)
set_option maxRecDepth 20000 in
theorem gX9_about_X5_kindNumber : GoodIn wsX9_about (wsV RX9 84 RX5 yX5_kindNumber wsX5_kindNumber) := goodIn_app (goodIn_of _ (by decide +kernel)) ggX9_about_X5_kindNumber
set_option maxRecDepth 20000 in
theorem ggX9_about_X4_seatOf : GoodIn wsX9_about wsX4_seatOf := goodIn_r _ [29, 30, 31, 32, 9, 10, 11, 12, 13, 33, 20, 21, 22, 23, 24, 76, 77, 78, 79, 80, 81, 67, 68, 69, 70, 71, 72, 73, 74, 75] (by decide +kernel) (by decide +kernel)
set_option maxRecDepth 20000 in
theorem gX9_about_X4_seatOf : GoodIn wsX9_about (wsV RX9 88 RX4 yX4_seatOf wsX4_seatOf) := goodIn_app (goodIn_of _ (by decide +kernel)) ggX9_about_X4_seatOf
set_option maxRecDepth 20000 in
theorem ggX9_about_X4_isIll : GoodIn wsX9_about wsX4_isIll := goodIn_r _ [37, 38, 39, 6, 40, 76, 77, 78, 79, 80, 81] (by decide +kernel) (by decide +kernel)
set_option maxRecDepth 20000 in
theorem gX9_about_X4_isIll : GoodIn wsX9_about (wsV RX9 91 RX4 yX4_isIll wsX4_isIll) := goodIn_app (goodIn_of _ (by decide +kernel)) ggX9_about_X4_isIll
set_option maxRecDepth 20000 in
theorem ggX9_about_X4_partsOf : GoodIn wsX9_about wsX4_partsOf := goodIn_r _ [44, 45, 46, 47, 28, 48, 49, 50, 51, 52, 33, 20, 21, 22, 23, 24, 76, 77, 78, 79, 80, 81, 75] (by decide +kernel) (by decide +kernel)
set_option maxRecDepth 20000 in
theorem gX9_about_X4_partsOf : GoodIn wsX9_about (wsV RX9 94 RX4 yX4_partsOf wsX4_partsOf) := goodIn_app (goodIn_of _ (by decide +kernel)) ggX9_about_X4_partsOf
set_option maxRecDepth 20000 in
theorem ggX9_about_X4_toldOf : GoodIn wsX9_about wsX4_toldOf := goodIn_r _ [56, 57, 33, 20, 21, 22, 23, 24, 76, 77, 78, 79, 80, 81, 75] (by decide +kernel) (by decide +kernel)
set_option maxRecDepth 20000 in
theorem gX9_about_X4_toldOf : GoodIn wsX9_about (wsV RX9 97 RX4 yX4_toldOf wsX4_toldOf) := goodIn_app (goodIn_of _ (by decide +kernel)) ggX9_about_X4_toldOf
theorem dX9_about_0 : decode cX9_about 0 = .ok (.aload_n 0, 1) := by decide +kernel
theorem dX9_about_1 : decode cX9_about 1 = .ok (.iload_n 1, 1) := by decide +kernel
theorem dX9_about_2 : decode cX9_about 2 = .ok (.invokevirtual 80, 3) := by decide +kernel
theorem dX9_about_5 : decode cX9_about 5 = .ok (.ifCond .ne 6, 3) := by decide +kernel
theorem dX9_about_8 : decode cX9_about 8 = .ok (.bipush (-101), 2) := by decide +kernel
theorem dX9_about_10 : decode cX9_about 10 = .ok (.ireturn, 1) := by decide +kernel
theorem dX9_about_11 : decode cX9_about 11 = .ok (.iload_n 2, 1) := by decide +kernel
theorem dX9_about_12 : decode cX9_about 12 = .ok (.tableswitch 89 0 4 #[36, 45, 54, 71, 80], 36) := by decide +kernel
theorem dX9_about_48 : decode cX9_about 48 = .ok (.aload_n 0, 1) := by decide +kernel
theorem dX9_about_49 : decode cX9_about 49 = .ok (.getfield 19, 3) := by decide +kernel
theorem dX9_about_52 : decode cX9_about 52 = .ok (.iload_n 1, 1) := by decide +kernel
theorem dX9_about_53 : decode cX9_about 53 = .ok (.invokevirtual 84, 3) := by decide +kernel
theorem dX9_about_56 : decode cX9_about 56 = .ok (.ireturn, 1) := by decide +kernel
theorem dX9_about_57 : decode cX9_about 57 = .ok (.aload_n 0, 1) := by decide +kernel
theorem dX9_about_58 : decode cX9_about 58 = .ok (.getfield 28, 3) := by decide +kernel
theorem dX9_about_61 : decode cX9_about 61 = .ok (.iload_n 1, 1) := by decide +kernel
theorem dX9_about_62 : decode cX9_about 62 = .ok (.invokevirtual 88, 3) := by decide +kernel
theorem dX9_about_65 : decode cX9_about 65 = .ok (.ireturn, 1) := by decide +kernel
theorem dX9_about_66 : decode cX9_about 66 = .ok (.aload_n 0, 1) := by decide +kernel
theorem dX9_about_67 : decode cX9_about 67 = .ok (.getfield 28, 3) := by decide +kernel
theorem dX9_about_70 : decode cX9_about 70 = .ok (.iload_n 1, 1) := by decide +kernel
theorem dX9_about_71 : decode cX9_about 71 = .ok (.invokevirtual 91, 3) := by decide +kernel
theorem dX9_about_74 : decode cX9_about 74 = .ok (.ifCond .eq 7, 3) := by decide +kernel
theorem dX9_about_77 : decode cX9_about 77 = .ok (.iconst 1, 1) := by decide +kernel
theorem dX9_about_78 : decode cX9_about 78 = .ok (.goto 4, 3) := by decide +kernel
theorem dX9_about_81 : decode cX9_about 81 = .ok (.iconst 0, 1) := by decide +kernel
theorem dX9_about_82 : decode cX9_about 82 = .ok (.ireturn, 1) := by decide +kernel
theorem dX9_about_83 : decode cX9_about 83 = .ok (.aload_n 0, 1) := by decide +kernel
theorem dX9_about_84 : decode cX9_about 84 = .ok (.getfield 28, 3) := by decide +kernel
theorem dX9_about_87 : decode cX9_about 87 = .ok (.iload_n 1, 1) := by decide +kernel
theorem dX9_about_88 : decode cX9_about 88 = .ok (.invokevirtual 94, 3) := by decide +kernel
theorem dX9_about_91 : decode cX9_about 91 = .ok (.ireturn, 1) := by decide +kernel
theorem dX9_about_92 : decode cX9_about 92 = .ok (.aload_n 0, 1) := by decide +kernel
theorem dX9_about_93 : decode cX9_about 93 = .ok (.getfield 28, 3) := by decide +kernel
theorem dX9_about_96 : decode cX9_about 96 = .ok (.iload_n 1, 1) := by decide +kernel
theorem dX9_about_97 : decode cX9_about 97 = .ok (.invokevirtual 97, 3) := by decide +kernel
theorem dX9_about_100 : decode cX9_about 100 = .ok (.ireturn, 1) := by decide +kernel
theorem dX9_about_101 : decode cX9_about 101 = .ok (.bipush (-102), 2) := by decide +kernel
theorem dX9_about_103 : decode cX9_about 103 = .ok (.ireturn, 1) := by decide +kernel
set_option maxRecDepth 20000 in
theorem ggX9_as_X9_isChild : GoodIn wsX9_as wsX9_isChild := goodIn_r _ [6, 1, 7, 8, 9, 10, 11, 12, 36, 37, 38, 39, 40, 41, 42, 43, 44, 45, 46, 47, 48, 49, 50, 51, 52] (by decide +kernel) (by decide +kernel)
set_option maxRecDepth 20000 in
theorem gX9_as_X9_isChild : GoodIn wsX9_as (wsV RX9 80 RX9 yX9_isChild wsX9_isChild) := goodIn_app (goodIn_of _ (by decide +kernel)) ggX9_as_X9_isChild
set_option maxRecDepth 20000 in
theorem ggX9_as_X5_child : GoodIn wsX9_as wsX5_child := goodIn_r _ [16, 17, 18, 19, 20, 21, 22, 23, 24, 25, 26, 27, 28, 45, 46, 47, 48, 49, 50, 51, 52, 53] (by decide +kernel) (by decide +kernel)
set_option maxRecDepth 20000 in
theorem gX9_as_X5_child : GoodIn wsX9_as (wsV RX9 100 RX5 yX5_child wsX5_child) := goodIn_app (goodIn_of _ (by decide +kernel)) ggX9_as_X5_child
set_option maxRecDepth 20000 in
theorem ggX9_as_X9_isOfKind : GoodIn wsX9_as wsX9_isOfKind := goodIn_r _ [31, 32, 33, 34, 35] (by decide +kernel) (by decide +kernel)
set_option maxRecDepth 20000 in
theorem gX9_as_X9_isOfKind : GoodIn wsX9_as (va_wsS RX9 104 yX9_isOfKind wsX9_isOfKind) := goodIn_app (goodIn_of _ (by decide +kernel)) ggX9_as_X9_isOfKind
theorem dX9_as_0 : decode cX9_as 0 = .ok (.aload_n 0, 1) := by decide +kernel
theorem dX9_as_1 : decode cX9_as 1 = .ok (.iload_n 1, 1) := by decide +kernel
theorem dX9_as_2 : decode cX9_as 2 = .ok (.invokevirtual 80, 3) := by decide +kernel
theorem dX9_as_5 : decode cX9_as 5 = .ok (.ifCond .ne 6, 3) := by decide +kernel
theorem dX9_as_8 : decode cX9_as 8 = .ok (.bipush (-101), 2) := by decide +kernel
theorem dX9_as_10 : decode cX9_as 10 = .ok (.ireturn, 1) := by decide +kernel
theorem dX9_as_11 : decode cX9_as 11 = .ok (.iload_n 2, 1) := by decide +kernel
theorem dX9_as_12 : decode cX9_as 12 = .ok (.ifCond .lt 8, 3) := by decide +kernel
theorem dX9_as_15 : decode cX9_as 15 = .ok (.iload_n 2, 1) := by decide +kernel
theorem dX9_as_16 : decode cX9_as 16 = .ok (.iconst 5, 1) := by decide +kernel
theorem dX9_as_17 : decode cX9_as 17 = .ok (.if_icmp .lt 6, 3) := by decide +kernel
theorem dX9_as_20 : decode cX9_as 20 = .ok (.bipush (-102), 2) := by decide +kernel
theorem dX9_as_22 : decode cX9_as 22 = .ok (.ireturn, 1) := by decide +kernel
theorem dX9_as_23 : decode cX9_as 23 = .ok (.aload_n 0, 1) := by decide +kernel
theorem dX9_as_24 : decode cX9_as 24 = .ok (.getfield 19, 3) := by decide +kernel
theorem dX9_as_27 : decode cX9_as 27 = .ok (.iload_n 1, 1) := by decide +kernel
theorem dX9_as_28 : decode cX9_as 28 = .ok (.invokevirtual 100, 3) := by decide +kernel
theorem dX9_as_31 : decode cX9_as 31 = .ok (.iload_n 2, 1) := by decide +kernel
theorem dX9_as_32 : decode cX9_as 32 = .ok (.invokestatic 104, 3) := by decide +kernel
theorem dX9_as_35 : decode cX9_as 35 = .ok (.ifCond .eq 7, 3) := by decide +kernel
theorem dX9_as_38 : decode cX9_as 38 = .ok (.iload_n 1, 1) := by decide +kernel
theorem dX9_as_39 : decode cX9_as 39 = .ok (.goto 4, 3) := by decide +kernel
theorem dX9_as_42 : decode cX9_as 42 = .ok (.iconst (-1), 1) := by decide +kernel
theorem dX9_as_43 : decode cX9_as 43 = .ok (.ireturn, 1) := by decide +kernel
set_option maxRecDepth 20000 in
theorem ggX9_seat_X9_isChild : GoodIn wsX9_seat wsX9_isChild := goodIn_r _ [6, 7, 8, 9, 10, 11, 12, 13, 26, 27, 28, 29, 30, 31, 32, 33, 34, 35, 36, 37, 38, 39, 40, 41, 42] (by decide +kernel) (by decide +kernel)
set_option maxRecDepth 20000 in
theorem gX9_seat_X9_isChild : GoodIn wsX9_seat (wsV RX9 80 RX9 yX9_isChild wsX9_isChild) := goodIn_app (goodIn_of _ (by decide +kernel)) ggX9_seat_X9_isChild
set_option maxRecDepth 20000 in
theorem ggX9_seat_X4_childOn : GoodIn wsX9_seat wsX4_childOn := goodIn_r _ [18, 19, 20, 21, 22, 23, 24, 25, 43, 44, 45, 46, 47, 48, 49] (by decide +kernel) (by decide +kernel)
set_option maxRecDepth 20000 in
theorem gX9_seat_X4_childOn : GoodIn wsX9_seat (wsV RX9 108 RX4 yX4_childOn wsX4_childOn) := goodIn_app (goodIn_of _ (by decide +kernel)) ggX9_seat_X4_childOn
theorem dX9_seat_0 : decode cX9_seat 0 = .ok (.aload_n 0, 1) := by decide +kernel
theorem dX9_seat_1 : decode cX9_seat 1 = .ok (.iload_n 1, 1) := by decide +kernel
theorem dX9_seat_2 : decode cX9_seat 2 = .ok (.invokevirtual 80, 3) := by decide +kernel
theorem dX9_seat_5 : decode cX9_seat 5 = .ok (.ifCond .eq 14, 3) := by decide +kernel
theorem dX9_seat_8 : decode cX9_seat 8 = .ok (.aload_n 0, 1) := by decide +kernel
theorem dX9_seat_9 : decode cX9_seat 9 = .ok (.getfield 28, 3) := by decide +kernel
theorem dX9_seat_12 : decode cX9_seat 12 = .ok (.iload_n 1, 1) := by decide +kernel
theorem dX9_seat_13 : decode cX9_seat 13 = .ok (.invokevirtual 108, 3) := by decide +kernel
theorem dX9_seat_16 : decode cX9_seat 16 = .ok (.goto 5, 3) := by decide +kernel
theorem dX9_seat_19 : decode cX9_seat 19 = .ok (.bipush (-101), 2) := by decide +kernel
theorem dX9_seat_21 : decode cX9_seat 21 = .ok (.ireturn, 1) := by decide +kernel
set_option maxRecDepth 20000 in
theorem ggX9_swap_X9_isChild : GoodIn wsX9_swap wsX9_isChild := goodIn_r _ [6, 7, 8, 9, 10, 11, 12, 13, 36, 37, 38, 39, 40, 41, 42, 43, 44, 45, 46, 47, 48, 49, 50, 51, 52] (by decide +kernel) (by decide +kernel)
set_option maxRecDepth 20000 in
theorem gX9_swap_X9_isChild : GoodIn wsX9_swap (wsV RX9 80 RX9 yX9_isChild wsX9_isChild) := goodIn_app (goodIn_of _ (by decide +kernel)) ggX9_swap_X9_isChild
set_option maxRecDepth 20000 in
theorem ggX9_swap_X4_seatOf : GoodIn wsX9_swap wsX4_seatOf := goodIn_r _ [18, 19, 20, 21, 9, 10, 11, 12, 13, 22, 23, 24, 25, 26, 27, 53, 54, 55, 56, 57, 58, 45, 46, 47, 48, 49, 50, 51, 52, 59] (by decide +kernel) (by decide +kernel)
set_option maxRecDepth 20000 in
theorem gX9_swap_X4_seatOf : GoodIn wsX9_swap (wsV RX9 88 RX4 yX4_seatOf wsX4_seatOf) := goodIn_app (goodIn_of _ (by decide +kernel)) ggX9_swap_X4_seatOf
set_option maxRecDepth 20000 in
theorem ggX9_swap_X4_changeSeats : GoodIn wsX9_swap wsX4_changeSeats := goodIn_r _ [31, 20, 22, 23, 24, 25, 26, 27, 32, 33, 34, 35, 53, 54, 55, 56, 57, 58, 59] (by decide +kernel) (by decide +kernel)
set_option maxRecDepth 20000 in
theorem gX9_swap_X4_changeSeats : GoodIn wsX9_swap (wsV RX9 111 RX4 yX4_changeSeats wsX4_changeSeats) := goodIn_app (goodIn_of _ (by decide +kernel)) ggX9_swap_X4_changeSeats
theorem dX9_swap_0 : decode cX9_swap 0 = .ok (.aload_n 0, 1) := by decide +kernel
theorem dX9_swap_1 : decode cX9_swap 1 = .ok (.iload_n 1, 1) := by decide +kernel
theorem dX9_swap_2 : decode cX9_swap 2 = .ok (.invokevirtual 80, 3) := by decide +kernel
theorem dX9_swap_5 : decode cX9_swap 5 = .ok (.ifCond .eq 11, 3) := by decide +kernel
theorem dX9_swap_8 : decode cX9_swap 8 = .ok (.aload_n 0, 1) := by decide +kernel
theorem dX9_swap_9 : decode cX9_swap 9 = .ok (.iload_n 2, 1) := by decide +kernel
theorem dX9_swap_10 : decode cX9_swap 10 = .ok (.invokevirtual 80, 3) := by decide +kernel
theorem dX9_swap_13 : decode cX9_swap 13 = .ok (.ifCond .ne 6, 3) := by decide +kernel
theorem dX9_swap_16 : decode cX9_swap 16 = .ok (.bipush (-101), 2) := by decide +kernel
theorem dX9_swap_18 : decode cX9_swap 18 = .ok (.ireturn, 1) := by decide +kernel
theorem dX9_swap_19 : decode cX9_swap 19 = .ok (.aload_n 0, 1) := by decide +kernel
theorem dX9_swap_20 : decode cX9_swap 20 = .ok (.getfield 28, 3) := by decide +kernel
theorem dX9_swap_23 : decode cX9_swap 23 = .ok (.aload_n 0, 1) := by decide +kernel
theorem dX9_swap_24 : decode cX9_swap 24 = .ok (.getfield 28, 3) := by decide +kernel
theorem dX9_swap_27 : decode cX9_swap 27 = .ok (.iload_n 1, 1) := by decide +kernel
theorem dX9_swap_28 : decode cX9_swap 28 = .ok (.invokevirtual 88, 3) := by decide +kernel
theorem dX9_swap_31 : decode cX9_swap 31 = .ok (.aload_n 0, 1) := by decide +kernel
theorem dX9_swap_32 : decode cX9_swap 32 = .ok (.getfield 28, 3) := by decide +kernel
theorem dX9_swap_35 : decode cX9_swap 35 = .ok (.iload_n 2, 1) := by decide +kernel
theorem dX9_swap_36 : decode cX9_swap 36 = .ok (.invokevirtual 88, 3) := by decide +kernel
theorem dX9_swap_39 : decode cX9_swap 39 = .ok (.invokevirtual 111, 3) := by decide +kernel
theorem dX9_swap_42 : decode cX9_swap 42 = .ok (.aload_n 0, 1) := by decide +kernel
theorem dX9_swap_43 : decode cX9_swap 43 = .ok (.getfield 28, 3) := by decide +kernel
theorem dX9_swap_46 : decode cX9_swap 46 = .ok (.iload_n 2, 1) := by decide +kernel
theorem dX9_swap_47 : decode cX9_swap 47 = .ok (.invokevirtual 88, 3) := by decide +kernel
theorem dX9_swap_50 : decode cX9_swap 50 = .ok (.ireturn, 1) := by decide +kernel
set_option maxRecDepth 20000 in
theorem ggX9_ill_X9_isChild : GoodIn wsX9_ill wsX9_isChild := goodIn_r _ [6, 7, 8, 9, 10, 11, 12, 13, 26, 27, 28, 29, 30, 31, 32, 33, 34, 35, 36, 37, 38, 39, 40, 41, 42] (by decide +kernel) (by decide +kernel)
set_option maxRecDepth 20000 in
theorem gX9_ill_X9_isChild : GoodIn wsX9_ill (wsV RX9 80 RX9 yX9_isChild wsX9_isChild) := goodIn_app (goodIn_of _ (by decide +kernel)) ggX9_ill_X9_isChild
set_option maxRecDepth 20000 in
theorem ggX9_ill_X4_isIll : GoodIn wsX9_ill wsX4_isIll := goodIn_r _ [18, 19, 20, 5, 21, 43, 44, 45, 46, 47, 48] (by decide +kernel) (by decide +kernel)
set_option maxRecDepth 20000 in
theorem gX9_ill_X4_isIll : GoodIn wsX9_ill (wsV RX9 91 RX4 yX4_isIll wsX4_isIll) := goodIn_app (goodIn_of _ (by decide +kernel)) ggX9_ill_X4_isIll
set_option maxRecDepth 20000 in
theorem ggX9_ill_X4_setIll : GoodIn wsX9_ill wsX4_setIll := goodIn_r _ [25, 19, 43, 44, 45, 46, 47, 48] (by decide +kernel) (by decide +kernel)
set_option maxRecDepth 20000 in
theorem gX9_ill_X4_setIll : GoodIn wsX9_ill (wsV RX9 115 RX4 yX4_setIll wsX4_setIll) := goodIn_app (goodIn_of _ (by decide +kernel)) ggX9_ill_X4_setIll
theorem dX9_ill_0 : decode cX9_ill 0 = .ok (.aload_n 0, 1) := by decide +kernel
theorem dX9_ill_1 : decode cX9_ill 1 = .ok (.iload_n 1, 1) := by decide +kernel
theorem dX9_ill_2 : decode cX9_ill 2 = .ok (.invokevirtual 80, 3) := by decide +kernel
theorem dX9_ill_5 : decode cX9_ill 5 = .ok (.ifCond .ne 6, 3) := by decide +kernel
theorem dX9_ill_8 : decode cX9_ill 8 = .ok (.bipush (-101), 2) := by decide +kernel
theorem dX9_ill_10 : decode cX9_ill 10 = .ok (.ireturn, 1) := by decide +kernel
theorem dX9_ill_11 : decode cX9_ill 11 = .ok (.aload_n 0, 1) := by decide +kernel
theorem dX9_ill_12 : decode cX9_ill 12 = .ok (.getfield 28, 3) := by decide +kernel
theorem dX9_ill_15 : decode cX9_ill 15 = .ok (.iload_n 1, 1) := by decide +kernel
theorem dX9_ill_16 : decode cX9_ill 16 = .ok (.invokevirtual 91, 3) := by decide +kernel
theorem dX9_ill_19 : decode cX9_ill 19 = .ok (.ifCond .eq 7, 3) := by decide +kernel
theorem dX9_ill_22 : decode cX9_ill 22 = .ok (.iconst 1, 1) := by decide +kernel
theorem dX9_ill_23 : decode cX9_ill 23 = .ok (.goto 4, 3) := by decide +kernel
theorem dX9_ill_26 : decode cX9_ill 26 = .ok (.iconst 0, 1) := by decide +kernel
theorem dX9_ill_27 : decode cX9_ill 27 = .ok (.istore_n 3, 1) := by decide +kernel
theorem dX9_ill_28 : decode cX9_ill 28 = .ok (.aload_n 0, 1) := by decide +kernel
theorem dX9_ill_29 : decode cX9_ill 29 = .ok (.getfield 28, 3) := by decide +kernel
theorem dX9_ill_32 : decode cX9_ill 32 = .ok (.iload_n 1, 1) := by decide +kernel
theorem dX9_ill_33 : decode cX9_ill 33 = .ok (.iload_n 2, 1) := by decide +kernel
theorem dX9_ill_34 : decode cX9_ill 34 = .ok (.invokevirtual 115, 3) := by decide +kernel
theorem dX9_ill_37 : decode cX9_ill 37 = .ok (.iload_n 3, 1) := by decide +kernel
theorem dX9_ill_38 : decode cX9_ill 38 = .ok (.ireturn, 1) := by decide +kernel
set_option maxRecDepth 20000 in
theorem ggX9_knows_X9_isChild : GoodIn wsX9_knows wsX9_isChild := goodIn_r _ [6, 7, 8, 9, 10, 11, 12, 13, 40, 41, 42, 43, 44, 45, 46, 47, 48, 49, 50, 51, 52, 53, 54, 55, 56] (by decide +kernel) (by decide +kernel)
set_option maxRecDepth 20000 in
theorem gX9_knows_X9_isChild : GoodIn wsX9_knows (wsV RX9 80 RX9 yX9_isChild wsX9_isChild) := goodIn_app (goodIn_of _ (by decide +kernel)) ggX9_knows_X9_isChild
set_option maxRecDepth 20000 in
theorem ggX9_knows_X9_isSubject : GoodIn wsX9_knows wsX9_isSubject := goodIn_r _ [16] (by decide +kernel) (by decide +kernel)
set_option maxRecDepth 20000 in
theorem gX9_knows_X9_isSubject : GoodIn wsX9_knows (va_wsS RX9 119 yX9_isSubject wsX9_isSubject) := goodIn_app (goodIn_of _ (by decide +kernel)) ggX9_knows_X9_isSubject
set_option maxRecDepth 20000 in
theorem ggX9_knows_X9_isEither : GoodIn wsX9_knows wsX9_isEither := goodIn_r _ [19] (by decide +kernel) (by decide +kernel)
set_option maxRecDepth 20000 in
theorem gX9_knows_X9_isEither : GoodIn wsX9_knows (va_wsS RX9 122 yX9_isEither wsX9_isEither) := goodIn_app (goodIn_of _ (by decide +kernel)) ggX9_knows_X9_isEither
set_option maxRecDepth 20000 in
theorem ggX9_knows_X4_parts : GoodIn wsX9_knows wsX4_parts := goodIn_r _ [24, 25, 26, 27, 23, 28, 29, 30, 31, 32, 33, 34, 57, 58, 59, 60, 61, 62, 63] (by decide +kernel) (by decide +kernel)
set_option maxRecDepth 20000 in
theorem gX9_knows_X4_parts : GoodIn wsX9_knows (wsV RX9 125 RX4 yX4_parts wsX4_parts) := goodIn_app (goodIn_of _ (by decide +kernel)) ggX9_knows_X4_parts
set_option maxRecDepth 20000 in
theorem ggX9_knows_X4_mistakes : GoodIn wsX9_knows wsX4_mistakes := goodIn_r _ [38, 39, 26, 27, 23, 28, 29, 30, 31, 32, 33, 34, 57, 58, 59, 60, 61, 62, 63] (by decide +kernel) (by decide +kernel)
