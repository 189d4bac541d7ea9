theorem dX10_yearsNow_1 : decode cX10_yearsNow 1 = .ok (.invokevirtual 154, 3) := by decide +kernel
theorem dX10_yearsNow_4 : decode cX10_yearsNow 4 = .ok (.iconst 0, 1) := by decide +kernel
theorem dX10_yearsNow_5 : decode cX10_yearsNow 5 = .ok (.istore 4, 2) := by decide +kernel
theorem dX10_yearsNow_7 : decode cX10_yearsNow 7 = .ok (.iload 4, 2) := by decide +kernel
theorem dX10_yearsNow_9 : decode cX10_yearsNow 9 = .ok (.aload_n 0, 1) := by decide +kernel
theorem dX10_yearsNow_10 : decode cX10_yearsNow 10 = .ok (.getfield 79, 3) := by decide +kernel
theorem dX10_yearsNow_13 : decode cX10_yearsNow 13 = .ok (.if_icmp .ge 26, 3) := by decide +kernel
theorem dX10_yearsNow_16 : decode cX10_yearsNow 16 = .ok (.aload_n 0, 1) := by decide +kernel
theorem dX10_yearsNow_17 : decode cX10_yearsNow 17 = .ok (.getfield 31, 3) := by decide +kernel
theorem dX10_yearsNow_20 : decode cX10_yearsNow 20 = .ok (.bipush 6, 2) := by decide +kernel
theorem dX10_yearsNow_22 : decode cX10_yearsNow 22 = .ok (.iload 4, 2) := by decide +kernel
theorem dX10_yearsNow_24 : decode cX10_yearsNow 24 = .ok (.iadd, 1) := by decide +kernel
theorem dX10_yearsNow_25 : decode cX10_yearsNow 25 = .ok (.aload_n 0, 1) := by decide +kernel
theorem dX10_yearsNow_26 : decode cX10_yearsNow 26 = .ok (.getfield 31, 3) := by decide +kernel
theorem dX10_yearsNow_29 : decode cX10_yearsNow 29 = .ok (.iload 4, 2) := by decide +kernel
theorem dX10_yearsNow_31 : decode cX10_yearsNow 31 = .ok (.iaload, 1) := by decide +kernel
theorem dX10_yearsNow_32 : decode cX10_yearsNow 32 = .ok (.iastore, 1) := by decide +kernel
theorem dX10_yearsNow_33 : decode cX10_yearsNow 33 = .ok (.iinc 4 1, 3) := by decide +kernel
theorem dX10_yearsNow_36 : decode cX10_yearsNow 36 = .ok (.goto (-29), 3) := by decide +kernel
theorem dX10_yearsNow_39 : decode cX10_yearsNow 39 = .ok (.aload_n 0, 1) := by decide +kernel
theorem dX10_yearsNow_40 : decode cX10_yearsNow 40 = .ok (.iload_n 2, 1) := by decide +kernel
theorem dX10_yearsNow_41 : decode cX10_yearsNow 41 = .ok (.i2l, 1) := by decide +kernel
theorem dX10_yearsNow_42 : decode cX10_yearsNow 42 = .ok (.putfield 177, 3) := by decide +kernel
theorem dX10_yearsNow_45 : decode cX10_yearsNow 45 = .ok (.iconst 0, 1) := by decide +kernel
theorem dX10_yearsNow_46 : decode cX10_yearsNow 46 = .ok (.istore 4, 2) := by decide +kernel
theorem dX10_yearsNow_48 : decode cX10_yearsNow 48 = .ok (.iload 4, 2) := by decide +kernel
theorem dX10_yearsNow_50 : decode cX10_yearsNow 50 = .ok (.iload_n 1, 1) := by decide +kernel
theorem dX10_yearsNow_51 : decode cX10_yearsNow 51 = .ok (.if_icmp .ge 13, 3) := by decide +kernel
theorem dX10_yearsNow_54 : decode cX10_yearsNow 54 = .ok (.aload_n 0, 1) := by decide +kernel
theorem dX10_yearsNow_55 : decode cX10_yearsNow 55 = .ok (.invokevirtual 190, 3) := by decide +kernel
theorem dX10_yearsNow_58 : decode cX10_yearsNow 58 = .ok (.iinc 4 1, 3) := by decide +kernel
theorem dX10_yearsNow_61 : decode cX10_yearsNow 61 = .ok (.goto (-13), 3) := by decide +kernel
theorem dX10_yearsNow_64 : decode cX10_yearsNow 64 = .ok (.iload_n 3, 1) := by decide +kernel
theorem dX10_yearsNow_65 : decode cX10_yearsNow 65 = .ok (.ifCond .ne 12, 3) := by decide +kernel
theorem dX10_yearsNow_68 : decode cX10_yearsNow 68 = .ok (.aload_n 0, 1) := by decide +kernel
theorem dX10_yearsNow_69 : decode cX10_yearsNow 69 = .ok (.bipush 24, 2) := by decide +kernel
theorem dX10_yearsNow_71 : decode cX10_yearsNow 71 = .ok (.invokevirtual 157, 3) := by decide +kernel
theorem dX10_yearsNow_74 : decode cX10_yearsNow 74 = .ok (.goto 22, 3) := by decide +kernel
theorem dX10_yearsNow_77 : decode cX10_yearsNow 77 = .ok (.iload_n 3, 1) := by decide +kernel
theorem dX10_yearsNow_78 : decode cX10_yearsNow 78 = .ok (.iconst 1, 1) := by decide +kernel
theorem dX10_yearsNow_79 : decode cX10_yearsNow 79 = .ok (.if_icmp .ne 12, 3) := by decide +kernel
theorem dX10_yearsNow_82 : decode cX10_yearsNow 82 = .ok (.aload_n 0, 1) := by decide +kernel
theorem dX10_yearsNow_83 : decode cX10_yearsNow 83 = .ok (.bipush 24, 2) := by decide +kernel
theorem dX10_yearsNow_85 : decode cX10_yearsNow 85 = .ok (.invokevirtual 193, 3) := by decide +kernel
theorem dX10_yearsNow_88 : decode cX10_yearsNow 88 = .ok (.goto 8, 3) := by decide +kernel
theorem dX10_yearsNow_91 : decode cX10_yearsNow 91 = .ok (.aload_n 0, 1) := by decide +kernel
theorem dX10_yearsNow_92 : decode cX10_yearsNow 92 = .ok (.getfield 177, 3) := by decide +kernel
theorem dX10_yearsNow_95 : decode cX10_yearsNow 95 = .ok (.l2i, 1) := by decide +kernel
theorem dX10_yearsNow_96 : decode cX10_yearsNow 96 = .ok (.ireturn, 1) := by decide +kernel
set_option maxRecDepth 20000 in
theorem ggX10_years_X10_within : GoodIn wsX10_years wsX10_within := goodIn_r _ [5] (by decide +kernel) (by decide +kernel)
set_option maxRecDepth 20000 in
theorem gX10_years_X10_within : GoodIn wsX10_years (va_wsS RX10 53 yX10_within wsX10_within) := goodIn_app (goodIn_of _ (by decide +kernel)) ggX10_years_X10_within
set_option maxRecDepth 20000 in
theorem ggX10_years_X10_yearsNow : GoodIn wsX10_years wsX10_yearsNow := goodIn_r _ [9, 1, 10, 11, 12, 13, 14, 4, 15, 16, 17, 18, 19, 20, 21, 22, 23, 24, 25, 26, 27, 28, 29, 30, 31, 32, 33, 34, 35, 36, 37, 38, 39, 40, 41, 42, 43, 44, 45, 46, 47, 48, 49, 50, 51, 52, 53, 54, 55, 56, 57, 58, 59, 60, 61, 62, 63, 64, 65, 66, 67, 68, 69, 70, 71, 72, 73, 74, 75, 76, 77, 78, 79, 80, 81, 82, 83, 84, 85, 86, 87, 88, 89, 90] (by decide +kernel) (by decide +kernel)
set_option maxRecDepth 20000 in
theorem gX10_years_X10_yearsNow : GoodIn wsX10_years (wsV RX10 196 RX10 yX10_yearsNow wsX10_yearsNow) := goodIn_app (goodIn_of _ (by decide +kernel)) ggX10_years_X10_yearsNow
theorem dX10_years_0 : decode cX10_years 0 = .ok (.iload_n 1, 1) := by decide +kernel
theorem dX10_years_1 : decode cX10_years 1 = .ok (.iconst 1, 1) := by decide +kernel
theorem dX10_years_2 : decode cX10_years 2 = .ok (.bipush 60, 2) := by decide +kernel
theorem dX10_years_4 : decode cX10_years 4 = .ok (.invokestatic 53, 3) := by decide +kernel
theorem dX10_years_7 : decode cX10_years 7 = .ok (.ifCond .eq 16, 3) := by decide +kernel
theorem dX10_years_10 : decode cX10_years 10 = .ok (.iload_n 2, 1) := by decide +kernel
theorem dX10_years_11 : decode cX10_years 11 = .ok (.ifCond .lt 12, 3) := by decide +kernel
theorem dX10_years_14 : decode cX10_years 14 = .ok (.iload_n 3, 1) := by decide +kernel
theorem dX10_years_15 : decode cX10_years 15 = .ok (.iconst 0, 1) := by decide +kernel
theorem dX10_years_16 : decode cX10_years 16 = .ok (.iconst 2, 1) := by decide +kernel
theorem dX10_years_17 : decode cX10_years 17 = .ok (.invokestatic 53, 3) := by decide +kernel
theorem dX10_years_20 : decode cX10_years 20 = .ok (.ifCond .ne 6, 3) := by decide +kernel
theorem dX10_years_23 : decode cX10_years 23 = .ok (.bipush (-102), 2) := by decide +kernel
theorem dX10_years_25 : decode cX10_years 25 = .ok (.ireturn, 1) := by decide +kernel
theorem dX10_years_26 : decode cX10_years 26 = .ok (.aload_n 0, 1) := by decide +kernel
theorem dX10_years_27 : decode cX10_years 27 = .ok (.getfield 79, 3) := by decide +kernel
theorem dX10_years_30 : decode cX10_years 30 = .ok (.ifCond .ne 8, 3) := by decide +kernel
theorem dX10_years_33 : decode cX10_years 33 = .ok (.bipush (-103), 2) := by decide +kernel
theorem dX10_years_35 : decode cX10_years 35 = .ok (.goto 10, 3) := by decide +kernel
theorem dX10_years_38 : decode cX10_years 38 = .ok (.aload_n 0, 1) := by decide +kernel
theorem dX10_years_39 : decode cX10_years 39 = .ok (.iload_n 1, 1) := by decide +kernel
theorem dX10_years_40 : decode cX10_years 40 = .ok (.iload_n 2, 1) := by decide +kernel
theorem dX10_years_41 : decode cX10_years 41 = .ok (.iload_n 3, 1) := by decide +kernel
theorem dX10_years_42 : decode cX10_years 42 = .ok (.invokevirtual 196, 3) := by decide +kernel
theorem dX10_years_45 : decode cX10_years 45 = .ok (.ireturn, 1) := by decide +kernel
theorem dX10_image_0 : decode cX10_image 0 = .ok (.aload_n 0, 1) := by decide +kernel
theorem dX10_image_1 : decode cX10_image 1 = .ok (.getfield 79, 3) := by decide +kernel
theorem dX10_image_4 : decode cX10_image 4 = .ok (.ifCond .ne 6, 3) := by decide +kernel
theorem dX10_image_7 : decode cX10_image 7 = .ok (.bipush (-103), 2) := by decide +kernel
theorem dX10_image_9 : decode cX10_image 9 = .ok (.ireturn, 1) := by decide +kernel
theorem dX10_image_10 : decode cX10_image 10 = .ok (.aload_n 0, 1) := by decide +kernel
theorem dX10_image_11 : decode cX10_image 11 = .ok (.iconst 1, 1) := by decide +kernel
theorem dX10_image_12 : decode cX10_image 12 = .ok (.putfield 199, 3) := by decide +kernel
theorem dX10_image_15 : decode cX10_image 15 = .ok (.aload_n 0, 1) := by decide +kernel
theorem dX10_image_16 : decode cX10_image 16 = .ok (.aload_n 0, 1) := by decide +kernel
theorem dX10_image_17 : decode cX10_image 17 = .ok (.getfield 82, 3) := by decide +kernel
theorem dX10_image_20 : decode cX10_image 20 = .ok (.putfield 203, 3) := by decide +kernel
theorem dX10_image_23 : decode cX10_image 23 = .ok (.iconst 0, 1) := by decide +kernel
theorem dX10_image_24 : decode cX10_image 24 = .ok (.istore_n 1, 1) := by decide +kernel
theorem dX10_image_25 : decode cX10_image 25 = .ok (.iload_n 1, 1) := by decide +kernel
theorem dX10_image_26 : decode cX10_image 26 = .ok (.bipush 6, 2) := by decide +kernel
theorem dX10_image_28 : decode cX10_image 28 = .ok (.if_icmp .ge 45, 3) := by decide +kernel
theorem dX10_image_31 : decode cX10_image 31 = .ok (.aload_n 0, 1) := by decide +kernel
theorem dX10_image_32 : decode cX10_image 32 = .ok (.getfield 38, 3) := by decide +kernel
theorem dX10_image_35 : decode cX10_image 35 = .ok (.iload_n 1, 1) := by decide +kernel
theorem dX10_image_36 : decode cX10_image 36 = .ok (.aload_n 0, 1) := by decide +kernel
theorem dX10_image_37 : decode cX10_image 37 = .ok (.getfield 16, 3) := by decide +kernel
theorem dX10_image_40 : decode cX10_image 40 = .ok (.iload_n 1, 1) := by decide +kernel
theorem dX10_image_41 : decode cX10_image 41 = .ok (.iaload, 1) := by decide +kernel
theorem dX10_image_42 : decode cX10_image 42 = .ok (.iastore, 1) := by decide +kernel
theorem dX10_image_43 : decode cX10_image 43 = .ok (.aload_n 0, 1) := by decide +kernel
theorem dX10_image_44 : decode cX10_image 44 = .ok (.getfield 41, 3) := by decide +kernel
theorem dX10_image_47 : decode cX10_image 47 = .ok (.iload_n 1, 1) := by decide +kernel
theorem dX10_image_48 : decode cX10_image 48 = .ok (.aload_n 0, 1) := by decide +kernel
theorem dX10_image_49 : decode cX10_image 49 = .ok (.getfield 19, 3) := by decide +kernel
theorem dX10_image_52 : decode cX10_image 52 = .ok (.iload_n 1, 1) := by decide +kernel
theorem dX10_image_53 : decode cX10_image 53 = .ok (.iaload, 1) := by decide +kernel
theorem dX10_image_54 : decode cX10_image 54 = .ok (.iastore, 1) := by decide +kernel
theorem dX10_image_55 : decode cX10_image 55 = .ok (.aload_n 0, 1) := by decide +kernel
theorem dX10_image_56 : decode cX10_image 56 = .ok (.getfield 44, 3) := by decide +kernel
theorem dX10_image_59 : decode cX10_image 59 = .ok (.iload_n 1, 1) := by decide +kernel
theorem dX10_image_60 : decode cX10_image 60 = .ok (.aload_n 0, 1) := by decide +kernel
theorem dX10_image_61 : decode cX10_image 61 = .ok (.getfield 22, 3) := by decide +kernel
theorem dX10_image_64 : decode cX10_image 64 = .ok (.iload_n 1, 1) := by decide +kernel
theorem dX10_image_65 : decode cX10_image 65 = .ok (.iaload, 1) := by decide +kernel
theorem dX10_image_66 : decode cX10_image 66 = .ok (.iastore, 1) := by decide +kernel
theorem dX10_image_67 : decode cX10_image 67 = .ok (.iinc 1 1, 3) := by decide +kernel
theorem dX10_image_70 : decode cX10_image 70 = .ok (.goto (-45), 3) := by decide +kernel
theorem dX10_image_73 : decode cX10_image 73 = .ok (.iconst 0, 1) := by decide +kernel
theorem dX10_image_74 : decode cX10_image 74 = .ok (.istore_n 1, 1) := by decide +kernel
theorem dX10_image_75 : decode cX10_image 75 = .ok (.iload_n 1, 1) := by decide +kernel
theorem dX10_image_76 : decode cX10_image 76 = .ok (.bipush 24, 2) := by decide +kernel
theorem dX10_image_78 : decode cX10_image 78 = .ok (.if_icmp .ge 33, 3) := by decide +kernel
theorem dX10_image_81 : decode cX10_image 81 = .ok (.aload_n 0, 1) := by decide +kernel
theorem dX10_image_82 : decode cX10_image 82 = .ok (.getfield 47, 3) := by decide +kernel
theorem dX10_image_85 : decode cX10_image 85 = .ok (.iload_n 1, 1) := by decide +kernel
theorem dX10_image_86 : decode cX10_image 86 = .ok (.aload_n 0, 1) := by decide +kernel
theorem dX10_image_87 : decode cX10_image 87 = .ok (.getfield 25, 3) := by decide +kernel
theorem dX10_image_90 : decode cX10_image 90 = .ok (.iload_n 1, 1) := by decide +kernel
theorem dX10_image_91 : decode cX10_image 91 = .ok (.iaload, 1) := by decide +kernel
theorem dX10_image_92 : decode cX10_image 92 = .ok (.iastore, 1) := by decide +kernel
theorem dX10_image_93 : decode cX10_image 93 = .ok (.aload_n 0, 1) := by decide +kernel
theorem dX10_image_94 : decode cX10_image 94 = .ok (.getfield 50, 3) := by decide +kernel
theorem dX10_image_97 : decode cX10_image 97 = .ok (.iload_n 1, 1) := by decide +kernel
theorem dX10_image_98 : decode cX10_image 98 = .ok (.aload_n 0, 1) := by decide +kernel
theorem dX10_image_99 : decode cX10_image 99 = .ok (.getfield 28, 3) := by decide +kernel
theorem dX10_image_102 : decode cX10_image 102 = .ok (.iload_n 1, 1) := by decide +kernel
theorem dX10_image_103 : decode cX10_image 103 = .ok (.iaload, 1) := by decide +kernel
theorem dX10_image_104 : decode cX10_image 104 = .ok (.iastore, 1) := by decide +kernel
theorem dX10_image_105 : decode cX10_image 105 = .ok (.iinc 1 1, 3) := by decide +kernel
theorem dX10_image_108 : decode cX10_image 108 = .ok (.goto (-33), 3) := by decide +kernel
theorem dX10_image_111 : decode cX10_image 111 = .ok (.aload_n 0, 1) := by decide +kernel
theorem dX10_image_112 : decode cX10_image 112 = .ok (.getfield 79, 3) := by decide +kernel
theorem dX10_image_115 : decode cX10_image 115 = .ok (.ireturn, 1) := by decide +kernel
theorem dX10_restore_0 : decode cX10_restore 0 = .ok (.aload_n 0, 1) := by decide +kernel
theorem dX10_restore_1 : decode cX10_restore 1 = .ok (.getfield 199, 3) := by decide +kernel
theorem dX10_restore_4 : decode cX10_restore 4 = .ok (.ifCond .eq 14, 3) := by decide +kernel
theorem dX10_restore_7 : decode cX10_restore 7 = .ok (.aload_n 0, 1) := by decide +kernel
theorem dX10_restore_8 : decode cX10_restore 8 = .ok (.getfield 203, 3) := by decide +kernel
theorem dX10_restore_11 : decode cX10_restore 11 = .ok (.aload_n 0, 1) := by decide +kernel
theorem dX10_restore_12 : decode cX10_restore 12 = .ok (.getfield 82, 3) := by decide +kernel
theorem dX10_restore_15 : decode cX10_restore 15 = .ok (.if_icmp .eq 6, 3) := by decide +kernel
theorem dX10_restore_18 : decode cX10_restore 18 = .ok (.bipush (-103), 2) := by decide +kernel
theorem dX10_restore_20 : decode cX10_restore 20 = .ok (.ireturn, 1) := by decide +kernel
theorem dX10_restore_21 : decode cX10_restore 21 = .ok (.iconst 0, 1) := by decide +kernel
theorem dX10_restore_22 : decode cX10_restore 22 = .ok (.istore_n 1, 1) := by decide +kernel
theorem dX10_restore_23 : decode cX10_restore 23 = .ok (.iload_n 1, 1) := by decide +kernel
theorem dX10_restore_24 : decode cX10_restore 24 = .ok (.aload_n 0, 1) := by decide +kernel
theorem dX10_restore_25 : decode cX10_restore 25 = .ok (.getfield 79, 3) := by decide +kernel
theorem dX10_restore_28 : decode cX10_restore 28 = .ok (.if_icmp .ge 57, 3) := by decide +kernel
theorem dX10_restore_31 : decode cX10_restore 31 = .ok (.aload_n 0, 1) := by decide +kernel
theorem dX10_restore_32 : decode cX10_restore 32 = .ok (.getfield 16, 3) := by decide +kernel
theorem dX10_restore_35 : decode cX10_restore 35 = .ok (.iload_n 1, 1) := by decide +kernel
theorem dX10_restore_36 : decode cX10_restore 36 = .ok (.aload_n 0, 1) := by decide +kernel
theorem dX10_restore_37 : decode cX10_restore 37 = .ok (.getfield 38, 3) := by decide +kernel
theorem dX10_restore_40 : decode cX10_restore 40 = .ok (.iload_n 1, 1) := by decide +kernel
theorem dX10_restore_41 : decode cX10_restore 41 = .ok (.iaload, 1) := by decide +kernel
theorem dX10_restore_42 : decode cX10_restore 42 = .ok (.iastore, 1) := by decide +kernel
theorem dX10_restore_43 : decode cX10_restore 43 = .ok (.aload_n 0, 1) := by decide +kernel
theorem dX10_restore_44 : decode cX10_restore 44 = .ok (.getfield 31, 3) := by decide +kernel
theorem dX10_restore_47 : decode cX10_restore 47 = .ok (.aload_n 0, 1) := by decide +kernel
theorem dX10_restore_48 : decode cX10_restore 48 = .ok (.getfield 16, 3) := by decide +kernel
theorem dX10_restore_51 : decode cX10_restore 51 = .ok (.iload_n 1, 1) := by decide +kernel
theorem dX10_restore_52 : decode cX10_restore 52 = .ok (.iaload, 1) := by decide +kernel
theorem dX10_restore_53 : decode cX10_restore 53 = .ok (.iload_n 1, 1) := by decide +kernel
theorem dX10_restore_54 : decode cX10_restore 54 = .ok (.iastore, 1) := by decide +kernel
theorem dX10_restore_55 : decode cX10_restore 55 = .ok (.aload_n 0, 1) := by decide +kernel
theorem dX10_restore_56 : decode cX10_restore 56 = .ok (.getfield 19, 3) := by decide +kernel
theorem dX10_restore_59 : decode cX10_restore 59 = .ok (.iload_n 1, 1) := by decide +kernel
theorem dX10_restore_60 : decode cX10_restore 60 = .ok (.aload_n 0, 1) := by decide +kernel
theorem dX10_restore_61 : decode cX10_restore 61 = .ok (.getfield 41, 3) := by decide +kernel
theorem dX10_restore_64 : decode cX10_restore 64 = .ok (.iload_n 1, 1) := by decide +kernel
theorem dX10_restore_65 : decode cX10_restore 65 = .ok (.iaload, 1) := by decide +kernel
theorem dX10_restore_66 : decode cX10_restore 66 = .ok (.iastore, 1) := by decide +kernel
theorem dX10_restore_67 : decode cX10_restore 67 = .ok (.aload_n 0, 1) := by decide +kernel
theorem dX10_restore_68 : decode cX10_restore 68 = .ok (.getfield 22, 3) := by decide +kernel
theorem dX10_restore_71 : decode cX10_restore 71 = .ok (.iload_n 1, 1) := by decide +kernel
theorem dX10_restore_72 : decode cX10_restore 72 = .ok (.aload_n 0, 1) := by decide +kernel
theorem dX10_restore_73 : decode cX10_restore 73 = .ok (.getfield 44, 3) := by decide +kernel
theorem dX10_restore_76 : decode cX10_restore 76 = .ok (.iload_n 1, 1) := by decide +kernel
theorem dX10_restore_77 : decode cX10_restore 77 = .ok (.iaload, 1) := by decide +kernel
theorem dX10_restore_78 : decode cX10_restore 78 = .ok (.iastore, 1) := by decide +kernel
theorem dX10_restore_79 : decode cX10_restore 79 = .ok (.iinc 1 1, 3) := by decide +kernel
theorem dX10_restore_82 : decode cX10_restore 82 = .ok (.goto (-59), 3) := by decide +kernel
theorem dX10_restore_85 : decode cX10_restore 85 = .ok (.iconst 0, 1) := by decide +kernel
theorem dX10_restore_86 : decode cX10_restore 86 = .ok (.istore_n 1, 1) := by decide +kernel
theorem dX10_restore_87 : decode cX10_restore 87 = .ok (.iload_n 1, 1) := by decide +kernel
theorem dX10_restore_88 : decode cX10_restore 88 = .ok (.bipush 24, 2) := by decide +kernel
theorem dX10_restore_90 : decode cX10_restore 90 = .ok (.if_icmp .ge 33, 3) := by decide +kernel
theorem dX10_restore_93 : decode cX10_restore 93 = .ok (.aload_n 0, 1) := by decide +kernel
theorem dX10_restore_94 : decode cX10_restore 94 = .ok (.getfield 25, 3) := by decide +kernel
theorem dX10_restore_97 : decode cX10_restore 97 = .ok (.iload_n 1, 1) := by decide +kernel
theorem dX10_restore_98 : decode cX10_restore 98 = .ok (.aload_n 0, 1) := by decide +kernel
theorem dX10_restore_99 : decode cX10_restore 99 = .ok (.getfield 47, 3) := by decide +kernel
theorem dX10_restore_102 : decode cX10_restore 102 = .ok (.iload_n 1, 1) := by decide +kernel
theorem dX10_restore_103 : decode cX10_restore 103 = .ok (.iaload, 1) := by decide +kernel
theorem dX10_restore_104 : decode cX10_restore 104 = .ok (.iastore, 1) := by decide +kernel
theorem dX10_restore_105 : decode cX10_restore 105 = .ok (.aload_n 0, 1) := by decide +kernel
theorem dX10_restore_106 : decode cX10_restore 106 = .ok (.getfield 28, 3) := by decide +kernel
theorem dX10_restore_109 : decode cX10_restore 109 = .ok (.iload_n 1, 1) := by decide +kernel
theorem dX10_restore_110 : decode cX10_restore 110 = .ok (.aload_n 0, 1) := by decide +kernel
theorem dX10_restore_111 : decode cX10_restore 111 = .ok (.getfield 50, 3) := by decide +kernel
theorem dX10_restore_114 : decode cX10_restore 114 = .ok (.iload_n 1, 1) := by decide +kernel
theorem dX10_restore_115 : decode cX10_restore 115 = .ok (.iaload, 1) := by decide +kernel
theorem dX10_restore_116 : decode cX10_restore 116 = .ok (.iastore, 1) := by decide +kernel
theorem dX10_restore_117 : decode cX10_restore 117 = .ok (.iinc 1 1, 3) := by decide +kernel
theorem dX10_restore_120 : decode cX10_restore 120 = .ok (.goto (-33), 3) := by decide +kernel
theorem dX10_restore_123 : decode cX10_restore 123 = .ok (.aload_n 0, 1) := by decide +kernel
theorem dX10_restore_124 : decode cX10_restore 124 = .ok (.getfield 79, 3) := by decide +kernel
theorem dX10_restore_127 : decode cX10_restore 127 = .ok (.ireturn, 1) := by decide +kernel
set_option maxRecDepth 20000 in
theorem ggX10_howMany_X10_illSet : GoodIn wsX10_howMany wsX10_illSet := goodIn_r _ [11, 4, 12, 26, 27, 28, 29, 30, 31, 32, 33, 34, 35, 36, 37, 38, 39, 40, 41, 42, 43, 44, 45, 46, 47, 48, 49, 50] (by decide +kernel) (by decide +kernel)
set_option maxRecDepth 20000 in
theorem gX10_howMany_X10_illSet : GoodIn wsX10_howMany (wsV RX10 119 RX10 yX10_illSet wsX10_illSet) := goodIn_app (goodIn_of _ (by decide +kernel)) ggX10_howMany_X10_illSet
set_option maxRecDepth 20000 in
theorem ggX10_howMany_X10_size : GoodIn wsX10_howMany wsX10_size := goodIn_r _ [15] (by decide +kernel) (by decide +kernel)
set_option maxRecDepth 20000 in
theorem gX10_howMany_X10_size : GoodIn wsX10_howMany (va_wsS RX10 142 yX10_size wsX10_size) := goodIn_app (goodIn_of _ (by decide +kernel)) ggX10_howMany_X10_size
set_option maxRecDepth 20000 in
theorem ggX10_howMany_X10_allParts : GoodIn wsX10_howMany wsX10_allParts := goodIn_r _ [19, 4, 20, 26, 27, 28, 29, 30, 31, 32, 33, 34, 35, 36, 37, 38, 39, 40, 41, 42, 43, 44, 45, 46, 47, 48, 49, 50] (by decide +kernel) (by decide +kernel)
set_option maxRecDepth 20000 in
theorem gX10_howMany_X10_allParts : GoodIn wsX10_howMany (wsV RX10 157 RX10 yX10_allParts wsX10_allParts) := goodIn_app (goodIn_of _ (by decide +kernel)) ggX10_howMany_X10_allParts
set_option maxRecDepth 20000 in
theorem ggX10_howMany_X10_allWrong : GoodIn wsX10_howMany wsX10_allWrong := goodIn_r _ [24, 4, 25, 13, 14, 10, 15, 26, 27, 28, 29, 30, 31, 32, 33, 34, 35, 36, 37, 38, 39, 40, 41, 42, 43, 44, 45, 46, 47, 48, 49, 50] (by decide +kernel) (by decide +kernel)
set_option maxRecDepth 20000 in
theorem gX10_howMany_X10_allWrong : GoodIn wsX10_howMany (wsV RX10 193 RX10 yX10_allWrong wsX10_allWrong) := goodIn_app (goodIn_of _ (by decide +kernel)) ggX10_howMany_X10_allWrong
theorem dX10_howMany_0 : decode cX10_howMany 0 = .ok (.iload_n 1, 1) := by decide +kernel
theorem dX10_howMany_1 : decode cX10_howMany 1 = .ok (.tableswitch 117 0 11 #[63, 68, 73, 73, 73, 73, 82, 87, 95, 101, 107, 112], 63) := by decide +kernel
theorem dX10_howMany_64 : decode cX10_howMany 64 = .ok (.aload_n 0, 1) := by decide +kernel
theorem dX10_howMany_65 : decode cX10_howMany 65 = .ok (.getfield 73, 3) := by decide +kernel
theorem dX10_howMany_68 : decode cX10_howMany 68 = .ok (.ireturn, 1) := by decide +kernel
theorem dX10_howMany_69 : decode cX10_howMany 69 = .ok (.aload_n 0, 1) := by decide +kernel
theorem dX10_howMany_70 : decode cX10_howMany 70 = .ok (.getfield 76, 3) := by decide +kernel
theorem dX10_howMany_73 : decode cX10_howMany 73 = .ok (.ireturn, 1) := by decide +kernel
theorem dX10_howMany_74 : decode cX10_howMany 74 = .ok (.aload_n 0, 1) := by decide +kernel
theorem dX10_howMany_75 : decode cX10_howMany 75 = .ok (.getfield 7, 3) := by decide +kernel
theorem dX10_howMany_78 : decode cX10_howMany 78 = .ok (.iload_n 1, 1) := by decide +kernel
theorem dX10_howMany_79 : decode cX10_howMany 79 = .ok (.iconst 2, 1) := by decide +kernel
theorem dX10_howMany_80 : decode cX10_howMany 80 = .ok (.isub, 1) := by decide +kernel
theorem dX10_howMany_81 : decode cX10_howMany 81 = .ok (.iaload, 1) := by decide +kernel
theorem dX10_howMany_82 : decode cX10_howMany 82 = .ok (.ireturn, 1) := by decide +kernel
theorem dX10_howMany_83 : decode cX10_howMany 83 = .ok (.aload_n 0, 1) := by decide +kernel
theorem dX10_howMany_84 : decode cX10_howMany 84 = .ok (.getfield 79, 3) := by decide +kernel
theorem dX10_howMany_87 : decode cX10_howMany 87 = .ok (.ireturn, 1) := by decide +kernel
theorem dX10_howMany_88 : decode cX10_howMany 88 = .ok (.aload_n 0, 1) := by decide +kernel
theorem dX10_howMany_89 : decode cX10_howMany 89 = .ok (.invokevirtual 119, 3) := by decide +kernel
theorem dX10_howMany_92 : decode cX10_howMany 92 = .ok (.invokestatic 142, 3) := by decide +kernel
theorem dX10_howMany_95 : decode cX10_howMany 95 = .ok (.ireturn, 1) := by decide +kernel
theorem dX10_howMany_96 : decode cX10_howMany 96 = .ok (.aload_n 0, 1) := by decide +kernel
theorem dX10_howMany_97 : decode cX10_howMany 97 = .ok (.iconst 0, 1) := by decide +kernel
theorem dX10_howMany_98 : decode cX10_howMany 98 = .ok (.invokevirtual 157, 3) := by decide +kernel
theorem dX10_howMany_101 : decode cX10_howMany 101 = .ok (.ireturn, 1) := by decide +kernel
theorem dX10_howMany_102 : decode cX10_howMany 102 = .ok (.aload_n 0, 1) := by decide +kernel
theorem dX10_howMany_103 : decode cX10_howMany 103 = .ok (.iconst 0, 1) := by decide +kernel
theorem dX10_howMany_104 : decode cX10_howMany 104 = .ok (.invokevirtual 193, 3) := by decide +kernel
theorem dX10_howMany_107 : decode cX10_howMany 107 = .ok (.ireturn, 1) := by decide +kernel
theorem dX10_howMany_108 : decode cX10_howMany 108 = .ok (.aload_n 0, 1) := by decide +kernel
theorem dX10_howMany_109 : decode cX10_howMany 109 = .ok (.getfield 57, 3) := by decide +kernel
theorem dX10_howMany_112 : decode cX10_howMany 112 = .ok (.ireturn, 1) := by decide +kernel
theorem dX10_howMany_113 : decode cX10_howMany 113 = .ok (.aload_n 0, 1) := by decide +kernel
theorem dX10_howMany_114 : decode cX10_howMany 114 = .ok (.getfield 82, 3) := by decide +kernel
theorem dX10_howMany_117 : decode cX10_howMany 117 = .ok (.ireturn, 1) := by decide +kernel
theorem dX10_howMany_118 : decode cX10_howMany 118 = .ok (.bipush (-102), 2) := by decide +kernel
theorem dX10_howMany_120 : decode cX10_howMany 120 = .ok (.ireturn, 1) := by decide +kernel
set_option maxRecDepth 20000 in
theorem ggX10_count_X10_howMany : GoodIn wsX10_count wsX10_howMany := goodIn_r _ [5, 6, 7, 8, 9, 10, 11, 12, 13, 14, 4, 15, 16, 17, 18, 19, 20, 21, 22, 23, 24, 25, 26, 27, 28, 29, 30, 31, 32, 33, 34, 35, 36, 37, 38, 39, 40, 41, 42, 43, 44, 45, 46, 47, 48, 49, 50, 51, 52, 53, 54] (by decide +kernel) (by decide +kernel)
set_option maxRecDepth 20000 in
theorem gX10_count_X10_howMany : GoodIn wsX10_count (wsV RX10 206 RX10 yX10_howMany wsX10_howMany) := goodIn_app (goodIn_of _ (by decide +kernel)) ggX10_count_X10_howMany
theorem dX10_count_0 : decode cX10_count 0 = .ok (.aload_n 0, 1) := by decide +kernel
theorem dX10_count_1 : decode cX10_count 1 = .ok (.iload_n 1, 1) := by decide +kernel
theorem dX10_count_2 : decode cX10_count 2 = .ok (.invokevirtual 206, 3) := by decide +kernel
theorem dX10_count_5 : decode cX10_count 5 = .ok (.ireturn, 1) := by decide +kernel
theorem dX10_mix_0 : decode cX10_mix 0 = .ok (.aload_n 0, 1) := by decide +kernel
theorem dX10_mix_1 : decode cX10_mix 1 = .ok (.ldc2_w 209, 3) := by decide +kernel
theorem dX10_mix_4 : decode cX10_mix 4 = .ok (.aload_n 0, 1) := by decide +kernel
theorem dX10_mix_5 : decode cX10_mix 5 = .ok (.getfield 211, 3) := by decide +kernel
theorem dX10_mix_8 : decode cX10_mix 8 = .ok (.lmul, 1) := by decide +kernel
theorem dX10_mix_9 : decode cX10_mix 9 = .ok (.lload_n 1, 1) := by decide +kernel
theorem dX10_mix_10 : decode cX10_mix 10 = .ok (.ladd, 1) := by decide +kernel
theorem dX10_mix_11 : decode cX10_mix 11 = .ok (.putfield 211, 3) := by decide +kernel
theorem dX10_mix_14 : decode cX10_mix 14 = .ok (.return_, 1) := by decide +kernel
set_option maxRecDepth 20000 in
theorem ggX10_mixChild_X10_childNow : GoodIn wsX10_mixChild wsX10_childNow := goodIn_r _ [5, 6, 7, 8, 9, 10, 11, 12, 4, 13, 14, 34, 35, 36, 37, 38, 39, 40, 41, 42, 43, 44, 45, 46, 47, 48, 49, 50, 51, 52, 53, 54, 55, 56, 57, 58] (by decide +kernel) (by decide +kernel)
set_option maxRecDepth 20000 in
theorem gX10_mixChild_X10_childNow : GoodIn wsX10_mixChild (wsV RX10 91 RX10 yX10_childNow wsX10_childNow) := goodIn_app (goodIn_of _ (by decide +kernel)) ggX10_mixChild_X10_childNow
set_option maxRecDepth 20000 in
theorem ggX10_mixChild_X10_mix : GoodIn wsX10_mixChild wsX10_mix := goodIn_r _ [18, 19, 20, 34, 35, 36, 37, 38, 39, 40, 41, 42, 43, 44, 45, 46, 47, 48, 49, 50, 51, 52, 53, 54, 55, 56, 57, 58] (by decide +kernel) (by decide +kernel)
set_option maxRecDepth 20000 in
theorem gX10_mixChild_X10_mix : GoodIn wsX10_mixChild (wsV RX10 214 RX10 yX10_mix wsX10_mix) := goodIn_app (goodIn_of _ (by decide +kernel)) ggX10_mixChild_X10_mix
set_option maxRecDepth 20000 in
theorem ggX10_mixChild_X10_knowsNow : GoodIn wsX10_mixChild wsX10_knowsNow := goodIn_r _ [24, 14, 25, 34, 35, 36, 37, 38, 39, 40, 41, 42, 43, 44, 45, 46, 47, 48, 49, 50, 51, 52, 53, 54, 55, 56, 57, 58] (by decide +kernel) (by decide +kernel)
set_option maxRecDepth 20000 in
theorem gX10_mixChild_X10_knowsNow : GoodIn wsX10_mixChild (wsV RX10 102 RX10 yX10_knowsNow wsX10_knowsNow) := goodIn_app (goodIn_of _ (by decide +kernel)) ggX10_mixChild_X10_knowsNow
set_option maxRecDepth 20000 in
theorem ggX10_mixChild_X10_asksNow : GoodIn wsX10_mixChild wsX10_asksNow := goodIn_r _ [29, 7, 30, 14, 25, 8, 31, 32, 4, 33, 34, 35, 36, 37, 38, 39, 40, 41, 42, 43, 44, 45, 46, 47, 48, 49, 50, 51, 52, 53, 54, 55, 56, 57, 58] (by decide +kernel) (by decide +kernel)
set_option maxRecDepth 20000 in
theorem gX10_mixChild_X10_asksNow : GoodIn wsX10_mixChild (wsV RX10 163 RX10 yX10_asksNow wsX10_asksNow) := goodIn_app (goodIn_of _ (by decide +kernel)) ggX10_mixChild_X10_asksNow
theorem dX10_mixChild_0 : decode cX10_mixChild 0 = .ok (.iconst 0, 1) := by decide +kernel
theorem dX10_mixChild_1 : decode cX10_mixChild 1 = .ok (.istore_n 2, 1) := by decide +kernel
theorem dX10_mixChild_2 : decode cX10_mixChild 2 = .ok (.iload_n 2, 1) := by decide +kernel
theorem dX10_mixChild_3 : decode cX10_mixChild 3 = .ok (.iconst 5, 1) := by decide +kernel
theorem dX10_mixChild_4 : decode cX10_mixChild 4 = .ok (.if_icmp .ge 20, 3) := by decide +kernel
theorem dX10_mixChild_7 : decode cX10_mixChild 7 = .ok (.aload_n 0, 1) := by decide +kernel
theorem dX10_mixChild_8 : decode cX10_mixChild 8 = .ok (.aload_n 0, 1) := by decide +kernel
theorem dX10_mixChild_9 : decode cX10_mixChild 9 = .ok (.iload_n 1, 1) := by decide +kernel
theorem dX10_mixChild_10 : decode cX10_mixChild 10 = .ok (.iload_n 2, 1) := by decide +kernel
theorem dX10_mixChild_11 : decode cX10_mixChild 11 = .ok (.invokevirtual 91, 3) := by decide +kernel
theorem dX10_mixChild_14 : decode cX10_mixChild 14 = .ok (.i2l, 1) := by decide +kernel
theorem dX10_mixChild_15 : decode cX10_mixChild 15 = .ok (.invokevirtual 214, 3) := by decide +kernel
theorem dX10_mixChild_18 : decode cX10_mixChild 18 = .ok (.iinc 2 1, 3) := by decide +kernel
theorem dX10_mixChild_21 : decode cX10_mixChild 21 = .ok (.goto (-19), 3) := by decide +kernel
theorem dX10_mixChild_24 : decode cX10_mixChild 24 = .ok (.iconst 0, 1) := by decide +kernel
theorem dX10_mixChild_25 : decode cX10_mixChild 25 = .ok (.istore_n 2, 1) := by decide +kernel
theorem dX10_mixChild_26 : decode cX10_mixChild 26 = .ok (.iload_n 2, 1) := by decide +kernel
theorem dX10_mixChild_27 : decode cX10_mixChild 27 = .ok (.iconst 4, 1) := by decide +kernel
theorem dX10_mixChild_28 : decode cX10_mixChild 28 = .ok (.if_icmp .ge 44, 3) := by decide +kernel
theorem dX10_mixChild_31 : decode cX10_mixChild 31 = .ok (.aload_n 0, 1) := by decide +kernel
theorem dX10_mixChild_32 : decode cX10_mixChild 32 = .ok (.aload_n 0, 1) := by decide +kernel
theorem dX10_mixChild_33 : decode cX10_mixChild 33 = .ok (.iload_n 1, 1) := by decide +kernel
theorem dX10_mixChild_34 : decode cX10_mixChild 34 = .ok (.iload_n 2, 1) := by decide +kernel
theorem dX10_mixChild_35 : decode cX10_mixChild 35 = .ok (.iconst 0, 1) := by decide +kernel
theorem dX10_mixChild_36 : decode cX10_mixChild 36 = .ok (.invokevirtual 102, 3) := by decide +kernel
theorem dX10_mixChild_39 : decode cX10_mixChild 39 = .ok (.i2l, 1) := by decide +kernel
theorem dX10_mixChild_40 : decode cX10_mixChild 40 = .ok (.invokevirtual 214, 3) := by decide +kernel
theorem dX10_mixChild_43 : decode cX10_mixChild 43 = .ok (.aload_n 0, 1) := by decide +kernel
theorem dX10_mixChild_44 : decode cX10_mixChild 44 = .ok (.aload_n 0, 1) := by decide +kernel
theorem dX10_mixChild_45 : decode cX10_mixChild 45 = .ok (.iload_n 1, 1) := by decide +kernel
theorem dX10_mixChild_46 : decode cX10_mixChild 46 = .ok (.iload_n 2, 1) := by decide +kernel
theorem dX10_mixChild_47 : decode cX10_mixChild 47 = .ok (.iconst 1, 1) := by decide +kernel
theorem dX10_mixChild_48 : decode cX10_mixChild 48 = .ok (.invokevirtual 102, 3) := by decide +kernel
theorem dX10_mixChild_51 : decode cX10_mixChild 51 = .ok (.i2l, 1) := by decide +kernel
theorem dX10_mixChild_52 : decode cX10_mixChild 52 = .ok (.invokevirtual 214, 3) := by decide +kernel
theorem dX10_mixChild_55 : decode cX10_mixChild 55 = .ok (.aload_n 0, 1) := by decide +kernel
theorem dX10_mixChild_56 : decode cX10_mixChild 56 = .ok (.aload_n 0, 1) := by decide +kernel
theorem dX10_mixChild_57 : decode cX10_mixChild 57 = .ok (.iload_n 1, 1) := by decide +kernel
theorem dX10_mixChild_58 : decode cX10_mixChild 58 = .ok (.iload_n 2, 1) := by decide +kernel
theorem dX10_mixChild_59 : decode cX10_mixChild 59 = .ok (.invokevirtual 163, 3) := by decide +kernel
theorem dX10_mixChild_62 : decode cX10_mixChild 62 = .ok (.i2l, 1) := by decide +kernel
theorem dX10_mixChild_63 : decode cX10_mixChild 63 = .ok (.invokevirtual 214, 3) := by decide +kernel
theorem dX10_mixChild_66 : decode cX10_mixChild 66 = .ok (.iinc 2 1, 3) := by decide +kernel
theorem dX10_mixChild_69 : decode cX10_mixChild 69 = .ok (.goto (-43), 3) := by decide +kernel
theorem dX10_mixChild_72 : decode cX10_mixChild 72 = .ok (.return_, 1) := by decide +kernel
set_option maxRecDepth 20000 in
theorem ggX10_digest_X10_mixChild : GoodIn wsX10_digest wsX10_mixChild := goodIn_r _ [10, 11, 12, 13, 9, 14, 15, 16, 17, 18, 19, 20, 21, 22, 23, 24, 25, 26, 27, 28, 2, 29, 30, 31, 32, 33, 34, 35, 36, 37, 38, 39, 40, 41, 119, 120, 121, 122, 123, 124, 125, 126, 127, 128, 129, 130, 131, 132, 133, 134, 135, 136, 137, 138, 139, 140, 141, 142, 143] (by decide +kernel) (by decide +kernel)
set_option maxRecDepth 20000 in
theorem gX10_digest_X10_mixChild : GoodIn wsX10_digest (wsV RX10 220 RX10 yX10_mixChild wsX10_mixChild) := goodIn_app (goodIn_of _ (by decide +kernel)) ggX10_digest_X10_mixChild
set_option maxRecDepth 20000 in
theorem ggX10_digest_X10_orderNow : GoodIn wsX10_digest wsX10_orderNow := goodIn_r _ [45, 38, 3, 23, 33, 46, 47, 48, 9, 49, 50, 51, 52, 53, 54, 55, 56, 57, 58, 59, 60, 61, 62, 63, 64, 65, 66, 67, 68, 69, 70, 71, 15, 72, 73, 74, 75, 76, 77, 78, 79, 39, 40, 41, 119, 120, 121, 122, 123, 124, 125, 126, 127, 128, 129, 130, 131, 132, 133, 134, 135, 136, 137, 138, 139, 140, 141, 142, 143] (by decide +kernel) (by decide +kernel)
set_option maxRecDepth 20000 in
theorem gX10_digest_X10_orderNow : GoodIn wsX10_digest (wsV RX10 148 RX10 yX10_orderNow wsX10_orderNow) := goodIn_app (goodIn_of _ (by decide +kernel)) ggX10_digest_X10_orderNow
set_option maxRecDepth 20000 in
theorem ggX10_digest_X10_mix : GoodIn wsX10_digest wsX10_mix := goodIn_r _ [27, 28, 2, 119, 120, 121, 122, 123, 124, 125, 126, 127, 128, 129, 130, 131, 132, 133, 134, 135, 136, 137, 138, 139, 140, 141, 142, 143] (by decide +kernel) (by decide +kernel)
set_option maxRecDepth 20000 in
theorem gX10_digest_X10_mix : GoodIn wsX10_digest (wsV RX10 214 RX10 yX10_mix wsX10_mix) := goodIn_app (goodIn_of _ (by decide +kernel)) ggX10_digest_X10_mix
set_option maxRecDepth 20000 in
theorem ggX10_digest_X10_songsNow : GoodIn wsX10_digest wsX10_songsNow := goodIn_r _ [83, 3, 38, 84, 85, 86, 87, 9, 88, 89, 90, 91, 92, 23, 33, 93, 94, 95, 96, 17, 66, 67, 68, 69, 70, 71, 15, 72, 73, 74, 75, 76, 77, 78, 79, 97, 98, 99, 100, 119, 120, 121, 122, 123, 124, 125, 126, 127, 128, 129, 130, 131, 132, 133, 134, 135, 136, 137, 138, 139, 140, 141, 142, 143] (by decide +kernel) (by decide +kernel)
set_option maxRecDepth 20000 in
theorem gX10_digest_X10_songsNow : GoodIn wsX10_digest (wsV RX10 160 RX10 yX10_songsNow wsX10_songsNow) := goodIn_app (goodIn_of _ (by decide +kernel)) ggX10_digest_X10_songsNow
set_option maxRecDepth 20000 in
theorem ggX10_digest_X10_sickNow : GoodIn wsX10_digest wsX10_sickNow := goodIn_r _ [104, 3, 38, 105, 106, 107, 9, 108, 23, 18, 58, 59, 60, 61, 33, 66, 67, 68, 69, 70, 71, 15, 72, 73, 74, 75, 76, 77, 78, 79, 119, 120, 121, 122, 123, 124, 125, 126, 127, 128, 129, 130, 131, 132, 133, 134, 135, 136, 137, 138, 139, 140, 141, 142, 143] (by decide +kernel) (by decide +kernel)
set_option maxRecDepth 20000 in
theorem gX10_digest_X10_sickNow : GoodIn wsX10_digest (wsV RX10 172 RX10 yX10_sickNow wsX10_sickNow) := goodIn_app (goodIn_of _ (by decide +kernel)) ggX10_digest_X10_sickNow
set_option maxRecDepth 20000 in
theorem ggX10_digest_X10_howMany : GoodIn wsX10_digest wsX10_howMany := goodIn_r _ [112, 76, 113, 84, 3, 4, 114, 93, 94, 95, 9, 96, 17, 39, 40, 41, 97, 98, 99, 100, 23, 115, 116, 117, 118, 33, 119, 120, 121, 122, 123, 124, 125, 126, 127, 128, 129, 130, 131, 132, 133, 134, 135, 136, 137, 138, 139, 140, 141, 142, 143] (by decide +kernel) (by decide +kernel)
set_option maxRecDepth 20000 in
theorem gX10_digest_X10_howMany : GoodIn wsX10_digest (wsV RX10 206 RX10 yX10_howMany wsX10_howMany) := goodIn_app (goodIn_of _ (by decide +kernel)) ggX10_digest_X10_howMany
theorem dX10_digest_0 : decode cX10_digest 0 = .ok (.aload_n 0, 1) := by decide +kernel
theorem dX10_digest_1 : decode cX10_digest 1 = .ok (.ldc2_w 218, 3) := by decide +kernel
theorem dX10_digest_4 : decode cX10_digest 4 = .ok (.putfield 211, 3) := by decide +kernel
theorem dX10_digest_7 : decode cX10_digest 7 = .ok (.iconst 0, 1) := by decide +kernel
theorem dX10_digest_8 : decode cX10_digest 8 = .ok (.istore_n 1, 1) := by decide +kernel
theorem dX10_digest_9 : decode cX10_digest 9 = .ok (.iload_n 1, 1) := by decide +kernel
theorem dX10_digest_10 : decode cX10_digest 10 = .ok (.aload_n 0, 1) := by decide +kernel
theorem dX10_digest_11 : decode cX10_digest 11 = .ok (.getfield 79, 3) := by decide +kernel
theorem dX10_digest_14 : decode cX10_digest 14 = .ok (.if_icmp .ge 14, 3) := by decide +kernel
theorem dX10_digest_17 : decode cX10_digest 17 = .ok (.aload_n 0, 1) := by decide +kernel
theorem dX10_digest_18 : decode cX10_digest 18 = .ok (.iload_n 1, 1) := by decide +kernel
theorem dX10_digest_19 : decode cX10_digest 19 = .ok (.invokevirtual 220, 3) := by decide +kernel
theorem dX10_digest_22 : decode cX10_digest 22 = .ok (.iinc 1 1, 3) := by decide +kernel
theorem dX10_digest_25 : decode cX10_digest 25 = .ok (.goto (-16), 3) := by decide +kernel
theorem dX10_digest_28 : decode cX10_digest 28 = .ok (.aload_n 0, 1) := by decide +kernel
theorem dX10_digest_29 : decode cX10_digest 29 = .ok (.getfield 79, 3) := by decide +kernel
theorem dX10_digest_32 : decode cX10_digest 32 = .ok (.ifCond .le 92, 3) := by decide +kernel
theorem dX10_digest_35 : decode cX10_digest 35 = .ok (.aload_n 0, 1) := by decide +kernel
theorem dX10_digest_36 : decode cX10_digest 36 = .ok (.aload_n 0, 1) := by decide +kernel
theorem dX10_digest_37 : decode cX10_digest 37 = .ok (.iconst 0, 1) := by decide +kernel
theorem dX10_digest_38 : decode cX10_digest 38 = .ok (.invokevirtual 148, 3) := by decide +kernel
theorem dX10_digest_41 : decode cX10_digest 41 = .ok (.i2l, 1) := by decide +kernel
theorem dX10_digest_42 : decode cX10_digest 42 = .ok (.invokevirtual 214, 3) := by decide +kernel
theorem dX10_digest_45 : decode cX10_digest 45 = .ok (.aload_n 0, 1) := by decide +kernel
theorem dX10_digest_46 : decode cX10_digest 46 = .ok (.aload_n 0, 1) := by decide +kernel
theorem dX10_digest_47 : decode cX10_digest 47 = .ok (.iconst 1, 1) := by decide +kernel
theorem dX10_digest_48 : decode cX10_digest 48 = .ok (.invokevirtual 148, 3) := by decide +kernel
theorem dX10_digest_51 : decode cX10_digest 51 = .ok (.i2l, 1) := by decide +kernel
theorem dX10_digest_52 : decode cX10_digest 52 = .ok (.invokevirtual 214, 3) := by decide +kernel
theorem dX10_digest_55 : decode cX10_digest 55 = .ok (.bipush 10, 2) := by decide +kernel
theorem dX10_digest_57 : decode cX10_digest 57 = .ok (.istore_n 1, 1) := by decide +kernel
theorem dX10_digest_58 : decode cX10_digest 58 = .ok (.iload_n 1, 1) := by decide +kernel
theorem dX10_digest_59 : decode cX10_digest 59 = .ok (.bipush 16, 2) := by decide +kernel
theorem dX10_digest_61 : decode cX10_digest 61 = .ok (.if_icmp .ge 19, 3) := by decide +kernel
theorem dX10_digest_64 : decode cX10_digest 64 = .ok (.aload_n 0, 1) := by decide +kernel
theorem dX10_digest_65 : decode cX10_digest 65 = .ok (.aload_n 0, 1) := by decide +kernel
theorem dX10_digest_66 : decode cX10_digest 66 = .ok (.iload_n 1, 1) := by decide +kernel
theorem dX10_digest_67 : decode cX10_digest 67 = .ok (.invokevirtual 148, 3) := by decide +kernel
theorem dX10_digest_70 : decode cX10_digest 70 = .ok (.i2l, 1) := by decide +kernel
theorem dX10_digest_71 : decode cX10_digest 71 = .ok (.invokevirtual 214, 3) := by decide +kernel
theorem dX10_digest_74 : decode cX10_digest 74 = .ok (.iinc 1 1, 3) := by decide +kernel
theorem dX10_digest_77 : decode cX10_digest 77 = .ok (.goto (-19), 3) := by decide +kernel
theorem dX10_digest_80 : decode cX10_digest 80 = .ok (.aload_n 0, 1) := by decide +kernel
theorem dX10_digest_81 : decode cX10_digest 81 = .ok (.aload_n 0, 1) := by decide +kernel
theorem dX10_digest_82 : decode cX10_digest 82 = .ok (.bipush 10, 2) := by decide +kernel
theorem dX10_digest_84 : decode cX10_digest 84 = .ok (.iconst 0, 1) := by decide +kernel
theorem dX10_digest_85 : decode cX10_digest 85 = .ok (.invokevirtual 160, 3) := by decide +kernel
theorem dX10_digest_88 : decode cX10_digest 88 = .ok (.i2l, 1) := by decide +kernel
theorem dX10_digest_89 : decode cX10_digest 89 = .ok (.invokevirtual 214, 3) := by decide +kernel
theorem dX10_digest_92 : decode cX10_digest 92 = .ok (.aload_n 0, 1) := by decide +kernel
theorem dX10_digest_93 : decode cX10_digest 93 = .ok (.aload_n 0, 1) := by decide +kernel
theorem dX10_digest_94 : decode cX10_digest 94 = .ok (.bipush 10, 2) := by decide +kernel
theorem dX10_digest_96 : decode cX10_digest 96 = .ok (.iconst 1, 1) := by decide +kernel
theorem dX10_digest_97 : decode cX10_digest 97 = .ok (.invokevirtual 160, 3) := by decide +kernel
theorem dX10_digest_100 : decode cX10_digest 100 = .ok (.i2l, 1) := by decide +kernel
theorem dX10_digest_101 : decode cX10_digest 101 = .ok (.invokevirtual 214, 3) := by decide +kernel
theorem dX10_digest_104 : decode cX10_digest 104 = .ok (.aload_n 0, 1) := by decide +kernel
theorem dX10_digest_105 : decode cX10_digest 105 = .ok (.aload_n 0, 1) := by decide +kernel
theorem dX10_digest_106 : decode cX10_digest 106 = .ok (.iconst 0, 1) := by decide +kernel
theorem dX10_digest_107 : decode cX10_digest 107 = .ok (.invokevirtual 172, 3) := by decide +kernel
theorem dX10_digest_110 : decode cX10_digest 110 = .ok (.i2l, 1) := by decide +kernel
theorem dX10_digest_111 : decode cX10_digest 111 = .ok (.invokevirtual 214, 3) := by decide +kernel
theorem dX10_digest_114 : decode cX10_digest 114 = .ok (.aload_n 0, 1) := by decide +kernel
theorem dX10_digest_115 : decode cX10_digest 115 = .ok (.aload_n 0, 1) := by decide +kernel
theorem dX10_digest_116 : decode cX10_digest 116 = .ok (.iconst 1, 1) := by decide +kernel
theorem dX10_digest_117 : decode cX10_digest 117 = .ok (.invokevirtual 172, 3) := by decide +kernel
theorem dX10_digest_120 : decode cX10_digest 120 = .ok (.i2l, 1) := by decide +kernel
theorem dX10_digest_121 : decode cX10_digest 121 = .ok (.invokevirtual 214, 3) := by decide +kernel
theorem dX10_digest_124 : decode cX10_digest 124 = .ok (.iconst 0, 1) := by decide +kernel
theorem dX10_digest_125 : decode cX10_digest 125 = .ok (.istore_n 1, 1) := by decide +kernel
theorem dX10_digest_126 : decode cX10_digest 126 = .ok (.iload_n 1, 1) := by decide +kernel
theorem dX10_digest_127 : decode cX10_digest 127 = .ok (.aload_n 0, 1) := by decide +kernel
theorem dX10_digest_128 : decode cX10_digest 128 = .ok (.getfield 57, 3) := by decide +kernel
theorem dX10_digest_131 : decode cX10_digest 131 = .ok (.if_icmp .ge 20, 3) := by decide +kernel
theorem dX10_digest_134 : decode cX10_digest 134 = .ok (.aload_n 0, 1) := by decide +kernel
theorem dX10_digest_135 : decode cX10_digest 135 = .ok (.aload_n 0, 1) := by decide +kernel
theorem dX10_digest_136 : decode cX10_digest 136 = .ok (.getfield 34, 3) := by decide +kernel
theorem dX10_digest_139 : decode cX10_digest 139 = .ok (.iload_n 1, 1) := by decide +kernel
theorem dX10_digest_140 : decode cX10_digest 140 = .ok (.baload, 1) := by decide +kernel
theorem dX10_digest_141 : decode cX10_digest 141 = .ok (.i2l, 1) := by decide +kernel
theorem dX10_digest_142 : decode cX10_digest 142 = .ok (.invokevirtual 214, 3) := by decide +kernel
theorem dX10_digest_145 : decode cX10_digest 145 = .ok (.iinc 1 1, 3) := by decide +kernel
theorem dX10_digest_148 : decode cX10_digest 148 = .ok (.goto (-22), 3) := by decide +kernel
theorem dX10_digest_151 : decode cX10_digest 151 = .ok (.iconst 0, 1) := by decide +kernel
theorem dX10_digest_152 : decode cX10_digest 152 = .ok (.istore_n 1, 1) := by decide +kernel
theorem dX10_digest_153 : decode cX10_digest 153 = .ok (.iload_n 1, 1) := by decide +kernel
theorem dX10_digest_154 : decode cX10_digest 154 = .ok (.bipush 12, 2) := by decide +kernel
theorem dX10_digest_156 : decode cX10_digest 156 = .ok (.if_icmp .ge 19, 3) := by decide +kernel
theorem dX10_digest_159 : decode cX10_digest 159 = .ok (.aload_n 0, 1) := by decide +kernel
theorem dX10_digest_160 : decode cX10_digest 160 = .ok (.aload_n 0, 1) := by decide +kernel
theorem dX10_digest_161 : decode cX10_digest 161 = .ok (.iload_n 1, 1) := by decide +kernel
theorem dX10_digest_162 : decode cX10_digest 162 = .ok (.invokevirtual 206, 3) := by decide +kernel
theorem dX10_digest_165 : decode cX10_digest 165 = .ok (.i2l, 1) := by decide +kernel
theorem dX10_digest_166 : decode cX10_digest 166 = .ok (.invokevirtual 214, 3) := by decide +kernel
theorem dX10_digest_169 : decode cX10_digest 169 = .ok (.iinc 1 1, 3) := by decide +kernel
theorem dX10_digest_172 : decode cX10_digest 172 = .ok (.goto (-19), 3) := by decide +kernel
theorem dX10_digest_175 : decode cX10_digest 175 = .ok (.aload_n 0, 1) := by decide +kernel
theorem dX10_digest_176 : decode cX10_digest 176 = .ok (.getfield 211, 3) := by decide +kernel
theorem dX10_digest_179 : decode cX10_digest 179 = .ok (.lreturn, 1) := by decide +kernel
theorem dJ6_bitCount_0f7a4_0 : decode cJ6_bitCount_0f7a4 0 = .ok (.iload_n 0, 1) := by decide +kernel
theorem dJ6_bitCount_0f7a4_1 : decode cJ6_bitCount_0f7a4 1 = .ok (.iload_n 0, 1) := by decide +kernel
theorem dJ6_bitCount_0f7a4_2 : decode cJ6_bitCount_0f7a4 2 = .ok (.iconst 1, 1) := by decide +kernel
theorem dJ6_bitCount_0f7a4_3 : decode cJ6_bitCount_0f7a4 3 = .ok (.iushr, 1) := by decide +kernel
theorem dJ6_bitCount_0f7a4_4 : decode cJ6_bitCount_0f7a4 4 = .ok (.ldc_w 265, 3) := by decide +kernel
theorem dJ6_bitCount_0f7a4_7 : decode cJ6_bitCount_0f7a4 7 = .ok (.iand, 1) := by decide +kernel
theorem dJ6_bitCount_0f7a4_8 : decode cJ6_bitCount_0f7a4 8 = .ok (.isub, 1) := by decide +kernel
theorem dJ6_bitCount_0f7a4_9 : decode cJ6_bitCount_0f7a4 9 = .ok (.istore_n 0, 1) := by decide +kernel
theorem dJ6_bitCount_0f7a4_10 : decode cJ6_bitCount_0f7a4 10 = .ok (.iload_n 0, 1) := by decide +kernel
theorem dJ6_bitCount_0f7a4_11 : decode cJ6_bitCount_0f7a4 11 = .ok (.ldc_w 266, 3) := by decide +kernel
theorem dJ6_bitCount_0f7a4_14 : decode cJ6_bitCount_0f7a4 14 = .ok (.iand, 1) := by decide +kernel
theorem dJ6_bitCount_0f7a4_15 : decode cJ6_bitCount_0f7a4 15 = .ok (.iload_n 0, 1) := by decide +kernel
theorem dJ6_bitCount_0f7a4_16 : decode cJ6_bitCount_0f7a4 16 = .ok (.iconst 2, 1) := by decide +kernel
theorem dJ6_bitCount_0f7a4_17 : decode cJ6_bitCount_0f7a4 17 = .ok (.iushr, 1) := by decide +kernel
theorem dJ6_bitCount_0f7a4_18 : decode cJ6_bitCount_0f7a4 18 = .ok (.ldc_w 266, 3) := by decide +kernel
theorem dJ6_bitCount_0f7a4_21 : decode cJ6_bitCount_0f7a4 21 = .ok (.iand, 1) := by decide +kernel
theorem dJ6_bitCount_0f7a4_22 : decode cJ6_bitCount_0f7a4 22 = .ok (.iadd, 1) := by decide +kernel
theorem dJ6_bitCount_0f7a4_23 : decode cJ6_bitCount_0f7a4 23 = .ok (.istore_n 0, 1) := by decide +kernel
theorem dJ6_bitCount_0f7a4_24 : decode cJ6_bitCount_0f7a4 24 = .ok (.iload_n 0, 1) := by decide +kernel
theorem dJ6_bitCount_0f7a4_25 : decode cJ6_bitCount_0f7a4 25 = .ok (.iload_n 0, 1) := by decide +kernel
theorem dJ6_bitCount_0f7a4_26 : decode cJ6_bitCount_0f7a4 26 = .ok (.iconst 4, 1) := by decide +kernel
theorem dJ6_bitCount_0f7a4_27 : decode cJ6_bitCount_0f7a4 27 = .ok (.iushr, 1) := by decide +kernel
theorem dJ6_bitCount_0f7a4_28 : decode cJ6_bitCount_0f7a4 28 = .ok (.iadd, 1) := by decide +kernel
theorem dJ6_bitCount_0f7a4_29 : decode cJ6_bitCount_0f7a4 29 = .ok (.ldc_w 267, 3) := by decide +kernel
theorem dJ6_bitCount_0f7a4_32 : decode cJ6_bitCount_0f7a4 32 = .ok (.iand, 1) := by decide +kernel
theorem dJ6_bitCount_0f7a4_33 : decode cJ6_bitCount_0f7a4 33 = .ok (.istore_n 0, 1) := by decide +kernel
theorem dJ6_bitCount_0f7a4_34 : decode cJ6_bitCount_0f7a4 34 = .ok (.iload_n 0, 1) := by decide +kernel
theorem dJ6_bitCount_0f7a4_35 : decode cJ6_bitCount_0f7a4 35 = .ok (.iload_n 0, 1) := by decide +kernel
theorem dJ6_bitCount_0f7a4_36 : decode cJ6_bitCount_0f7a4 36 = .ok (.bipush 8, 2) := by decide +kernel
theorem dJ6_bitCount_0f7a4_38 : decode cJ6_bitCount_0f7a4 38 = .ok (.iushr, 1) := by decide +kernel
theorem dJ6_bitCount_0f7a4_39 : decode cJ6_bitCount_0f7a4 39 = .ok (.iadd, 1) := by decide +kernel
theorem dJ6_bitCount_0f7a4_40 : decode cJ6_bitCount_0f7a4 40 = .ok (.istore_n 0, 1) := by decide +kernel
theorem dJ6_bitCount_0f7a4_41 : decode cJ6_bitCount_0f7a4 41 = .ok (.iload_n 0, 1) := by decide +kernel
theorem dJ6_bitCount_0f7a4_42 : decode cJ6_bitCount_0f7a4 42 = .ok (.iload_n 0, 1) := by decide +kernel
theorem dJ6_bitCount_0f7a4_43 : decode cJ6_bitCount_0f7a4 43 = .ok (.bipush 16, 2) := by decide +kernel
theorem dJ6_bitCount_0f7a4_45 : decode cJ6_bitCount_0f7a4 45 = .ok (.iushr, 1) := by decide +kernel
theorem dJ6_bitCount_0f7a4_46 : decode cJ6_bitCount_0f7a4 46 = .ok (.iadd, 1) := by decide +kernel
theorem dJ6_bitCount_0f7a4_47 : decode cJ6_bitCount_0f7a4 47 = .ok (.istore_n 0, 1) := by decide +kernel
theorem dJ6_bitCount_0f7a4_48 : decode cJ6_bitCount_0f7a4 48 = .ok (.iload_n 0, 1) := by decide +kernel
theorem dJ6_bitCount_0f7a4_49 : decode cJ6_bitCount_0f7a4 49 = .ok (.bipush 63, 2) := by decide +kernel
theorem dJ6_bitCount_0f7a4_51 : decode cJ6_bitCount_0f7a4 51 = .ok (.iand, 1) := by decide +kernel
theorem dJ6_bitCount_0f7a4_52 : decode cJ6_bitCount_0f7a4 52 = .ok (.ireturn, 1) := by decide +kernel
