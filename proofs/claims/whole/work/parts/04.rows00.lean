theorem dX0_init_0 : decode cX0_init 0 = .ok (.aload_n 0, 1) := by decide +kernel
theorem dX0_init_1 : decode cX0_init 1 = .ok (.invokespecial 3, 3) := by decide +kernel
theorem dX0_init_4 : decode cX0_init 4 = .ok (.aload_n 0, 1) := by decide +kernel
theorem dX0_init_5 : decode cX0_init 5 = .ok (.bipush 12, 2) := by decide +kernel
theorem dX0_init_7 : decode cX0_init 7 = .ok (.newarray .int, 2) := by decide +kernel
theorem dX0_init_9 : decode cX0_init 9 = .ok (.putfield 9, 3) := by decide +kernel
theorem dX0_init_12 : decode cX0_init 12 = .ok (.aload_n 0, 1) := by decide +kernel
theorem dX0_init_13 : decode cX0_init 13 = .ok (.bipush 12, 2) := by decide +kernel
theorem dX0_init_15 : decode cX0_init 15 = .ok (.newarray .int, 2) := by decide +kernel
theorem dX0_init_17 : decode cX0_init 17 = .ok (.putfield 15, 3) := by decide +kernel
theorem dX0_init_20 : decode cX0_init 20 = .ok (.aload_n 0, 1) := by decide +kernel
theorem dX0_init_21 : decode cX0_init 21 = .ok (.iconst 0, 1) := by decide +kernel
theorem dX0_init_22 : decode cX0_init 22 = .ok (.putfield 18, 3) := by decide +kernel
theorem dX0_init_25 : decode cX0_init 25 = .ok (.aload_n 0, 1) := by decide +kernel
theorem dX0_init_26 : decode cX0_init 26 = .ok (.iconst 0, 1) := by decide +kernel
theorem dX0_init_27 : decode cX0_init 27 = .ok (.putfield 22, 3) := by decide +kernel
theorem dX0_init_30 : decode cX0_init 30 = .ok (.aload_n 0, 1) := by decide +kernel
theorem dX0_init_31 : decode cX0_init 31 = .ok (.iconst 0, 1) := by decide +kernel
theorem dX0_init_32 : decode cX0_init 32 = .ok (.putfield 25, 3) := by decide +kernel
theorem dX0_init_35 : decode cX0_init 35 = .ok (.aload_n 0, 1) := by decide +kernel
theorem dX0_init_36 : decode cX0_init 36 = .ok (.iconst 0, 1) := by decide +kernel
theorem dX0_init_37 : decode cX0_init 37 = .ok (.putfield 28, 3) := by decide +kernel
theorem dX0_init_40 : decode cX0_init 40 = .ok (.aload_n 0, 1) := by decide +kernel
theorem dX0_init_41 : decode cX0_init 41 = .ok (.aload_n 1, 1) := by decide +kernel
theorem dX0_init_42 : decode cX0_init 42 = .ok (.putfield 31, 3) := by decide +kernel
theorem dX0_init_45 : decode cX0_init 45 = .ok (.aload_n 0, 1) := by decide +kernel
theorem dX0_init_46 : decode cX0_init 46 = .ok (.aload_n 1, 1) := by decide +kernel
theorem dX0_init_47 : decode cX0_init 47 = .ok (.getfield 35, 3) := by decide +kernel
theorem dX0_init_50 : decode cX0_init 50 = .ok (.putfield 41, 3) := by decide +kernel
theorem dX0_init_53 : decode cX0_init 53 = .ok (.return_, 1) := by decide +kernel
set_option maxRecDepth 20000 in
theorem ggX0_find_X0_findWaysTo : GoodIn wsX0_find wsX0_findWaysTo := goodIn_r _ [12, 7, 5, 6, 13, 14, 15, 16, 17, 18, 19, 20, 21, 22, 11, 23, 24, 25, 44, 45, 46, 47, 48, 49, 50, 51, 52, 53, 54, 55, 56, 57, 58, 59, 60, 61] (by decide +kernel) (by decide +kernel)
set_option maxRecDepth 20000 in
theorem gX0_find_X0_findWaysTo : GoodIn wsX0_find (wsV RX0 42 RX0 yX0_findWaysTo wsX0_findWaysTo) := goodIn_app (goodIn_of _ (by decide +kernel)) ggX0_find_X0_findWaysTo
set_option maxRecDepth 20000 in
theorem ggX0_find_X0_pass : GoodIn wsX0_find wsX0_pass := goodIn_r _ [29, 30, 1, 13, 24, 2, 31, 3, 4, 25, 32, 33, 34, 35, 36, 37, 38, 39, 40, 41, 42, 43, 44, 45, 46, 47, 48, 49, 50, 51, 56, 57, 58, 59, 60, 61] (by decide +kernel) (by decide +kernel)
set_option maxRecDepth 20000 in
theorem gX0_find_X0_pass : GoodIn wsX0_find (wsV RX0 49 RX0 yX0_pass wsX0_pass) := goodIn_app (goodIn_of _ (by decide +kernel)) ggX0_find_X0_pass
theorem dX0_find_0 : decode cX0_find 0 = .ok (.aload_n 0, 1) := by decide +kernel
theorem dX0_find_1 : decode cX0_find 1 = .ok (.iconst 0, 1) := by decide +kernel
theorem dX0_find_2 : decode cX0_find 2 = .ok (.putfield 18, 3) := by decide +kernel
theorem dX0_find_5 : decode cX0_find 5 = .ok (.aload_n 0, 1) := by decide +kernel
theorem dX0_find_6 : decode cX0_find 6 = .ok (.iconst 0, 1) := by decide +kernel
theorem dX0_find_7 : decode cX0_find 7 = .ok (.putfield 22, 3) := by decide +kernel
theorem dX0_find_10 : decode cX0_find 10 = .ok (.aload_n 0, 1) := by decide +kernel
theorem dX0_find_11 : decode cX0_find 11 = .ok (.iconst 0, 1) := by decide +kernel
theorem dX0_find_12 : decode cX0_find 12 = .ok (.putfield 25, 3) := by decide +kernel
theorem dX0_find_15 : decode cX0_find 15 = .ok (.aload_n 0, 1) := by decide +kernel
theorem dX0_find_16 : decode cX0_find 16 = .ok (.iconst 0, 1) := by decide +kernel
theorem dX0_find_17 : decode cX0_find 17 = .ok (.putfield 28, 3) := by decide +kernel
theorem dX0_find_20 : decode cX0_find 20 = .ok (.aload_n 0, 1) := by decide +kernel
theorem dX0_find_21 : decode cX0_find 21 = .ok (.iload_n 2, 1) := by decide +kernel
theorem dX0_find_22 : decode cX0_find 22 = .ok (.invokevirtual 42, 3) := by decide +kernel
theorem dX0_find_25 : decode cX0_find 25 = .ok (.iload_n 1, 1) := by decide +kernel
theorem dX0_find_26 : decode cX0_find 26 = .ok (.istore_n 3, 1) := by decide +kernel
theorem dX0_find_27 : decode cX0_find 27 = .ok (.iconst 0, 1) := by decide +kernel
theorem dX0_find_28 : decode cX0_find 28 = .ok (.istore 4, 2) := by decide +kernel
theorem dX0_find_30 : decode cX0_find 30 = .ok (.iload 4, 2) := by decide +kernel
theorem dX0_find_32 : decode cX0_find 32 = .ok (.aload_n 0, 1) := by decide +kernel
theorem dX0_find_33 : decode cX0_find 33 = .ok (.getfield 31, 3) := by decide +kernel
theorem dX0_find_36 : decode cX0_find 36 = .ok (.getfield 46, 3) := by decide +kernel
theorem dX0_find_39 : decode cX0_find 39 = .ok (.if_icmp .ge 36, 3) := by decide +kernel
theorem dX0_find_42 : decode cX0_find 42 = .ok (.iload_n 3, 1) := by decide +kernel
theorem dX0_find_43 : decode cX0_find 43 = .ok (.iload_n 2, 1) := by decide +kernel
theorem dX0_find_44 : decode cX0_find 44 = .ok (.if_icmp .eq 31, 3) := by decide +kernel
theorem dX0_find_47 : decode cX0_find 47 = .ok (.aload_n 0, 1) := by decide +kernel
theorem dX0_find_48 : decode cX0_find 48 = .ok (.getfield 9, 3) := by decide +kernel
theorem dX0_find_51 : decode cX0_find 51 = .ok (.iload_n 3, 1) := by decide +kernel
theorem dX0_find_52 : decode cX0_find 52 = .ok (.iaload, 1) := by decide +kernel
theorem dX0_find_53 : decode cX0_find 53 = .ok (.iconst (-1), 1) := by decide +kernel
theorem dX0_find_54 : decode cX0_find 54 = .ok (.if_icmp .eq 21, 3) := by decide +kernel
theorem dX0_find_57 : decode cX0_find 57 = .ok (.aload_n 0, 1) := by decide +kernel
theorem dX0_find_58 : decode cX0_find 58 = .ok (.aload_n 0, 1) := by decide +kernel
theorem dX0_find_59 : decode cX0_find 59 = .ok (.getfield 9, 3) := by decide +kernel
theorem dX0_find_62 : decode cX0_find 62 = .ok (.iload_n 3, 1) := by decide +kernel
theorem dX0_find_63 : decode cX0_find 63 = .ok (.iaload, 1) := by decide +kernel
theorem dX0_find_64 : decode cX0_find 64 = .ok (.iload_n 3, 1) := by decide +kernel
theorem dX0_find_65 : decode cX0_find 65 = .ok (.invokevirtual 49, 3) := by decide +kernel
theorem dX0_find_68 : decode cX0_find 68 = .ok (.istore_n 3, 1) := by decide +kernel
theorem dX0_find_69 : decode cX0_find 69 = .ok (.iinc 4 1, 3) := by decide +kernel
theorem dX0_find_72 : decode cX0_find 72 = .ok (.goto (-42), 3) := by decide +kernel
theorem dX0_find_75 : decode cX0_find 75 = .ok (.iload_n 3, 1) := by decide +kernel
theorem dX0_find_76 : decode cX0_find 76 = .ok (.iload_n 2, 1) := by decide +kernel
theorem dX0_find_77 : decode cX0_find 77 = .ok (.if_icmp .ne 7, 3) := by decide +kernel
theorem dX0_find_80 : decode cX0_find 80 = .ok (.iconst 1, 1) := by decide +kernel
theorem dX0_find_81 : decode cX0_find 81 = .ok (.goto 4, 3) := by decide +kernel
theorem dX0_find_84 : decode cX0_find 84 = .ok (.iconst 0, 1) := by decide +kernel
theorem dX0_find_85 : decode cX0_find 85 = .ok (.ireturn, 1) := by decide +kernel
set_option maxRecDepth 20000 in
theorem ggX0_findWaysTo_J7_fill_53178 : GoodIn wsX0_findWaysTo wsJ7_fill_53178 := goodIn_r _ [10] (by decide +kernel) (by decide +kernel)
set_option maxRecDepth 20000 in
theorem gX0_findWaysTo_J7_fill_53178 : GoodIn wsX0_findWaysTo (va_wsS RX0 53 yJ7_fill_53178 wsJ7_fill_53178) := goodIn_app (goodIn_of _ (by decide +kernel)) ggX0_findWaysTo_J7_fill_53178
set_option maxRecDepth 20000 in
theorem ggX0_findWaysTo_X0_extendWays : GoodIn wsX0_findWaysTo wsX0_extendWays := goodIn_r _ [15, 4, 16, 17, 1, 18, 19, 20, 21, 22, 23, 24, 25, 30, 31, 32, 33, 34, 35] (by decide +kernel) (by decide +kernel)
set_option maxRecDepth 20000 in
theorem gX0_findWaysTo_X0_extendWays : GoodIn wsX0_findWaysTo (wsV RX0 68 RX0 yX0_extendWays wsX0_extendWays) := goodIn_app (goodIn_of _ (by decide +kernel)) ggX0_findWaysTo_X0_extendWays
theorem dX0_findWaysTo_0 : decode cX0_findWaysTo 0 = .ok (.aload_n 0, 1) := by decide +kernel
theorem dX0_findWaysTo_1 : decode cX0_findWaysTo 1 = .ok (.getfield 9, 3) := by decide +kernel
theorem dX0_findWaysTo_4 : decode cX0_findWaysTo 4 = .ok (.iconst (-1), 1) := by decide +kernel
theorem dX0_findWaysTo_5 : decode cX0_findWaysTo 5 = .ok (.invokestatic 53, 3) := by decide +kernel
theorem dX0_findWaysTo_8 : decode cX0_findWaysTo 8 = .ok (.iconst 1, 1) := by decide +kernel
theorem dX0_findWaysTo_9 : decode cX0_findWaysTo 9 = .ok (.istore_n 2, 1) := by decide +kernel
theorem dX0_findWaysTo_10 : decode cX0_findWaysTo 10 = .ok (.iload_n 2, 1) := by decide +kernel
theorem dX0_findWaysTo_11 : decode cX0_findWaysTo 11 = .ok (.aload_n 0, 1) := by decide +kernel
theorem dX0_findWaysTo_12 : decode cX0_findWaysTo 12 = .ok (.getfield 31, 3) := by decide +kernel
theorem dX0_findWaysTo_15 : decode cX0_findWaysTo 15 = .ok (.getfield 46, 3) := by decide +kernel
theorem dX0_findWaysTo_18 : decode cX0_findWaysTo 18 = .ok (.if_icmp .ge 46, 3) := by decide +kernel
theorem dX0_findWaysTo_21 : decode cX0_findWaysTo 21 = .ok (.iconst 0, 1) := by decide +kernel
theorem dX0_findWaysTo_22 : decode cX0_findWaysTo 22 = .ok (.istore_n 3, 1) := by decide +kernel
theorem dX0_findWaysTo_23 : decode cX0_findWaysTo 23 = .ok (.iload_n 3, 1) := by decide +kernel
theorem dX0_findWaysTo_24 : decode cX0_findWaysTo 24 = .ok (.aload_n 0, 1) := by decide +kernel
theorem dX0_findWaysTo_25 : decode cX0_findWaysTo 25 = .ok (.getfield 41, 3) := by decide +kernel
theorem dX0_findWaysTo_28 : decode cX0_findWaysTo 28 = .ok (.getfield 59, 3) := by decide +kernel
theorem dX0_findWaysTo_31 : decode cX0_findWaysTo 31 = .ok (.if_icmp .ge 27, 3) := by decide +kernel
theorem dX0_findWaysTo_34 : decode cX0_findWaysTo 34 = .ok (.aload_n 0, 1) := by decide +kernel
theorem dX0_findWaysTo_35 : decode cX0_findWaysTo 35 = .ok (.getfield 31, 3) := by decide +kernel
theorem dX0_findWaysTo_38 : decode cX0_findWaysTo 38 = .ok (.getfield 64, 3) := by decide +kernel
theorem dX0_findWaysTo_41 : decode cX0_findWaysTo 41 = .ok (.iload_n 3, 1) := by decide +kernel
theorem dX0_findWaysTo_42 : decode cX0_findWaysTo 42 = .ok (.baload, 1) := by decide +kernel
theorem dX0_findWaysTo_43 : decode cX0_findWaysTo 43 = .ok (.ifCond .ne 9, 3) := by decide +kernel
theorem dX0_findWaysTo_46 : decode cX0_findWaysTo 46 = .ok (.aload_n 0, 1) := by decide +kernel
theorem dX0_findWaysTo_47 : decode cX0_findWaysTo 47 = .ok (.iload_n 3, 1) := by decide +kernel
theorem dX0_findWaysTo_48 : decode cX0_findWaysTo 48 = .ok (.iload_n 1, 1) := by decide +kernel
theorem dX0_findWaysTo_49 : decode cX0_findWaysTo 49 = .ok (.invokevirtual 68, 3) := by decide +kernel
theorem dX0_findWaysTo_52 : decode cX0_findWaysTo 52 = .ok (.iinc 3 1, 3) := by decide +kernel
theorem dX0_findWaysTo_55 : decode cX0_findWaysTo 55 = .ok (.goto (-32), 3) := by decide +kernel
theorem dX0_findWaysTo_58 : decode cX0_findWaysTo 58 = .ok (.iinc 2 1, 3) := by decide +kernel
theorem dX0_findWaysTo_61 : decode cX0_findWaysTo 61 = .ok (.goto (-51), 3) := by decide +kernel
theorem dX0_findWaysTo_64 : decode cX0_findWaysTo 64 = .ok (.return_, 1) := by decide +kernel
theorem dX0_extendWays_0 : decode cX0_extendWays 0 = .ok (.aload_n 0, 1) := by decide +kernel
theorem dX0_extendWays_1 : decode cX0_extendWays 1 = .ok (.getfield 41, 3) := by decide +kernel
theorem dX0_extendWays_4 : decode cX0_extendWays 4 = .ok (.getfield 72, 3) := by decide +kernel
theorem dX0_extendWays_7 : decode cX0_extendWays 7 = .ok (.iload_n 1, 1) := by decide +kernel
theorem dX0_extendWays_8 : decode cX0_extendWays 8 = .ok (.iaload, 1) := by decide +kernel
theorem dX0_extendWays_9 : decode cX0_extendWays 9 = .ok (.istore_n 3, 1) := by decide +kernel
theorem dX0_extendWays_10 : decode cX0_extendWays 10 = .ok (.aload_n 0, 1) := by decide +kernel
theorem dX0_extendWays_11 : decode cX0_extendWays 11 = .ok (.getfield 41, 3) := by decide +kernel
theorem dX0_extendWays_14 : decode cX0_extendWays 14 = .ok (.getfield 75, 3) := by decide +kernel
theorem dX0_extendWays_17 : decode cX0_extendWays 17 = .ok (.iload_n 1, 1) := by decide +kernel
theorem dX0_extendWays_18 : decode cX0_extendWays 18 = .ok (.iaload, 1) := by decide +kernel
theorem dX0_extendWays_19 : decode cX0_extendWays 19 = .ok (.istore 4, 2) := by decide +kernel
theorem dX0_extendWays_21 : decode cX0_extendWays 21 = .ok (.iload_n 3, 1) := by decide +kernel
theorem dX0_extendWays_22 : decode cX0_extendWays 22 = .ok (.iload_n 2, 1) := by decide +kernel
theorem dX0_extendWays_23 : decode cX0_extendWays 23 = .ok (.if_icmp .eq 13, 3) := by decide +kernel
theorem dX0_extendWays_26 : decode cX0_extendWays 26 = .ok (.aload_n 0, 1) := by decide +kernel
theorem dX0_extendWays_27 : decode cX0_extendWays 27 = .ok (.getfield 9, 3) := by decide +kernel
theorem dX0_extendWays_30 : decode cX0_extendWays 30 = .ok (.iload_n 3, 1) := by decide +kernel
theorem dX0_extendWays_31 : decode cX0_extendWays 31 = .ok (.iaload, 1) := by decide +kernel
theorem dX0_extendWays_32 : decode cX0_extendWays 32 = .ok (.iconst (-1), 1) := by decide +kernel
theorem dX0_extendWays_33 : decode cX0_extendWays 33 = .ok (.if_icmp .eq 7, 3) := by decide +kernel
theorem dX0_extendWays_36 : decode cX0_extendWays 36 = .ok (.iconst 1, 1) := by decide +kernel
theorem dX0_extendWays_37 : decode cX0_extendWays 37 = .ok (.goto 4, 3) := by decide +kernel
theorem dX0_extendWays_40 : decode cX0_extendWays 40 = .ok (.iconst 0, 1) := by decide +kernel
theorem dX0_extendWays_41 : decode cX0_extendWays 41 = .ok (.istore 5, 2) := by decide +kernel
theorem dX0_extendWays_43 : decode cX0_extendWays 43 = .ok (.iload 4, 2) := by decide +kernel
theorem dX0_extendWays_45 : decode cX0_extendWays 45 = .ok (.iload_n 2, 1) := by decide +kernel
theorem dX0_extendWays_46 : decode cX0_extendWays 46 = .ok (.if_icmp .eq 14, 3) := by decide +kernel
theorem dX0_extendWays_49 : decode cX0_extendWays 49 = .ok (.aload_n 0, 1) := by decide +kernel
theorem dX0_extendWays_50 : decode cX0_extendWays 50 = .ok (.getfield 9, 3) := by decide +kernel
theorem dX0_extendWays_53 : decode cX0_extendWays 53 = .ok (.iload 4, 2) := by decide +kernel
theorem dX0_extendWays_55 : decode cX0_extendWays 55 = .ok (.iaload, 1) := by decide +kernel
theorem dX0_extendWays_56 : decode cX0_extendWays 56 = .ok (.iconst (-1), 1) := by decide +kernel
theorem dX0_extendWays_57 : decode cX0_extendWays 57 = .ok (.if_icmp .eq 7, 3) := by decide +kernel
theorem dX0_extendWays_60 : decode cX0_extendWays 60 = .ok (.iconst 1, 1) := by decide +kernel
theorem dX0_extendWays_61 : decode cX0_extendWays 61 = .ok (.goto 4, 3) := by decide +kernel
theorem dX0_extendWays_64 : decode cX0_extendWays 64 = .ok (.iconst 0, 1) := by decide +kernel
theorem dX0_extendWays_65 : decode cX0_extendWays 65 = .ok (.istore 6, 2) := by decide +kernel
theorem dX0_extendWays_67 : decode cX0_extendWays 67 = .ok (.iload 5, 2) := by decide +kernel
theorem dX0_extendWays_69 : decode cX0_extendWays 69 = .ok (.ifCond .eq 19, 3) := by decide +kernel
theorem dX0_extendWays_72 : decode cX0_extendWays 72 = .ok (.iload 6, 2) := by decide +kernel
theorem dX0_extendWays_74 : decode cX0_extendWays 74 = .ok (.ifCond .ne 14, 3) := by decide +kernel
theorem dX0_extendWays_77 : decode cX0_extendWays 77 = .ok (.aload_n 0, 1) := by decide +kernel
theorem dX0_extendWays_78 : decode cX0_extendWays 78 = .ok (.getfield 9, 3) := by decide +kernel
theorem dX0_extendWays_81 : decode cX0_extendWays 81 = .ok (.iload 4, 2) := by decide +kernel
theorem dX0_extendWays_83 : decode cX0_extendWays 83 = .ok (.iload_n 1, 1) := by decide +kernel
theorem dX0_extendWays_84 : decode cX0_extendWays 84 = .ok (.iastore, 1) := by decide +kernel
theorem dX0_extendWays_85 : decode cX0_extendWays 85 = .ok (.goto 20, 3) := by decide +kernel
theorem dX0_extendWays_88 : decode cX0_extendWays 88 = .ok (.iload 6, 2) := by decide +kernel
theorem dX0_extendWays_90 : decode cX0_extendWays 90 = .ok (.ifCond .eq 15, 3) := by decide +kernel
theorem dX0_extendWays_93 : decode cX0_extendWays 93 = .ok (.iload 5, 2) := by decide +kernel
theorem dX0_extendWays_95 : decode cX0_extendWays 95 = .ok (.ifCond .ne 10, 3) := by decide +kernel
theorem dX0_extendWays_98 : decode cX0_extendWays 98 = .ok (.aload_n 0, 1) := by decide +kernel
theorem dX0_extendWays_99 : decode cX0_extendWays 99 = .ok (.getfield 9, 3) := by decide +kernel
theorem dX0_extendWays_102 : decode cX0_extendWays 102 = .ok (.iload_n 3, 1) := by decide +kernel
theorem dX0_extendWays_103 : decode cX0_extendWays 103 = .ok (.iload_n 1, 1) := by decide +kernel
theorem dX0_extendWays_104 : decode cX0_extendWays 104 = .ok (.iastore, 1) := by decide +kernel
theorem dX0_extendWays_105 : decode cX0_extendWays 105 = .ok (.return_, 1) := by decide +kernel
set_option maxRecDepth 20000 in
theorem ggX0_pass_X1_leastLimit : GoodIn wsX0_pass wsX1_leastLimit := goodIn_r _ [14, 15, 16, 30, 31, 32, 33, 34, 35] (by decide +kernel) (by decide +kernel)
set_option maxRecDepth 20000 in
theorem gX0_pass_X1_leastLimit : GoodIn wsX0_pass (wsV RX0 80 RX1 yX1_leastLimit wsX1_leastLimit) := goodIn_app (goodIn_of _ (by decide +kernel)) ggX0_pass_X1_leastLimit
set_option maxRecDepth 20000 in
theorem ggX0_pass_X1_greatestLimit : GoodIn wsX0_pass wsX1_greatestLimit := goodIn_r _ [20, 15, 21, 30, 31, 32, 33, 34, 35] (by decide +kernel) (by decide +kernel)
set_option maxRecDepth 20000 in
theorem gX0_pass_X1_greatestLimit : GoodIn wsX0_pass (wsV RX0 84 RX1 yX1_greatestLimit wsX1_greatestLimit) := goodIn_app (goodIn_of _ (by decide +kernel)) ggX0_pass_X1_greatestLimit
theorem dX0_pass_0 : decode cX0_pass 0 = .ok (.aload_n 0, 1) := by decide +kernel
theorem dX0_pass_1 : decode cX0_pass 1 = .ok (.getfield 15, 3) := by decide +kernel
theorem dX0_pass_4 : decode cX0_pass 4 = .ok (.aload_n 0, 1) := by decide +kernel
theorem dX0_pass_5 : decode cX0_pass 5 = .ok (.getfield 18, 3) := by decide +kernel
theorem dX0_pass_8 : decode cX0_pass 8 = .ok (.iload_n 1, 1) := by decide +kernel
theorem dX0_pass_9 : decode cX0_pass 9 = .ok (.iastore, 1) := by decide +kernel
theorem dX0_pass_10 : decode cX0_pass 10 = .ok (.aload_n 0, 1) := by decide +kernel
theorem dX0_pass_11 : decode cX0_pass 11 = .ok (.dup, 1) := by decide +kernel
theorem dX0_pass_12 : decode cX0_pass 12 = .ok (.getfield 18, 3) := by decide +kernel
theorem dX0_pass_15 : decode cX0_pass 15 = .ok (.iconst 1, 1) := by decide +kernel
theorem dX0_pass_16 : decode cX0_pass 16 = .ok (.iadd, 1) := by decide +kernel
theorem dX0_pass_17 : decode cX0_pass 17 = .ok (.putfield 18, 3) := by decide +kernel
theorem dX0_pass_20 : decode cX0_pass 20 = .ok (.aload_n 0, 1) := by decide +kernel
theorem dX0_pass_21 : decode cX0_pass 21 = .ok (.getfield 41, 3) := by decide +kernel
theorem dX0_pass_24 : decode cX0_pass 24 = .ok (.getfield 72, 3) := by decide +kernel
theorem dX0_pass_27 : decode cX0_pass 27 = .ok (.iload_n 1, 1) := by decide +kernel
theorem dX0_pass_28 : decode cX0_pass 28 = .ok (.iaload, 1) := by decide +kernel
theorem dX0_pass_29 : decode cX0_pass 29 = .ok (.iload_n 2, 1) := by decide +kernel
theorem dX0_pass_30 : decode cX0_pass 30 = .ok (.if_icmp .ne 65, 3) := by decide +kernel
theorem dX0_pass_33 : decode cX0_pass 33 = .ok (.aload_n 0, 1) := by decide +kernel
theorem dX0_pass_34 : decode cX0_pass 34 = .ok (.dup, 1) := by decide +kernel
theorem dX0_pass_35 : decode cX0_pass 35 = .ok (.getfield 22, 3) := by decide +kernel
theorem dX0_pass_38 : decode cX0_pass 38 = .ok (.aload_n 0, 1) := by decide +kernel
theorem dX0_pass_39 : decode cX0_pass 39 = .ok (.getfield 41, 3) := by decide +kernel
theorem dX0_pass_42 : decode cX0_pass 42 = .ok (.getfield 78, 3) := by decide +kernel
theorem dX0_pass_45 : decode cX0_pass 45 = .ok (.iload_n 1, 1) := by decide +kernel
theorem dX0_pass_46 : decode cX0_pass 46 = .ok (.iaload, 1) := by decide +kernel
theorem dX0_pass_47 : decode cX0_pass 47 = .ok (.iadd, 1) := by decide +kernel
theorem dX0_pass_48 : decode cX0_pass 48 = .ok (.putfield 22, 3) := by decide +kernel
theorem dX0_pass_51 : decode cX0_pass 51 = .ok (.aload_n 0, 1) := by decide +kernel
theorem dX0_pass_52 : decode cX0_pass 52 = .ok (.dup, 1) := by decide +kernel
theorem dX0_pass_53 : decode cX0_pass 53 = .ok (.getfield 25, 3) := by decide +kernel
theorem dX0_pass_56 : decode cX0_pass 56 = .ok (.aload_n 0, 1) := by decide +kernel
theorem dX0_pass_57 : decode cX0_pass 57 = .ok (.getfield 41, 3) := by decide +kernel
theorem dX0_pass_60 : decode cX0_pass 60 = .ok (.iload_n 1, 1) := by decide +kernel
theorem dX0_pass_61 : decode cX0_pass 61 = .ok (.invokevirtual 80, 3) := by decide +kernel
theorem dX0_pass_64 : decode cX0_pass 64 = .ok (.iadd, 1) := by decide +kernel
theorem dX0_pass_65 : decode cX0_pass 65 = .ok (.putfield 25, 3) := by decide +kernel
theorem dX0_pass_68 : decode cX0_pass 68 = .ok (.aload_n 0, 1) := by decide +kernel
theorem dX0_pass_69 : decode cX0_pass 69 = .ok (.dup, 1) := by decide +kernel
theorem dX0_pass_70 : decode cX0_pass 70 = .ok (.getfield 28, 3) := by decide +kernel
theorem dX0_pass_73 : decode cX0_pass 73 = .ok (.aload_n 0, 1) := by decide +kernel
theorem dX0_pass_74 : decode cX0_pass 74 = .ok (.getfield 41, 3) := by decide +kernel
theorem dX0_pass_77 : decode cX0_pass 77 = .ok (.iload_n 1, 1) := by decide +kernel
theorem dX0_pass_78 : decode cX0_pass 78 = .ok (.invokevirtual 84, 3) := by decide +kernel
theorem dX0_pass_81 : decode cX0_pass 81 = .ok (.iadd, 1) := by decide +kernel
theorem dX0_pass_82 : decode cX0_pass 82 = .ok (.putfield 28, 3) := by decide +kernel
theorem dX0_pass_85 : decode cX0_pass 85 = .ok (.aload_n 0, 1) := by decide +kernel
theorem dX0_pass_86 : decode cX0_pass 86 = .ok (.getfield 41, 3) := by decide +kernel
theorem dX0_pass_89 : decode cX0_pass 89 = .ok (.getfield 75, 3) := by decide +kernel
theorem dX0_pass_92 : decode cX0_pass 92 = .ok (.iload_n 1, 1) := by decide +kernel
theorem dX0_pass_93 : decode cX0_pass 93 = .ok (.iaload, 1) := by decide +kernel
theorem dX0_pass_94 : decode cX0_pass 94 = .ok (.ireturn, 1) := by decide +kernel
theorem dX0_pass_95 : decode cX0_pass 95 = .ok (.aload_n 0, 1) := by decide +kernel
theorem dX0_pass_96 : decode cX0_pass 96 = .ok (.dup, 1) := by decide +kernel
theorem dX0_pass_97 : decode cX0_pass 97 = .ok (.getfield 22, 3) := by decide +kernel
theorem dX0_pass_100 : decode cX0_pass 100 = .ok (.aload_n 0, 1) := by decide +kernel
theorem dX0_pass_101 : decode cX0_pass 101 = .ok (.getfield 41, 3) := by decide +kernel
theorem dX0_pass_104 : decode cX0_pass 104 = .ok (.getfield 78, 3) := by decide +kernel
theorem dX0_pass_107 : decode cX0_pass 107 = .ok (.iload_n 1, 1) := by decide +kernel
theorem dX0_pass_108 : decode cX0_pass 108 = .ok (.iaload, 1) := by decide +kernel
theorem dX0_pass_109 : decode cX0_pass 109 = .ok (.isub, 1) := by decide +kernel
theorem dX0_pass_110 : decode cX0_pass 110 = .ok (.putfield 22, 3) := by decide +kernel
theorem dX0_pass_113 : decode cX0_pass 113 = .ok (.aload_n 0, 1) := by decide +kernel
theorem dX0_pass_114 : decode cX0_pass 114 = .ok (.dup, 1) := by decide +kernel
theorem dX0_pass_115 : decode cX0_pass 115 = .ok (.getfield 25, 3) := by decide +kernel
theorem dX0_pass_118 : decode cX0_pass 118 = .ok (.aload_n 0, 1) := by decide +kernel
theorem dX0_pass_119 : decode cX0_pass 119 = .ok (.getfield 41, 3) := by decide +kernel
theorem dX0_pass_122 : decode cX0_pass 122 = .ok (.iload_n 1, 1) := by decide +kernel
theorem dX0_pass_123 : decode cX0_pass 123 = .ok (.invokevirtual 84, 3) := by decide +kernel
theorem dX0_pass_126 : decode cX0_pass 126 = .ok (.isub, 1) := by decide +kernel
theorem dX0_pass_127 : decode cX0_pass 127 = .ok (.putfield 25, 3) := by decide +kernel
theorem dX0_pass_130 : decode cX0_pass 130 = .ok (.aload_n 0, 1) := by decide +kernel
theorem dX0_pass_131 : decode cX0_pass 131 = .ok (.dup, 1) := by decide +kernel
theorem dX0_pass_132 : decode cX0_pass 132 = .ok (.getfield 28, 3) := by decide +kernel
theorem dX0_pass_135 : decode cX0_pass 135 = .ok (.aload_n 0, 1) := by decide +kernel
theorem dX0_pass_136 : decode cX0_pass 136 = .ok (.getfield 41, 3) := by decide +kernel
theorem dX0_pass_139 : decode cX0_pass 139 = .ok (.iload_n 1, 1) := by decide +kernel
theorem dX0_pass_140 : decode cX0_pass 140 = .ok (.invokevirtual 80, 3) := by decide +kernel
theorem dX0_pass_143 : decode cX0_pass 143 = .ok (.isub, 1) := by decide +kernel
theorem dX0_pass_144 : decode cX0_pass 144 = .ok (.putfield 28, 3) := by decide +kernel
theorem dX0_pass_147 : decode cX0_pass 147 = .ok (.aload_n 0, 1) := by decide +kernel
theorem dX0_pass_148 : decode cX0_pass 148 = .ok (.getfield 41, 3) := by decide +kernel
theorem dX0_pass_151 : decode cX0_pass 151 = .ok (.getfield 72, 3) := by decide +kernel
theorem dX0_pass_154 : decode cX0_pass 154 = .ok (.iload_n 1, 1) := by decide +kernel
theorem dX0_pass_155 : decode cX0_pass 155 = .ok (.iaload, 1) := by decide +kernel
theorem dX0_pass_156 : decode cX0_pass 156 = .ok (.ireturn, 1) := by decide +kernel
theorem dX0_holds_0 : decode cX0_holds 0 = .ok (.iconst 0, 1) := by decide +kernel
theorem dX0_holds_1 : decode cX0_holds 1 = .ok (.istore_n 2, 1) := by decide +kernel
theorem dX0_holds_2 : decode cX0_holds 2 = .ok (.iload_n 2, 1) := by decide +kernel
theorem dX0_holds_3 : decode cX0_holds 3 = .ok (.aload_n 0, 1) := by decide +kernel
theorem dX0_holds_4 : decode cX0_holds 4 = .ok (.getfield 18, 3) := by decide +kernel
theorem dX0_holds_7 : decode cX0_holds 7 = .ok (.if_icmp .ge 21, 3) := by decide +kernel
theorem dX0_holds_10 : decode cX0_holds 10 = .ok (.aload_n 0, 1) := by decide +kernel
theorem dX0_holds_11 : decode cX0_holds 11 = .ok (.getfield 15, 3) := by decide +kernel
theorem dX0_holds_14 : decode cX0_holds 14 = .ok (.iload_n 2, 1) := by decide +kernel
theorem dX0_holds_15 : decode cX0_holds 15 = .ok (.iaload, 1) := by decide +kernel
theorem dX0_holds_16 : decode cX0_holds 16 = .ok (.iload_n 1, 1) := by decide +kernel
theorem dX0_holds_17 : decode cX0_holds 17 = .ok (.if_icmp .ne 5, 3) := by decide +kernel
theorem dX0_holds_20 : decode cX0_holds 20 = .ok (.iconst 1, 1) := by decide +kernel
theorem dX0_holds_21 : decode cX0_holds 21 = .ok (.ireturn, 1) := by decide +kernel
theorem dX0_holds_22 : decode cX0_holds 22 = .ok (.iinc 2 1, 3) := by decide +kernel
theorem dX0_holds_25 : decode cX0_holds 25 = .ok (.goto (-23), 3) := by decide +kernel
theorem dX0_holds_28 : decode cX0_holds 28 = .ok (.iconst 0, 1) := by decide +kernel
theorem dX0_holds_29 : decode cX0_holds 29 = .ok (.ireturn, 1) := by decide +kernel
set_option maxRecDepth 20000 in
theorem ggX0_widthSum_X1_width : GoodIn wsX0_widthSum wsX1_width := goodIn_r _ [8, 9, 10, 19, 20, 21, 22, 23, 24] (by decide +kernel) (by decide +kernel)
set_option maxRecDepth 20000 in
theorem gX0_widthSum_X1_width : GoodIn wsX0_widthSum (wsV RX0 87 RX1 yX1_width wsX1_width) := goodIn_app (goodIn_of _ (by decide +kernel)) ggX0_widthSum_X1_width
theorem dX0_widthSum_0 : decode cX0_widthSum 0 = .ok (.iconst 0, 1) := by decide +kernel
theorem dX0_widthSum_1 : decode cX0_widthSum 1 = .ok (.istore_n 1, 1) := by decide +kernel
theorem dX0_widthSum_2 : decode cX0_widthSum 2 = .ok (.iconst 0, 1) := by decide +kernel
theorem dX0_widthSum_3 : decode cX0_widthSum 3 = .ok (.istore_n 2, 1) := by decide +kernel
theorem dX0_widthSum_4 : decode cX0_widthSum 4 = .ok (.iload_n 2, 1) := by decide +kernel
theorem dX0_widthSum_5 : decode cX0_widthSum 5 = .ok (.aload_n 0, 1) := by decide +kernel
theorem dX0_widthSum_6 : decode cX0_widthSum 6 = .ok (.getfield 18, 3) := by decide +kernel
theorem dX0_widthSum_9 : decode cX0_widthSum 9 = .ok (.if_icmp .ge 25, 3) := by decide +kernel
theorem dX0_widthSum_12 : decode cX0_widthSum 12 = .ok (.iload_n 1, 1) := by decide +kernel
theorem dX0_widthSum_13 : decode cX0_widthSum 13 = .ok (.aload_n 0, 1) := by decide +kernel
theorem dX0_widthSum_14 : decode cX0_widthSum 14 = .ok (.getfield 41, 3) := by decide +kernel
theorem dX0_widthSum_17 : decode cX0_widthSum 17 = .ok (.aload_n 0, 1) := by decide +kernel
theorem dX0_widthSum_18 : decode cX0_widthSum 18 = .ok (.getfield 15, 3) := by decide +kernel
theorem dX0_widthSum_21 : decode cX0_widthSum 21 = .ok (.iload_n 2, 1) := by decide +kernel
theorem dX0_widthSum_22 : decode cX0_widthSum 22 = .ok (.iaload, 1) := by decide +kernel
theorem dX0_widthSum_23 : decode cX0_widthSum 23 = .ok (.invokevirtual 87, 3) := by decide +kernel
theorem dX0_widthSum_26 : decode cX0_widthSum 26 = .ok (.iadd, 1) := by decide +kernel
theorem dX0_widthSum_27 : decode cX0_widthSum 27 = .ok (.istore_n 1, 1) := by decide +kernel
theorem dX0_widthSum_28 : decode cX0_widthSum 28 = .ok (.iinc 2 1, 3) := by decide +kernel
theorem dX0_widthSum_31 : decode cX0_widthSum 31 = .ok (.goto (-27), 3) := by decide +kernel
theorem dX0_widthSum_34 : decode cX0_widthSum 34 = .ok (.iload_n 1, 1) := by decide +kernel
theorem dX0_widthSum_35 : decode cX0_widthSum 35 = .ok (.ireturn, 1) := by decide +kernel
set_option maxRecDepth 20000 in
theorem ggX0_rootOfSquares_X1_width : GoodIn wsX0_rootOfSquares wsX1_width := goodIn_r _ [8, 9, 10, 19, 20, 21, 22, 23, 24] (by decide +kernel) (by decide +kernel)
set_option maxRecDepth 20000 in
theorem gX0_rootOfSquares_X1_width : GoodIn wsX0_rootOfSquares (wsV RX0 87 RX1 yX1_width wsX1_width) := goodIn_app (goodIn_of _ (by decide +kernel)) ggX0_rootOfSquares_X1_width
theorem dX0_rootOfSquares_0 : decode cX0_rootOfSquares 0 = .ok (.iconst 0, 1) := by decide +kernel
theorem dX0_rootOfSquares_1 : decode cX0_rootOfSquares 1 = .ok (.istore_n 1, 1) := by decide +kernel
theorem dX0_rootOfSquares_2 : decode cX0_rootOfSquares 2 = .ok (.iconst 0, 1) := by decide +kernel
theorem dX0_rootOfSquares_3 : decode cX0_rootOfSquares 3 = .ok (.istore_n 2, 1) := by decide +kernel
theorem dX0_rootOfSquares_4 : decode cX0_rootOfSquares 4 = .ok (.iload_n 2, 1) := by decide +kernel
theorem dX0_rootOfSquares_5 : decode cX0_rootOfSquares 5 = .ok (.aload_n 0, 1) := by decide +kernel
theorem dX0_rootOfSquares_6 : decode cX0_rootOfSquares 6 = .ok (.getfield 18, 3) := by decide +kernel
theorem dX0_rootOfSquares_9 : decode cX0_rootOfSquares 9 = .ok (.if_icmp .ge 29, 3) := by decide +kernel
theorem dX0_rootOfSquares_12 : decode cX0_rootOfSquares 12 = .ok (.aload_n 0, 1) := by decide +kernel
theorem dX0_rootOfSquares_13 : decode cX0_rootOfSquares 13 = .ok (.getfield 41, 3) := by decide +kernel
theorem dX0_rootOfSquares_16 : decode cX0_rootOfSquares 16 = .ok (.aload_n 0, 1) := by decide +kernel
theorem dX0_rootOfSquares_17 : decode cX0_rootOfSquares 17 = .ok (.getfield 15, 3) := by decide +kernel
theorem dX0_rootOfSquares_20 : decode cX0_rootOfSquares 20 = .ok (.iload_n 2, 1) := by decide +kernel
theorem dX0_rootOfSquares_21 : decode cX0_rootOfSquares 21 = .ok (.iaload, 1) := by decide +kernel
theorem dX0_rootOfSquares_22 : decode cX0_rootOfSquares 22 = .ok (.invokevirtual 87, 3) := by decide +kernel
theorem dX0_rootOfSquares_25 : decode cX0_rootOfSquares 25 = .ok (.istore_n 3, 1) := by decide +kernel
theorem dX0_rootOfSquares_26 : decode cX0_rootOfSquares 26 = .ok (.iload_n 1, 1) := by decide +kernel
theorem dX0_rootOfSquares_27 : decode cX0_rootOfSquares 27 = .ok (.iload_n 3, 1) := by decide +kernel
theorem dX0_rootOfSquares_28 : decode cX0_rootOfSquares 28 = .ok (.iload_n 3, 1) := by decide +kernel
theorem dX0_rootOfSquares_29 : decode cX0_rootOfSquares 29 = .ok (.imul, 1) := by decide +kernel
theorem dX0_rootOfSquares_30 : decode cX0_rootOfSquares 30 = .ok (.iadd, 1) := by decide +kernel
theorem dX0_rootOfSquares_31 : decode cX0_rootOfSquares 31 = .ok (.istore_n 1, 1) := by decide +kernel
theorem dX0_rootOfSquares_32 : decode cX0_rootOfSquares 32 = .ok (.iinc 2 1, 3) := by decide +kernel
theorem dX0_rootOfSquares_35 : decode cX0_rootOfSquares 35 = .ok (.goto (-31), 3) := by decide +kernel
theorem dX0_rootOfSquares_38 : decode cX0_rootOfSquares 38 = .ok (.iconst 0, 1) := by decide +kernel
theorem dX0_rootOfSquares_39 : decode cX0_rootOfSquares 39 = .ok (.istore_n 2, 1) := by decide +kernel
theorem dX0_rootOfSquares_40 : decode cX0_rootOfSquares 40 = .ok (.sipush 4096, 3) := by decide +kernel
theorem dX0_rootOfSquares_43 : decode cX0_rootOfSquares 43 = .ok (.istore_n 3, 1) := by decide +kernel
theorem dX0_rootOfSquares_44 : decode cX0_rootOfSquares 44 = .ok (.iload_n 3, 1) := by decide +kernel
theorem dX0_rootOfSquares_45 : decode cX0_rootOfSquares 45 = .ok (.ifCond .le 27, 3) := by decide +kernel
theorem dX0_rootOfSquares_48 : decode cX0_rootOfSquares 48 = .ok (.iload_n 2, 1) := by decide +kernel
theorem dX0_rootOfSquares_49 : decode cX0_rootOfSquares 49 = .ok (.iload_n 3, 1) := by decide +kernel
theorem dX0_rootOfSquares_50 : decode cX0_rootOfSquares 50 = .ok (.iadd, 1) := by decide +kernel
theorem dX0_rootOfSquares_51 : decode cX0_rootOfSquares 51 = .ok (.istore 4, 2) := by decide +kernel
theorem dX0_rootOfSquares_53 : decode cX0_rootOfSquares 53 = .ok (.iload 4, 2) := by decide +kernel
theorem dX0_rootOfSquares_55 : decode cX0_rootOfSquares 55 = .ok (.iload 4, 2) := by decide +kernel
theorem dX0_rootOfSquares_57 : decode cX0_rootOfSquares 57 = .ok (.imul, 1) := by decide +kernel
theorem dX0_rootOfSquares_58 : decode cX0_rootOfSquares 58 = .ok (.iload_n 1, 1) := by decide +kernel
theorem dX0_rootOfSquares_59 : decode cX0_rootOfSquares 59 = .ok (.if_icmp .gt 6, 3) := by decide +kernel
theorem dX0_rootOfSquares_62 : decode cX0_rootOfSquares 62 = .ok (.iload 4, 2) := by decide +kernel
theorem dX0_rootOfSquares_64 : decode cX0_rootOfSquares 64 = .ok (.istore_n 2, 1) := by decide +kernel
theorem dX0_rootOfSquares_65 : decode cX0_rootOfSquares 65 = .ok (.iload_n 3, 1) := by decide +kernel
theorem dX0_rootOfSquares_66 : decode cX0_rootOfSquares 66 = .ok (.iconst 1, 1) := by decide +kernel
theorem dX0_rootOfSquares_67 : decode cX0_rootOfSquares 67 = .ok (.ishr, 1) := by decide +kernel
theorem dX0_rootOfSquares_68 : decode cX0_rootOfSquares 68 = .ok (.istore_n 3, 1) := by decide +kernel
theorem dX0_rootOfSquares_69 : decode cX0_rootOfSquares 69 = .ok (.goto (-25), 3) := by decide +kernel
theorem dX0_rootOfSquares_72 : decode cX0_rootOfSquares 72 = .ok (.iload_n 2, 1) := by decide +kernel
theorem dX0_rootOfSquares_73 : decode cX0_rootOfSquares 73 = .ok (.ireturn, 1) := by decide +kernel
set_option maxRecDepth 20000 in
theorem ggX0_widest_X0_isWider : GoodIn wsX0_widest wsX0_isWider := goodIn_r _ [7, 8, 9, 10, 11, 12, 13, 14, 15, 16, 17, 18, 19, 20, 21, 22, 23, 24, 25, 26, 27, 28, 29] (by decide +kernel) (by decide +kernel)
set_option maxRecDepth 20000 in
theorem gX0_widest_X0_isWider : GoodIn wsX0_widest (wsV RX0 90 RX0 yX0_isWider wsX0_isWider) := goodIn_app (goodIn_of _ (by decide +kernel)) ggX0_widest_X0_isWider
theorem dX0_widest_0 : decode cX0_widest 0 = .ok (.iconst (-1), 1) := by decide +kernel
theorem dX0_widest_1 : decode cX0_widest 1 = .ok (.istore_n 1, 1) := by decide +kernel
theorem dX0_widest_2 : decode cX0_widest 2 = .ok (.iconst 0, 1) := by decide +kernel
theorem dX0_widest_3 : decode cX0_widest 3 = .ok (.istore_n 2, 1) := by decide +kernel
theorem dX0_widest_4 : decode cX0_widest 4 = .ok (.iload_n 2, 1) := by decide +kernel
theorem dX0_widest_5 : decode cX0_widest 5 = .ok (.aload_n 0, 1) := by decide +kernel
theorem dX0_widest_6 : decode cX0_widest 6 = .ok (.getfield 18, 3) := by decide +kernel
theorem dX0_widest_9 : decode cX0_widest 9 = .ok (.if_icmp .ge 35, 3) := by decide +kernel
theorem dX0_widest_12 : decode cX0_widest 12 = .ok (.iload_n 1, 1) := by decide +kernel
theorem dX0_widest_13 : decode cX0_widest 13 = .ok (.iconst (-1), 1) := by decide +kernel
theorem dX0_widest_14 : decode cX0_widest 14 = .ok (.if_icmp .eq 17, 3) := by decide +kernel
theorem dX0_widest_17 : decode cX0_widest 17 = .ok (.aload_n 0, 1) := by decide +kernel
theorem dX0_widest_18 : decode cX0_widest 18 = .ok (.aload_n 0, 1) := by decide +kernel
theorem dX0_widest_19 : decode cX0_widest 19 = .ok (.getfield 15, 3) := by decide +kernel
theorem dX0_widest_22 : decode cX0_widest 22 = .ok (.iload_n 2, 1) := by decide +kernel
theorem dX0_widest_23 : decode cX0_widest 23 = .ok (.iaload, 1) := by decide +kernel
theorem dX0_widest_24 : decode cX0_widest 24 = .ok (.iload_n 1, 1) := by decide +kernel
theorem dX0_widest_25 : decode cX0_widest 25 = .ok (.invokevirtual 90, 3) := by decide +kernel
theorem dX0_widest_28 : decode cX0_widest 28 = .ok (.ifCond .eq 10, 3) := by decide +kernel
theorem dX0_widest_31 : decode cX0_widest 31 = .ok (.aload_n 0, 1) := by decide +kernel
theorem dX0_widest_32 : decode cX0_widest 32 = .ok (.getfield 15, 3) := by decide +kernel
theorem dX0_widest_35 : decode cX0_widest 35 = .ok (.iload_n 2, 1) := by decide +kernel
theorem dX0_widest_36 : decode cX0_widest 36 = .ok (.iaload, 1) := by decide +kernel
theorem dX0_widest_37 : decode cX0_widest 37 = .ok (.istore_n 1, 1) := by decide +kernel
theorem dX0_widest_38 : decode cX0_widest 38 = .ok (.iinc 2 1, 3) := by decide +kernel
theorem dX0_widest_41 : decode cX0_widest 41 = .ok (.goto (-37), 3) := by decide +kernel
theorem dX0_widest_44 : decode cX0_widest 44 = .ok (.iload_n 1, 1) := by decide +kernel
theorem dX0_widest_45 : decode cX0_widest 45 = .ok (.ireturn, 1) := by decide +kernel
set_option maxRecDepth 20000 in
theorem ggX0_isWider_X1_width : GoodIn wsX0_isWider wsX1_width := goodIn_r _ [6, 7, 8, 17, 18, 19, 20, 21, 22] (by decide +kernel) (by decide +kernel)
set_option maxRecDepth 20000 in
theorem gX0_isWider_X1_width : GoodIn wsX0_isWider (wsV RX0 87 RX1 yX1_width wsX1_width) := goodIn_app (goodIn_of _ (by decide +kernel)) ggX0_isWider_X1_width
theorem dX0_isWider_0 : decode cX0_isWider 0 = .ok (.aload_n 0, 1) := by decide +kernel
theorem dX0_isWider_1 : decode cX0_isWider 1 = .ok (.getfield 41, 3) := by decide +kernel
theorem dX0_isWider_4 : decode cX0_isWider 4 = .ok (.iload_n 1, 1) := by decide +kernel
theorem dX0_isWider_5 : decode cX0_isWider 5 = .ok (.invokevirtual 87, 3) := by decide +kernel
theorem dX0_isWider_8 : decode cX0_isWider 8 = .ok (.aload_n 0, 1) := by decide +kernel
theorem dX0_isWider_9 : decode cX0_isWider 9 = .ok (.getfield 41, 3) := by decide +kernel
theorem dX0_isWider_12 : decode cX0_isWider 12 = .ok (.iload_n 2, 1) := by decide +kernel
theorem dX0_isWider_13 : decode cX0_isWider 13 = .ok (.invokevirtual 87, 3) := by decide +kernel
theorem dX0_isWider_16 : decode cX0_isWider 16 = .ok (.isub, 1) := by decide +kernel
theorem dX0_isWider_17 : decode cX0_isWider 17 = .ok (.istore_n 3, 1) := by decide +kernel
theorem dX0_isWider_18 : decode cX0_isWider 18 = .ok (.iload_n 3, 1) := by decide +kernel
theorem dX0_isWider_19 : decode cX0_isWider 19 = .ok (.ifCond .gt 12, 3) := by decide +kernel
theorem dX0_isWider_22 : decode cX0_isWider 22 = .ok (.iload_n 3, 1) := by decide +kernel
theorem dX0_isWider_23 : decode cX0_isWider 23 = .ok (.ifCond .ne 12, 3) := by decide +kernel
theorem dX0_isWider_26 : decode cX0_isWider 26 = .ok (.iload_n 1, 1) := by decide +kernel
theorem dX0_isWider_27 : decode cX0_isWider 27 = .ok (.iload_n 2, 1) := by decide +kernel
theorem dX0_isWider_28 : decode cX0_isWider 28 = .ok (.if_icmp .ge 7, 3) := by decide +kernel
theorem dX0_isWider_31 : decode cX0_isWider 31 = .ok (.iconst 1, 1) := by decide +kernel
theorem dX0_isWider_32 : decode cX0_isWider 32 = .ok (.goto 4, 3) := by decide +kernel
theorem dX0_isWider_35 : decode cX0_isWider 35 = .ok (.iconst 0, 1) := by decide +kernel
theorem dX0_isWider_36 : decode cX0_isWider 36 = .ok (.ireturn, 1) := by decide +kernel
theorem dX1_init_0 : decode cX1_init 0 = .ok (.aload_n 0, 1) := by decide +kernel
theorem dX1_init_1 : decode cX1_init 1 = .ok (.invokespecial 3, 3) := by decide +kernel
theorem dX1_init_4 : decode cX1_init 4 = .ok (.aload_n 0, 1) := by decide +kernel
theorem dX1_init_5 : decode cX1_init 5 = .ok (.bipush 20, 2) := by decide +kernel
theorem dX1_init_7 : decode cX1_init 7 = .ok (.newarray .int, 2) := by decide +kernel
theorem dX1_init_9 : decode cX1_init 9 = .ok (.putfield 9, 3) := by decide +kernel
theorem dX1_init_12 : decode cX1_init 12 = .ok (.aload_n 0, 1) := by decide +kernel
theorem dX1_init_13 : decode cX1_init 13 = .ok (.bipush 20, 2) := by decide +kernel
theorem dX1_init_15 : decode cX1_init 15 = .ok (.newarray .int, 2) := by decide +kernel
theorem dX1_init_17 : decode cX1_init 17 = .ok (.putfield 15, 3) := by decide +kernel
theorem dX1_init_20 : decode cX1_init 20 = .ok (.aload_n 0, 1) := by decide +kernel
theorem dX1_init_21 : decode cX1_init 21 = .ok (.bipush 20, 2) := by decide +kernel
theorem dX1_init_23 : decode cX1_init 23 = .ok (.newarray .int, 2) := by decide +kernel
theorem dX1_init_25 : decode cX1_init 25 = .ok (.putfield 18, 3) := by decide +kernel
theorem dX1_init_28 : decode cX1_init 28 = .ok (.aload_n 0, 1) := by decide +kernel
theorem dX1_init_29 : decode cX1_init 29 = .ok (.bipush 20, 2) := by decide +kernel
theorem dX1_init_31 : decode cX1_init 31 = .ok (.newarray .int, 2) := by decide +kernel
theorem dX1_init_33 : decode cX1_init 33 = .ok (.putfield 21, 3) := by decide +kernel
theorem dX1_init_36 : decode cX1_init 36 = .ok (.aload_n 0, 1) := by decide +kernel
theorem dX1_init_37 : decode cX1_init 37 = .ok (.bipush 20, 2) := by decide +kernel
theorem dX1_init_39 : decode cX1_init 39 = .ok (.newarray .int, 2) := by decide +kernel
theorem dX1_init_41 : decode cX1_init 41 = .ok (.putfield 24, 3) := by decide +kernel
theorem dX1_init_44 : decode cX1_init 44 = .ok (.aload_n 0, 1) := by decide +kernel
theorem dX1_init_45 : decode cX1_init 45 = .ok (.iconst 0, 1) := by decide +kernel
theorem dX1_init_46 : decode cX1_init 46 = .ok (.putfield 27, 3) := by decide +kernel
theorem dX1_init_49 : decode cX1_init 49 = .ok (.return_, 1) := by decide +kernel
theorem dX1_put_0 : decode cX1_put 0 = .ok (.aload_n 0, 1) := by decide +kernel
theorem dX1_put_1 : decode cX1_put 1 = .ok (.getfield 9, 3) := by decide +kernel
theorem dX1_put_4 : decode cX1_put 4 = .ok (.iload_n 1, 1) := by decide +kernel
theorem dX1_put_5 : decode cX1_put 5 = .ok (.iload_n 2, 1) := by decide +kernel
theorem dX1_put_6 : decode cX1_put 6 = .ok (.iastore, 1) := by decide +kernel
theorem dX1_put_7 : decode cX1_put 7 = .ok (.aload_n 0, 1) := by decide +kernel
theorem dX1_put_8 : decode cX1_put 8 = .ok (.getfield 15, 3) := by decide +kernel
theorem dX1_put_11 : decode cX1_put 11 = .ok (.iload_n 1, 1) := by decide +kernel
theorem dX1_put_12 : decode cX1_put 12 = .ok (.iload_n 3, 1) := by decide +kernel
theorem dX1_put_13 : decode cX1_put 13 = .ok (.iastore, 1) := by decide +kernel
theorem dX1_put_14 : decode cX1_put 14 = .ok (.aload_n 0, 1) := by decide +kernel
theorem dX1_put_15 : decode cX1_put 15 = .ok (.getfield 18, 3) := by decide +kernel
theorem dX1_put_18 : decode cX1_put 18 = .ok (.iload_n 1, 1) := by decide +kernel
theorem dX1_put_19 : decode cX1_put 19 = .ok (.iload 4, 2) := by decide +kernel
theorem dX1_put_21 : decode cX1_put 21 = .ok (.iastore, 1) := by decide +kernel
theorem dX1_put_22 : decode cX1_put 22 = .ok (.aload_n 0, 1) := by decide +kernel
theorem dX1_put_23 : decode cX1_put 23 = .ok (.getfield 21, 3) := by decide +kernel
theorem dX1_put_26 : decode cX1_put 26 = .ok (.iload_n 1, 1) := by decide +kernel
theorem dX1_put_27 : decode cX1_put 27 = .ok (.iload 5, 2) := by decide +kernel
theorem dX1_put_29 : decode cX1_put 29 = .ok (.iastore, 1) := by decide +kernel
theorem dX1_put_30 : decode cX1_put 30 = .ok (.aload_n 0, 1) := by decide +kernel
theorem dX1_put_31 : decode cX1_put 31 = .ok (.getfield 24, 3) := by decide +kernel
theorem dX1_put_34 : decode cX1_put 34 = .ok (.iload_n 1, 1) := by decide +kernel
theorem dX1_put_35 : decode cX1_put 35 = .ok (.iload 6, 2) := by decide +kernel
theorem dX1_put_37 : decode cX1_put 37 = .ok (.iastore, 1) := by decide +kernel
theorem dX1_put_38 : decode cX1_put 38 = .ok (.return_, 1) := by decide +kernel
set_option maxRecDepth 20000 in
theorem ggX1_copyRow_X1_put : GoodIn wsX1_copyRow wsX1_put := goodIn_r _ [10, 1, 2, 3, 4, 5, 11, 12, 13, 14, 15, 16] (by decide +kernel) (by decide +kernel)
set_option maxRecDepth 20000 in
theorem gX1_copyRow_X1_put : GoodIn wsX1_copyRow (wsV RX1 31 RX1 yX1_put wsX1_put) := goodIn_app (goodIn_of _ (by decide +kernel)) ggX1_copyRow_X1_put
theorem dX1_copyRow_0 : decode cX1_copyRow 0 = .ok (.aload_n 0, 1) := by decide +kernel
theorem dX1_copyRow_1 : decode cX1_copyRow 1 = .ok (.iload_n 1, 1) := by decide +kernel
theorem dX1_copyRow_2 : decode cX1_copyRow 2 = .ok (.aload_n 2, 1) := by decide +kernel
theorem dX1_copyRow_3 : decode cX1_copyRow 3 = .ok (.getfield 9, 3) := by decide +kernel
theorem dX1_copyRow_6 : decode cX1_copyRow 6 = .ok (.iload_n 3, 1) := by decide +kernel
theorem dX1_copyRow_7 : decode cX1_copyRow 7 = .ok (.iaload, 1) := by decide +kernel
theorem dX1_copyRow_8 : decode cX1_copyRow 8 = .ok (.aload_n 2, 1) := by decide +kernel
theorem dX1_copyRow_9 : decode cX1_copyRow 9 = .ok (.getfield 15, 3) := by decide +kernel
theorem dX1_copyRow_12 : decode cX1_copyRow 12 = .ok (.iload_n 3, 1) := by decide +kernel
theorem dX1_copyRow_13 : decode cX1_copyRow 13 = .ok (.iaload, 1) := by decide +kernel
theorem dX1_copyRow_14 : decode cX1_copyRow 14 = .ok (.aload_n 2, 1) := by decide +kernel
theorem dX1_copyRow_15 : decode cX1_copyRow 15 = .ok (.getfield 18, 3) := by decide +kernel
theorem dX1_copyRow_18 : decode cX1_copyRow 18 = .ok (.iload_n 3, 1) := by decide +kernel
theorem dX1_copyRow_19 : decode cX1_copyRow 19 = .ok (.iaload, 1) := by decide +kernel
theorem dX1_copyRow_20 : decode cX1_copyRow 20 = .ok (.aload_n 2, 1) := by decide +kernel
theorem dX1_copyRow_21 : decode cX1_copyRow 21 = .ok (.getfield 21, 3) := by decide +kernel
theorem dX1_copyRow_24 : decode cX1_copyRow 24 = .ok (.iload_n 3, 1) := by decide +kernel
theorem dX1_copyRow_25 : decode cX1_copyRow 25 = .ok (.iaload, 1) := by decide +kernel
theorem dX1_copyRow_26 : decode cX1_copyRow 26 = .ok (.aload_n 2, 1) := by decide +kernel
theorem dX1_copyRow_27 : decode cX1_copyRow 27 = .ok (.getfield 24, 3) := by decide +kernel
theorem dX1_copyRow_30 : decode cX1_copyRow 30 = .ok (.iload_n 3, 1) := by decide +kernel
theorem dX1_copyRow_31 : decode cX1_copyRow 31 = .ok (.iaload, 1) := by decide +kernel
theorem dX1_copyRow_32 : decode cX1_copyRow 32 = .ok (.invokevirtual 31, 3) := by decide +kernel
theorem dX1_copyRow_35 : decode cX1_copyRow 35 = .ok (.return_, 1) := by decide +kernel
set_option maxRecDepth 20000 in
theorem ggX1_copyAll_X1_copyRow : GoodIn wsX1_copyAll wsX1_copyRow := goodIn_r _ [6, 7, 8, 9, 10, 11, 12, 13, 14, 5, 15, 16, 17, 18, 19, 20, 21] (by decide +kernel) (by decide +kernel)
set_option maxRecDepth 20000 in
theorem gX1_copyAll_X1_copyRow : GoodIn wsX1_copyAll (wsV RX1 35 RX1 yX1_copyRow wsX1_copyRow) := goodIn_app (goodIn_of _ (by decide +kernel)) ggX1_copyAll_X1_copyRow
theorem dX1_copyAll_0 : decode cX1_copyAll 0 = .ok (.aload_n 0, 1) := by decide +kernel
theorem dX1_copyAll_1 : decode cX1_copyAll 1 = .ok (.aload_n 1, 1) := by decide +kernel
theorem dX1_copyAll_2 : decode cX1_copyAll 2 = .ok (.getfield 27, 3) := by decide +kernel
theorem dX1_copyAll_5 : decode cX1_copyAll 5 = .ok (.putfield 27, 3) := by decide +kernel
theorem dX1_copyAll_8 : decode cX1_copyAll 8 = .ok (.iconst 0, 1) := by decide +kernel
theorem dX1_copyAll_9 : decode cX1_copyAll 9 = .ok (.istore_n 2, 1) := by decide +kernel
theorem dX1_copyAll_10 : decode cX1_copyAll 10 = .ok (.iload_n 2, 1) := by decide +kernel
theorem dX1_copyAll_11 : decode cX1_copyAll 11 = .ok (.aload_n 0, 1) := by decide +kernel
theorem dX1_copyAll_12 : decode cX1_copyAll 12 = .ok (.getfield 27, 3) := by decide +kernel
theorem dX1_copyAll_15 : decode cX1_copyAll 15 = .ok (.if_icmp .ge 16, 3) := by decide +kernel
theorem dX1_copyAll_18 : decode cX1_copyAll 18 = .ok (.aload_n 0, 1) := by decide +kernel
theorem dX1_copyAll_19 : decode cX1_copyAll 19 = .ok (.iload_n 2, 1) := by decide +kernel
theorem dX1_copyAll_20 : decode cX1_copyAll 20 = .ok (.aload_n 1, 1) := by decide +kernel
theorem dX1_copyAll_21 : decode cX1_copyAll 21 = .ok (.iload_n 2, 1) := by decide +kernel
theorem dX1_copyAll_22 : decode cX1_copyAll 22 = .ok (.invokevirtual 35, 3) := by decide +kernel
theorem dX1_copyAll_25 : decode cX1_copyAll 25 = .ok (.iinc 2 1, 3) := by decide +kernel
theorem dX1_copyAll_28 : decode cX1_copyAll 28 = .ok (.goto (-18), 3) := by decide +kernel
theorem dX1_copyAll_31 : decode cX1_copyAll 31 = .ok (.return_, 1) := by decide +kernel
set_option maxRecDepth 20000 in
theorem ggX1_removeAt_X1_copyRow : GoodIn wsX1_removeAt wsX1_copyRow := goodIn_r _ [6, 7, 8, 9, 10, 11, 12, 13, 14, 5, 15, 16, 17, 18, 19, 20, 21] (by decide +kernel) (by decide +kernel)
set_option maxRecDepth 20000 in
theorem gX1_removeAt_X1_copyRow : GoodIn wsX1_removeAt (wsV RX1 35 RX1 yX1_copyRow wsX1_copyRow) := goodIn_app (goodIn_of _ (by decide +kernel)) ggX1_removeAt_X1_copyRow
theorem dX1_removeAt_0 : decode cX1_removeAt 0 = .ok (.iload_n 1, 1) := by decide +kernel
theorem dX1_removeAt_1 : decode cX1_removeAt 1 = .ok (.iconst 1, 1) := by decide +kernel
theorem dX1_removeAt_2 : decode cX1_removeAt 2 = .ok (.iadd, 1) := by decide +kernel
theorem dX1_removeAt_3 : decode cX1_removeAt 3 = .ok (.istore_n 2, 1) := by decide +kernel
theorem dX1_removeAt_4 : decode cX1_removeAt 4 = .ok (.iload_n 2, 1) := by decide +kernel
theorem dX1_removeAt_5 : decode cX1_removeAt 5 = .ok (.aload_n 0, 1) := by decide +kernel
theorem dX1_removeAt_6 : decode cX1_removeAt 6 = .ok (.getfield 27, 3) := by decide +kernel
theorem dX1_removeAt_9 : decode cX1_removeAt 9 = .ok (.if_icmp .ge 18, 3) := by decide +kernel
theorem dX1_removeAt_12 : decode cX1_removeAt 12 = .ok (.aload_n 0, 1) := by decide +kernel
theorem dX1_removeAt_13 : decode cX1_removeAt 13 = .ok (.iload_n 2, 1) := by decide +kernel
theorem dX1_removeAt_14 : decode cX1_removeAt 14 = .ok (.iconst 1, 1) := by decide +kernel
theorem dX1_removeAt_15 : decode cX1_removeAt 15 = .ok (.isub, 1) := by decide +kernel
theorem dX1_removeAt_16 : decode cX1_removeAt 16 = .ok (.aload_n 0, 1) := by decide +kernel
theorem dX1_removeAt_17 : decode cX1_removeAt 17 = .ok (.iload_n 2, 1) := by decide +kernel
theorem dX1_removeAt_18 : decode cX1_removeAt 18 = .ok (.invokevirtual 35, 3) := by decide +kernel
theorem dX1_removeAt_21 : decode cX1_removeAt 21 = .ok (.iinc 2 1, 3) := by decide +kernel
theorem dX1_removeAt_24 : decode cX1_removeAt 24 = .ok (.goto (-20), 3) := by decide +kernel
theorem dX1_removeAt_27 : decode cX1_removeAt 27 = .ok (.aload_n 0, 1) := by decide +kernel
theorem dX1_removeAt_28 : decode cX1_removeAt 28 = .ok (.dup, 1) := by decide +kernel
theorem dX1_removeAt_29 : decode cX1_removeAt 29 = .ok (.getfield 27, 3) := by decide +kernel
theorem dX1_removeAt_32 : decode cX1_removeAt 32 = .ok (.iconst 1, 1) := by decide +kernel
theorem dX1_removeAt_33 : decode cX1_removeAt 33 = .ok (.isub, 1) := by decide +kernel
theorem dX1_removeAt_34 : decode cX1_removeAt 34 = .ok (.putfield 27, 3) := by decide +kernel
theorem dX1_removeAt_37 : decode cX1_removeAt 37 = .ok (.return_, 1) := by decide +kernel
theorem dX1_width_0 : decode cX1_width 0 = .ok (.aload_n 0, 1) := by decide +kernel
theorem dX1_width_1 : decode cX1_width 1 = .ok (.getfield 24, 3) := by decide +kernel
theorem dX1_width_4 : decode cX1_width 4 = .ok (.iload_n 1, 1) := by decide +kernel
theorem dX1_width_5 : decode cX1_width 5 = .ok (.iaload, 1) := by decide +kernel
theorem dX1_width_6 : decode cX1_width 6 = .ok (.aload_n 0, 1) := by decide +kernel
theorem dX1_width_7 : decode cX1_width 7 = .ok (.getfield 21, 3) := by decide +kernel
theorem dX1_width_10 : decode cX1_width 10 = .ok (.iload_n 1, 1) := by decide +kernel
theorem dX1_width_11 : decode cX1_width 11 = .ok (.iaload, 1) := by decide +kernel
theorem dX1_width_12 : decode cX1_width 12 = .ok (.isub, 1) := by decide +kernel
theorem dX1_width_13 : decode cX1_width 13 = .ok (.ireturn, 1) := by decide +kernel
theorem dX1_leastLimit_0 : decode cX1_leastLimit 0 = .ok (.aload_n 0, 1) := by decide +kernel
theorem dX1_leastLimit_1 : decode cX1_leastLimit 1 = .ok (.getfield 18, 3) := by decide +kernel
theorem dX1_leastLimit_4 : decode cX1_leastLimit 4 = .ok (.iload_n 1, 1) := by decide +kernel
theorem dX1_leastLimit_5 : decode cX1_leastLimit 5 = .ok (.iaload, 1) := by decide +kernel
theorem dX1_leastLimit_6 : decode cX1_leastLimit 6 = .ok (.aload_n 0, 1) := by decide +kernel
theorem dX1_leastLimit_7 : decode cX1_leastLimit 7 = .ok (.getfield 21, 3) := by decide +kernel
theorem dX1_leastLimit_10 : decode cX1_leastLimit 10 = .ok (.iload_n 1, 1) := by decide +kernel
theorem dX1_leastLimit_11 : decode cX1_leastLimit 11 = .ok (.iaload, 1) := by decide +kernel
theorem dX1_leastLimit_12 : decode cX1_leastLimit 12 = .ok (.iadd, 1) := by decide +kernel
theorem dX1_leastLimit_13 : decode cX1_leastLimit 13 = .ok (.ireturn, 1) := by decide +kernel
theorem dX1_greatestLimit_0 : decode cX1_greatestLimit 0 = .ok (.aload_n 0, 1) := by decide +kernel
theorem dX1_greatestLimit_1 : decode cX1_greatestLimit 1 = .ok (.getfield 18, 3) := by decide +kernel
theorem dX1_greatestLimit_4 : decode cX1_greatestLimit 4 = .ok (.iload_n 1, 1) := by decide +kernel
theorem dX1_greatestLimit_5 : decode cX1_greatestLimit 5 = .ok (.iaload, 1) := by decide +kernel
theorem dX1_greatestLimit_6 : decode cX1_greatestLimit 6 = .ok (.aload_n 0, 1) := by decide +kernel
theorem dX1_greatestLimit_7 : decode cX1_greatestLimit 7 = .ok (.getfield 24, 3) := by decide +kernel
theorem dX1_greatestLimit_10 : decode cX1_greatestLimit 10 = .ok (.iload_n 1, 1) := by decide +kernel
theorem dX1_greatestLimit_11 : decode cX1_greatestLimit 11 = .ok (.iaload, 1) := by decide +kernel
theorem dX1_greatestLimit_12 : decode cX1_greatestLimit 12 = .ok (.iadd, 1) := by decide +kernel
theorem dX1_greatestLimit_13 : decode cX1_greatestLimit 13 = .ok (.ireturn, 1) := by decide +kernel
set_option maxRecDepth 20000 in
theorem ggX2_init_X1_init : GoodIn wsX2_init wsX1_init := goodIn_r _ [13, 14, 2, 3, 8, 15, 16, 17, 18, 19, 20, 45, 46, 47, 48, 49, 50] (by decide +kernel) (by decide +kernel)
set_option maxRecDepth 20000 in
theorem gX2_init_X1_init_n11 : GoodIn wsX2_init (wsX1_init) := ggX2_init_X1_init
set_option maxRecDepth 20000 in
theorem ggX2_init_X2_begin : GoodIn wsX2_init wsX2_begin := goodIn_r _ [25, 26, 7, 27, 28, 29, 30, 24, 31, 9, 32, 33, 11, 34, 35, 36, 37, 38, 39, 40, 41, 42, 43, 44, 51, 52, 53, 54, 45, 46, 47, 48, 49, 50] (by decide +kernel) (by decide +kernel)
set_option maxRecDepth 20000 in
theorem gX2_init_X2_begin : GoodIn wsX2_init (wsV RX2 26 RX2 yX2_begin wsX2_begin) := goodIn_app (goodIn_of _ (by decide +kernel)) ggX2_init_X2_begin
theorem dX2_init_0 : decode cX2_init 0 = .ok (.aload_n 0, 1) := by decide +kernel
theorem dX2_init_1 : decode cX2_init 1 = .ok (.invokespecial 3, 3) := by decide +kernel
theorem dX2_init_4 : decode cX2_init 4 = .ok (.aload_n 0, 1) := by decide +kernel
theorem dX2_init_5 : decode cX2_init 5 = .ok (.new 9, 3) := by decide +kernel
theorem dX2_init_8 : decode cX2_init 8 = .ok (.dup, 1) := by decide +kernel
theorem dX2_init_9 : decode cX2_init 9 = .ok (.invokespecial 11, 3) := by decide +kernel
theorem dX2_init_12 : decode cX2_init 12 = .ok (.putfield 12, 3) := by decide +kernel
theorem dX2_init_15 : decode cX2_init 15 = .ok (.aload_n 0, 1) := by decide +kernel
theorem dX2_init_16 : decode cX2_init 16 = .ok (.bipush 12, 2) := by decide +kernel
theorem dX2_init_18 : decode cX2_init 18 = .ok (.newarray .int, 2) := by decide +kernel
theorem dX2_init_20 : decode cX2_init 20 = .ok (.putfield 18, 3) := by decide +kernel
theorem dX2_init_23 : decode cX2_init 23 = .ok (.aload_n 0, 1) := by decide +kernel
theorem dX2_init_24 : decode cX2_init 24 = .ok (.bipush 20, 2) := by decide +kernel
theorem dX2_init_26 : decode cX2_init 26 = .ok (.newarray .boolean, 2) := by decide +kernel
theorem dX2_init_28 : decode cX2_init 28 = .ok (.putfield 22, 3) := by decide +kernel
theorem dX2_init_31 : decode cX2_init 31 = .ok (.aload_n 0, 1) := by decide +kernel
theorem dX2_init_32 : decode cX2_init 32 = .ok (.iload_n 1, 1) := by decide +kernel
theorem dX2_init_33 : decode cX2_init 33 = .ok (.invokevirtual 26, 3) := by decide +kernel
theorem dX2_init_36 : decode cX2_init 36 = .ok (.return_, 1) := by decide +kernel
set_option maxRecDepth 20000 in
theorem ggX2_begin_X2_findParts : GoodIn wsX2_begin wsX2_findParts := goodIn_r _ [8, 1, 9, 2, 3, 10, 11, 12, 13, 14, 15, 16, 17, 18, 19, 20, 21, 22, 7, 23, 24, 25, 26, 27, 28, 29, 30, 31, 32, 33] (by decide +kernel) (by decide +kernel)
set_option maxRecDepth 20000 in
theorem gX2_begin_X2_findParts : GoodIn wsX2_begin (wsV RX2 37 RX2 yX2_findParts wsX2_findParts) := goodIn_app (goodIn_of _ (by decide +kernel)) ggX2_begin_X2_findParts
theorem dX2_begin_0 : decode cX2_begin 0 = .ok (.aload_n 0, 1) := by decide +kernel
theorem dX2_begin_1 : decode cX2_begin 1 = .ok (.iload_n 1, 1) := by decide +kernel
theorem dX2_begin_2 : decode cX2_begin 2 = .ok (.putfield 30, 3) := by decide +kernel
theorem dX2_begin_5 : decode cX2_begin 5 = .ok (.aload_n 0, 1) := by decide +kernel
theorem dX2_begin_6 : decode cX2_begin 6 = .ok (.getfield 12, 3) := by decide +kernel
theorem dX2_begin_9 : decode cX2_begin 9 = .ok (.iconst 0, 1) := by decide +kernel
theorem dX2_begin_10 : decode cX2_begin 10 = .ok (.putfield 34, 3) := by decide +kernel
theorem dX2_begin_13 : decode cX2_begin 13 = .ok (.aload_n 0, 1) := by decide +kernel
theorem dX2_begin_14 : decode cX2_begin 14 = .ok (.invokevirtual 37, 3) := by decide +kernel
theorem dX2_begin_17 : decode cX2_begin 17 = .ok (.return_, 1) := by decide +kernel
set_option maxRecDepth 20000 in
theorem ggX2_findParts_X2_movePart : GoodIn wsX2_findParts wsX2_movePart := goodIn_r _ [19, 1, 2, 20, 21, 22, 23] (by decide +kernel) (by decide +kernel)
set_option maxRecDepth 20000 in
theorem gX2_findParts_X2_movePart : GoodIn wsX2_findParts (wsV RX2 55 RX2 yX2_movePart wsX2_movePart) := goodIn_app (goodIn_of _ (by decide +kernel)) ggX2_findParts_X2_movePart
theorem dX2_findParts_0 : decode cX2_findParts 0 = .ok (.iconst 0, 1) := by decide +kernel
theorem dX2_findParts_1 : decode cX2_findParts 1 = .ok (.istore_n 1, 1) := by decide +kernel
theorem dX2_findParts_2 : decode cX2_findParts 2 = .ok (.iload_n 1, 1) := by decide +kernel
theorem dX2_findParts_3 : decode cX2_findParts 3 = .ok (.aload_n 0, 1) := by decide +kernel
theorem dX2_findParts_4 : decode cX2_findParts 4 = .ok (.getfield 30, 3) := by decide +kernel
theorem dX2_findParts_7 : decode cX2_findParts 7 = .ok (.if_icmp .ge 16, 3) := by decide +kernel
theorem dX2_findParts_10 : decode cX2_findParts 10 = .ok (.aload_n 0, 1) := by decide +kernel
theorem dX2_findParts_11 : decode cX2_findParts 11 = .ok (.getfield 18, 3) := by decide +kernel
theorem dX2_findParts_14 : decode cX2_findParts 14 = .ok (.iload_n 1, 1) := by decide +kernel
theorem dX2_findParts_15 : decode cX2_findParts 15 = .ok (.iload_n 1, 1) := by decide +kernel
theorem dX2_findParts_16 : decode cX2_findParts 16 = .ok (.iastore, 1) := by decide +kernel
theorem dX2_findParts_17 : decode cX2_findParts 17 = .ok (.iinc 1 1, 3) := by decide +kernel
theorem dX2_findParts_20 : decode cX2_findParts 20 = .ok (.goto (-18), 3) := by decide +kernel
theorem dX2_findParts_23 : decode cX2_findParts 23 = .ok (.iconst 0, 1) := by decide +kernel
theorem dX2_findParts_24 : decode cX2_findParts 24 = .ok (.istore_n 1, 1) := by decide +kernel
theorem dX2_findParts_25 : decode cX2_findParts 25 = .ok (.iload_n 1, 1) := by decide +kernel
theorem dX2_findParts_26 : decode cX2_findParts 26 = .ok (.aload_n 0, 1) := by decide +kernel
theorem dX2_findParts_27 : decode cX2_findParts 27 = .ok (.getfield 12, 3) := by decide +kernel
theorem dX2_findParts_30 : decode cX2_findParts 30 = .ok (.getfield 34, 3) := by decide +kernel
theorem dX2_findParts_33 : decode cX2_findParts 33 = .ok (.if_icmp .ge 69, 3) := by decide +kernel
theorem dX2_findParts_36 : decode cX2_findParts 36 = .ok (.aload_n 0, 1) := by decide +kernel
theorem dX2_findParts_37 : decode cX2_findParts 37 = .ok (.getfield 18, 3) := by decide +kernel
theorem dX2_findParts_40 : decode cX2_findParts 40 = .ok (.aload_n 0, 1) := by decide +kernel
theorem dX2_findParts_41 : decode cX2_findParts 41 = .ok (.getfield 12, 3) := by decide +kernel
theorem dX2_findParts_44 : decode cX2_findParts 44 = .ok (.getfield 40, 3) := by decide +kernel
theorem dX2_findParts_47 : decode cX2_findParts 47 = .ok (.iload_n 1, 1) := by decide +kernel
theorem dX2_findParts_48 : decode cX2_findParts 48 = .ok (.iaload, 1) := by decide +kernel
theorem dX2_findParts_49 : decode cX2_findParts 49 = .ok (.iaload, 1) := by decide +kernel
theorem dX2_findParts_50 : decode cX2_findParts 50 = .ok (.istore_n 2, 1) := by decide +kernel
theorem dX2_findParts_51 : decode cX2_findParts 51 = .ok (.aload_n 0, 1) := by decide +kernel
theorem dX2_findParts_52 : decode cX2_findParts 52 = .ok (.getfield 18, 3) := by decide +kernel
theorem dX2_findParts_55 : decode cX2_findParts 55 = .ok (.aload_n 0, 1) := by decide +kernel
theorem dX2_findParts_56 : decode cX2_findParts 56 = .ok (.getfield 12, 3) := by decide +kernel
theorem dX2_findParts_59 : decode cX2_findParts 59 = .ok (.getfield 43, 3) := by decide +kernel
theorem dX2_findParts_62 : decode cX2_findParts 62 = .ok (.iload_n 1, 1) := by decide +kernel
theorem dX2_findParts_63 : decode cX2_findParts 63 = .ok (.iaload, 1) := by decide +kernel
theorem dX2_findParts_64 : decode cX2_findParts 64 = .ok (.iaload, 1) := by decide +kernel
theorem dX2_findParts_65 : decode cX2_findParts 65 = .ok (.istore_n 3, 1) := by decide +kernel
theorem dX2_findParts_66 : decode cX2_findParts 66 = .ok (.aload_n 0, 1) := by decide +kernel
theorem dX2_findParts_67 : decode cX2_findParts 67 = .ok (.getfield 22, 3) := by decide +kernel
theorem dX2_findParts_70 : decode cX2_findParts 70 = .ok (.iload_n 1, 1) := by decide +kernel
theorem dX2_findParts_71 : decode cX2_findParts 71 = .ok (.iload_n 2, 1) := by decide +kernel
theorem dX2_findParts_72 : decode cX2_findParts 72 = .ok (.iload_n 3, 1) := by decide +kernel
theorem dX2_findParts_73 : decode cX2_findParts 73 = .ok (.if_icmp .ne 7, 3) := by decide +kernel
theorem dX2_findParts_76 : decode cX2_findParts 76 = .ok (.iconst 1, 1) := by decide +kernel
theorem dX2_findParts_77 : decode cX2_findParts 77 = .ok (.goto 4, 3) := by decide +kernel
theorem dX2_findParts_80 : decode cX2_findParts 80 = .ok (.iconst 0, 1) := by decide +kernel
theorem dX2_findParts_81 : decode cX2_findParts 81 = .ok (.bastore, 1) := by decide +kernel
theorem dX2_findParts_82 : decode cX2_findParts 82 = .ok (.aload_n 0, 1) := by decide +kernel
theorem dX2_findParts_83 : decode cX2_findParts 83 = .ok (.iload_n 2, 1) := by decide +kernel
theorem dX2_findParts_84 : decode cX2_findParts 84 = .ok (.iload_n 3, 1) := by decide +kernel
theorem dX2_findParts_85 : decode cX2_findParts 85 = .ok (.invokestatic 46, 3) := by decide +kernel
theorem dX2_findParts_88 : decode cX2_findParts 88 = .ok (.iload_n 2, 1) := by decide +kernel
theorem dX2_findParts_89 : decode cX2_findParts 89 = .ok (.iload_n 3, 1) := by decide +kernel
theorem dX2_findParts_90 : decode cX2_findParts 90 = .ok (.invokestatic 52, 3) := by decide +kernel
theorem dX2_findParts_93 : decode cX2_findParts 93 = .ok (.invokevirtual 55, 3) := by decide +kernel
theorem dX2_findParts_96 : decode cX2_findParts 96 = .ok (.iinc 1 1, 3) := by decide +kernel
theorem dX2_findParts_99 : decode cX2_findParts 99 = .ok (.goto (-74), 3) := by decide +kernel
theorem dX2_findParts_102 : decode cX2_findParts 102 = .ok (.return_, 1) := by decide +kernel
theorem dX2_movePart_0 : decode cX2_movePart 0 = .ok (.iconst 0, 1) := by decide +kernel
theorem dX2_movePart_1 : decode cX2_movePart 1 = .ok (.istore_n 3, 1) := by decide +kernel
theorem dX2_movePart_2 : decode cX2_movePart 2 = .ok (.iload_n 3, 1) := by decide +kernel
theorem dX2_movePart_3 : decode cX2_movePart 3 = .ok (.aload_n 0, 1) := by decide +kernel
theorem dX2_movePart_4 : decode cX2_movePart 4 = .ok (.getfield 30, 3) := by decide +kernel
theorem dX2_movePart_7 : decode cX2_movePart 7 = .ok (.if_icmp .ge 26, 3) := by decide +kernel
theorem dX2_movePart_10 : decode cX2_movePart 10 = .ok (.aload_n 0, 1) := by decide +kernel
theorem dX2_movePart_11 : decode cX2_movePart 11 = .ok (.getfield 18, 3) := by decide +kernel
theorem dX2_movePart_14 : decode cX2_movePart 14 = .ok (.iload_n 3, 1) := by decide +kernel
theorem dX2_movePart_15 : decode cX2_movePart 15 = .ok (.iaload, 1) := by decide +kernel
theorem dX2_movePart_16 : decode cX2_movePart 16 = .ok (.iload_n 1, 1) := by decide +kernel
theorem dX2_movePart_17 : decode cX2_movePart 17 = .ok (.if_icmp .ne 10, 3) := by decide +kernel
theorem dX2_movePart_20 : decode cX2_movePart 20 = .ok (.aload_n 0, 1) := by decide +kernel
theorem dX2_movePart_21 : decode cX2_movePart 21 = .ok (.getfield 18, 3) := by decide +kernel
theorem dX2_movePart_24 : decode cX2_movePart 24 = .ok (.iload_n 3, 1) := by decide +kernel
theorem dX2_movePart_25 : decode cX2_movePart 25 = .ok (.iload_n 2, 1) := by decide +kernel
theorem dX2_movePart_26 : decode cX2_movePart 26 = .ok (.iastore, 1) := by decide +kernel
theorem dX2_movePart_27 : decode cX2_movePart 27 = .ok (.iinc 3 1, 3) := by decide +kernel
theorem dX2_movePart_30 : decode cX2_movePart 30 = .ok (.goto (-28), 3) := by decide +kernel
theorem dX2_movePart_33 : decode cX2_movePart 33 = .ok (.return_, 1) := by decide +kernel
theorem dX2_partCount_0 : decode cX2_partCount 0 = .ok (.iconst 0, 1) := by decide +kernel
theorem dX2_partCount_1 : decode cX2_partCount 1 = .ok (.istore_n 1, 1) := by decide +kernel
theorem dX2_partCount_2 : decode cX2_partCount 2 = .ok (.iconst 0, 1) := by decide +kernel
theorem dX2_partCount_3 : decode cX2_partCount 3 = .ok (.istore_n 2, 1) := by decide +kernel
theorem dX2_partCount_4 : decode cX2_partCount 4 = .ok (.iload_n 2, 1) := by decide +kernel
theorem dX2_partCount_5 : decode cX2_partCount 5 = .ok (.aload_n 0, 1) := by decide +kernel
theorem dX2_partCount_6 : decode cX2_partCount 6 = .ok (.getfield 30, 3) := by decide +kernel
theorem dX2_partCount_9 : decode cX2_partCount 9 = .ok (.if_icmp .ge 22, 3) := by decide +kernel
theorem dX2_partCount_12 : decode cX2_partCount 12 = .ok (.aload_n 0, 1) := by decide +kernel
theorem dX2_partCount_13 : decode cX2_partCount 13 = .ok (.getfield 18, 3) := by decide +kernel
theorem dX2_partCount_16 : decode cX2_partCount 16 = .ok (.iload_n 2, 1) := by decide +kernel
theorem dX2_partCount_17 : decode cX2_partCount 17 = .ok (.iaload, 1) := by decide +kernel
theorem dX2_partCount_18 : decode cX2_partCount 18 = .ok (.iload_n 2, 1) := by decide +kernel
theorem dX2_partCount_19 : decode cX2_partCount 19 = .ok (.if_icmp .ne 6, 3) := by decide +kernel
theorem dX2_partCount_22 : decode cX2_partCount 22 = .ok (.iinc 1 1, 3) := by decide +kernel
theorem dX2_partCount_25 : decode cX2_partCount 25 = .ok (.iinc 2 1, 3) := by decide +kernel
theorem dX2_partCount_28 : decode cX2_partCount 28 = .ok (.goto (-24), 3) := by decide +kernel
theorem dX2_partCount_31 : decode cX2_partCount 31 = .ok (.iload_n 1, 1) := by decide +kernel
theorem dX2_partCount_32 : decode cX2_partCount 32 = .ok (.ireturn, 1) := by decide +kernel
set_option maxRecDepth 20000 in
theorem ggX3_init_X1_init : GoodIn wsX3_init wsX1_init := goodIn_r _ [15, 16, 2, 3, 17, 18, 19, 20, 21, 22, 23, 24, 25, 26, 27, 28, 29] (by decide +kernel) (by decide +kernel)
set_option maxRecDepth 20000 in
theorem gX3_init_X1_init_n11 : GoodIn wsX3_init (wsX1_init) := ggX3_init_X1_init
theorem dX3_init_0 : decode cX3_init 0 = .ok (.aload_n 0, 1) := by decide +kernel
theorem dX3_init_1 : decode cX3_init 1 = .ok (.invokespecial 3, 3) := by decide +kernel
theorem dX3_init_4 : decode cX3_init 4 = .ok (.aload_n 0, 1) := by decide +kernel
theorem dX3_init_5 : decode cX3_init 5 = .ok (.new 9, 3) := by decide +kernel
theorem dX3_init_8 : decode cX3_init 8 = .ok (.dup, 1) := by decide +kernel
theorem dX3_init_9 : decode cX3_init 9 = .ok (.invokespecial 11, 3) := by decide +kernel
theorem dX3_init_12 : decode cX3_init 12 = .ok (.putfield 12, 3) := by decide +kernel
theorem dX3_init_15 : decode cX3_init 15 = .ok (.aload_n 0, 1) := by decide +kernel
theorem dX3_init_16 : decode cX3_init 16 = .ok (.iconst 0, 1) := by decide +kernel
theorem dX3_init_17 : decode cX3_init 17 = .ok (.putfield 18, 3) := by decide +kernel
theorem dX3_init_20 : decode cX3_init 20 = .ok (.aload_n 0, 1) := by decide +kernel
theorem dX3_init_21 : decode cX3_init 21 = .ok (.iconst 0, 1) := by decide +kernel
theorem dX3_init_22 : decode cX3_init 22 = .ok (.putfield 22, 3) := by decide +kernel
theorem dX3_init_25 : decode cX3_init 25 = .ok (.aload_n 0, 1) := by decide +kernel
theorem dX3_init_26 : decode cX3_init 26 = .ok (.iconst 0, 1) := by decide +kernel
theorem dX3_init_27 : decode cX3_init 27 = .ok (.putfield 25, 3) := by decide +kernel
theorem dX3_init_30 : decode cX3_init 30 = .ok (.aload_n 0, 1) := by decide +kernel
theorem dX3_init_31 : decode cX3_init 31 = .ok (.iconst 0, 1) := by decide +kernel
theorem dX3_init_32 : decode cX3_init 32 = .ok (.putfield 28, 3) := by decide +kernel
theorem dX3_init_35 : decode cX3_init 35 = .ok (.aload_n 0, 1) := by decide +kernel
theorem dX3_init_36 : decode cX3_init 36 = .ok (.iconst 0, 1) := by decide +kernel
theorem dX3_init_37 : decode cX3_init 37 = .ok (.putfield 31, 3) := by decide +kernel
theorem dX3_init_40 : decode cX3_init 40 = .ok (.aload_n 0, 1) := by decide +kernel
theorem dX3_init_41 : decode cX3_init 41 = .ok (.iconst 0, 1) := by decide +kernel
theorem dX3_init_42 : decode cX3_init 42 = .ok (.putfield 34, 3) := by decide +kernel
theorem dX3_init_45 : decode cX3_init 45 = .ok (.return_, 1) := by decide +kernel
set_option maxRecDepth 20000 in
theorem ggX3_read_X3_take : GoodIn wsX3_read wsX3_take := goodIn_r _ [9, 4, 10, 11, 12, 8, 13, 1, 2, 3, 14, 15, 16, 17, 18, 19, 20, 21, 22, 23, 24, 25, 26, 27, 28, 29, 30, 31, 32, 33, 34, 35, 36, 37, 38, 39, 40, 41, 42, 43, 44, 45, 46, 47, 48, 49, 50, 51, 52, 53, 54, 55, 56, 57, 58, 59, 60, 61, 62, 63, 64, 65, 66, 67, 68, 69, 70, 71, 72, 73, 74, 75, 76, 77, 78, 79, 80, 81, 82, 83, 84, 85, 86, 87, 88, 89, 90, 91, 92, 93] (by decide +kernel) (by decide +kernel)
set_option maxRecDepth 20000 in
theorem gX3_read_X3_take : GoodIn wsX3_read (wsV RX3 41 RX3 yX3_take wsX3_take) := goodIn_app (goodIn_of _ (by decide +kernel)) ggX3_read_X3_take
theorem dX3_read_0 : decode cX3_read 0 = .ok (.aload_n 0, 1) := by decide +kernel
theorem dX3_read_1 : decode cX3_read 1 = .ok (.iload_n 3, 1) := by decide +kernel
theorem dX3_read_2 : decode cX3_read 2 = .ok (.putfield 18, 3) := by decide +kernel
theorem dX3_read_5 : decode cX3_read 5 = .ok (.aload_n 0, 1) := by decide +kernel
theorem dX3_read_6 : decode cX3_read 6 = .ok (.getfield 12, 3) := by decide +kernel
theorem dX3_read_9 : decode cX3_read 9 = .ok (.iconst 0, 1) := by decide +kernel
theorem dX3_read_10 : decode cX3_read 10 = .ok (.putfield 38, 3) := by decide +kernel
theorem dX3_read_13 : decode cX3_read 13 = .ok (.aload_n 0, 1) := by decide +kernel
theorem dX3_read_14 : decode cX3_read 14 = .ok (.iconst 0, 1) := by decide +kernel
theorem dX3_read_15 : decode cX3_read 15 = .ok (.putfield 22, 3) := by decide +kernel
theorem dX3_read_18 : decode cX3_read 18 = .ok (.iconst 0, 1) := by decide +kernel
theorem dX3_read_19 : decode cX3_read 19 = .ok (.istore 4, 2) := by decide +kernel
theorem dX3_read_21 : decode cX3_read 21 = .ok (.iload 4, 2) := by decide +kernel
theorem dX3_read_23 : decode cX3_read 23 = .ok (.iload_n 2, 1) := by decide +kernel
theorem dX3_read_24 : decode cX3_read 24 = .ok (.if_icmp .ge 23, 3) := by decide +kernel
theorem dX3_read_27 : decode cX3_read 27 = .ok (.aload_n 0, 1) := by decide +kernel
theorem dX3_read_28 : decode cX3_read 28 = .ok (.aload_n 1, 1) := by decide +kernel
theorem dX3_read_29 : decode cX3_read 29 = .ok (.iload 4, 2) := by decide +kernel
theorem dX3_read_31 : decode cX3_read 31 = .ok (.iaload, 1) := by decide +kernel
theorem dX3_read_32 : decode cX3_read 32 = .ok (.invokevirtual 41, 3) := by decide +kernel
theorem dX3_read_35 : decode cX3_read 35 = .ok (.ifCond .ne 6, 3) := by decide +kernel
theorem dX3_read_38 : decode cX3_read 38 = .ok (.iload 4, 2) := by decide +kernel
theorem dX3_read_40 : decode cX3_read 40 = .ok (.ireturn, 1) := by decide +kernel
theorem dX3_read_41 : decode cX3_read 41 = .ok (.iinc 4 1, 3) := by decide +kernel
theorem dX3_read_44 : decode cX3_read 44 = .ok (.goto (-23), 3) := by decide +kernel
theorem dX3_read_47 : decode cX3_read 47 = .ok (.iload_n 2, 1) := by decide +kernel
theorem dX3_read_48 : decode cX3_read 48 = .ok (.ireturn, 1) := by decide +kernel
theorem dX3_endsList_0 : decode cX3_endsList 0 = .ok (.aload_n 0, 1) := by decide +kernel
theorem dX3_endsList_1 : decode cX3_endsList 1 = .ok (.getfield 22, 3) := by decide +kernel
theorem dX3_endsList_4 : decode cX3_endsList 4 = .ok (.bipush 9, 2) := by decide +kernel
theorem dX3_endsList_6 : decode cX3_endsList 6 = .ok (.if_icmp .eq 18, 3) := by decide +kernel
theorem dX3_endsList_9 : decode cX3_endsList 9 = .ok (.aload_n 0, 1) := by decide +kernel
theorem dX3_endsList_10 : decode cX3_endsList 10 = .ok (.getfield 22, 3) := by decide +kernel
theorem dX3_endsList_13 : decode cX3_endsList 13 = .ok (.iconst 4, 1) := by decide +kernel
theorem dX3_endsList_14 : decode cX3_endsList 14 = .ok (.if_icmp .ne 14, 3) := by decide +kernel
theorem dX3_endsList_17 : decode cX3_endsList 17 = .ok (.aload_n 0, 1) := by decide +kernel
theorem dX3_endsList_18 : decode cX3_endsList 18 = .ok (.getfield 28, 3) := by decide +kernel
theorem dX3_endsList_21 : decode cX3_endsList 21 = .ok (.ifCond .le 7, 3) := by decide +kernel
theorem dX3_endsList_24 : decode cX3_endsList 24 = .ok (.iconst 1, 1) := by decide +kernel
theorem dX3_endsList_25 : decode cX3_endsList 25 = .ok (.goto 4, 3) := by decide +kernel
theorem dX3_endsList_28 : decode cX3_endsList 28 = .ok (.iconst 0, 1) := by decide +kernel
theorem dX3_endsList_29 : decode cX3_endsList 29 = .ok (.ireturn, 1) := by decide +kernel
set_option maxRecDepth 20000 in
theorem ggX3_take_X3_takeFirstFace : GoodIn wsX3_take wsX3_takeFirstFace := goodIn_r _ [6, 7, 8, 9, 10, 1, 11, 12, 13, 14, 15, 16, 17, 18, 19, 20, 77, 78, 79, 80, 81, 82, 83, 84, 85, 86, 87, 88, 89] (by decide +kernel) (by decide +kernel)
set_option maxRecDepth 20000 in
theorem gX3_take_X3_takeFirstFace : GoodIn wsX3_take (wsV RX3 45 RX3 yX3_takeFirstFace wsX3_takeFirstFace) := goodIn_app (goodIn_of _ (by decide +kernel)) ggX3_take_X3_takeFirstFace
set_option maxRecDepth 20000 in
theorem ggX3_take_X3_takeSecondFace : GoodIn wsX3_take wsX3_takeSecondFace := goodIn_r _ [24, 7, 8, 25, 10, 26, 1, 77, 78, 79, 80, 81, 82, 83, 84, 85, 86, 87, 88, 89] (by decide +kernel) (by decide +kernel)
set_option maxRecDepth 20000 in
theorem gX3_take_X3_takeSecondFace : GoodIn wsX3_take (wsV RX3 48 RX3 yX3_takeSecondFace wsX3_takeSecondFace) := goodIn_app (goodIn_of _ (by decide +kernel)) ggX3_take_X3_takeSecondFace
set_option maxRecDepth 20000 in
theorem ggX3_take_X3_takeSign : GoodIn wsX3_take wsX3_takeSign := goodIn_r _ [30, 1, 77, 78, 79, 80, 81, 82, 83] (by decide +kernel) (by decide +kernel)
set_option maxRecDepth 20000 in
theorem gX3_take_X3_takeSign : GoodIn wsX3_take (wsV RX3 51 RX3 yX3_takeSign wsX3_takeSign) := goodIn_app (goodIn_of _ (by decide +kernel)) ggX3_take_X3_takeSign
set_option maxRecDepth 20000 in
theorem ggX3_take_X3_takeNominalStart : GoodIn wsX3_take wsX3_takeNominalStart := goodIn_r _ [34, 35, 36, 37, 5, 38, 39, 40, 41, 1, 42, 43, 44, 45, 8, 46, 10, 47, 48, 49, 50, 51, 52, 53, 54, 27, 28, 29, 30, 55, 56, 57, 58, 9, 77, 78, 79, 80, 81, 82, 83, 84, 85, 86, 87, 88, 89] (by decide +kernel) (by decide +kernel)
set_option maxRecDepth 20000 in
theorem gX3_take_X3_takeNominalStart : GoodIn wsX3_take (wsV RX3 55 RX3 yX3_takeNominalStart wsX3_takeNominalStart) := goodIn_app (goodIn_of _ (by decide +kernel)) ggX3_take_X3_takeNominalStart
set_option maxRecDepth 20000 in
theorem ggX3_take_X3_takeInNominal : GoodIn wsX3_take wsX3_takeInNominal := goodIn_r _ [45, 8, 46, 10, 40, 47, 48, 49, 5, 50, 41, 51, 52, 53, 54, 39, 27, 28, 29, 30, 1, 55, 56, 57, 58, 9, 77, 78, 79, 80, 81, 82, 83, 84, 85, 86, 87, 88, 89] (by decide +kernel) (by decide +kernel)
set_option maxRecDepth 20000 in
theorem gX3_take_X3_takeInNominal : GoodIn wsX3_take (wsV RX3 58 RX3 yX3_takeInNominal wsX3_takeInNominal) := goodIn_app (goodIn_of _ (by decide +kernel)) ggX3_take_X3_takeInNominal
set_option maxRecDepth 20000 in
theorem ggX3_take_X3_takeDeviationSign : GoodIn wsX3_take wsX3_takeDeviationSign := goodIn_r _ [62, 35, 36, 37, 5, 38, 39, 40, 41, 1, 77, 78, 79, 80, 81, 82, 83] (by decide +kernel) (by decide +kernel)
set_option maxRecDepth 20000 in
theorem gX3_take_X3_takeDeviationSign : GoodIn wsX3_take (wsV RX3 61 RX3 yX3_takeDeviationSign wsX3_takeDeviationSign) := goodIn_app (goodIn_of _ (by decide +kernel)) ggX3_take_X3_takeDeviationSign
set_option maxRecDepth 20000 in
theorem ggX3_take_X3_takeInLower : GoodIn wsX3_take wsX3_takeInLower := goodIn_r _ [66, 8, 67, 10, 40, 47, 48, 49, 5, 50, 41, 51, 52, 53, 54, 39, 27, 28, 29, 30, 1, 77, 78, 79, 80, 81, 82, 83, 84, 85, 86, 87, 88, 89] (by decide +kernel) (by decide +kernel)
set_option maxRecDepth 20000 in
theorem gX3_take_X3_takeInLower : GoodIn wsX3_take (wsV RX3 65 RX3 yX3_takeInLower wsX3_takeInLower) := goodIn_app (goodIn_of _ (by decide +kernel)) ggX3_take_X3_takeInLower
set_option maxRecDepth 20000 in
theorem ggX3_take_X3_takeInUpper : GoodIn wsX3_take wsX3_takeInUpper := goodIn_r _ [71, 8, 72, 10, 40, 47, 48, 49, 5, 50, 41, 51, 52, 53, 54, 39, 73, 74, 75, 14, 76, 20, 19, 27, 28, 29, 30, 1, 77, 78, 79, 80, 81, 82, 83, 84, 85, 86, 87, 88, 89] (by decide +kernel) (by decide +kernel)
set_option maxRecDepth 20000 in
theorem gX3_take_X3_takeInUpper : GoodIn wsX3_take (wsV RX3 68 RX3 yX3_takeInUpper wsX3_takeInUpper) := goodIn_app (goodIn_of _ (by decide +kernel)) ggX3_take_X3_takeInUpper
set_option maxRecDepth 20000 in
theorem ggX3_take_X3_takeSemicolon : GoodIn wsX3_take wsX3_takeSemicolon := goodIn_r _ [58, 8, 9, 27, 28, 29, 5, 30, 1, 77, 78, 79, 80, 81, 82, 83, 84, 85, 86, 87, 88, 89] (by decide +kernel) (by decide +kernel)
set_option maxRecDepth 20000 in
theorem gX3_take_X3_takeSemicolon : GoodIn wsX3_take (wsV RX3 71 RX3 yX3_takeSemicolon wsX3_takeSemicolon) := goodIn_app (goodIn_of _ (by decide +kernel)) ggX3_take_X3_takeSemicolon
theorem dX3_take_0 : decode cX3_take 0 = .ok (.aload_n 0, 1) := by decide +kernel
theorem dX3_take_1 : decode cX3_take 1 = .ok (.getfield 22, 3) := by decide +kernel
theorem dX3_take_4 : decode cX3_take 4 = .ok (.tableswitch 119 0 8 #[52, 61, 70, 79, 85, 91, 99, 105, 113], 52) := by decide +kernel
theorem dX3_take_56 : decode cX3_take 56 = .ok (.aload_n 0, 1) := by decide +kernel
theorem dX3_take_57 : decode cX3_take 57 = .ok (.iload_n 1, 1) := by decide +kernel
theorem dX3_take_58 : decode cX3_take 58 = .ok (.bipush 65, 2) := by decide +kernel
theorem dX3_take_60 : decode cX3_take 60 = .ok (.isub, 1) := by decide +kernel
theorem dX3_take_61 : decode cX3_take 61 = .ok (.invokevirtual 45, 3) := by decide +kernel
theorem dX3_take_64 : decode cX3_take 64 = .ok (.ireturn, 1) := by decide +kernel
theorem dX3_take_65 : decode cX3_take 65 = .ok (.aload_n 0, 1) := by decide +kernel
theorem dX3_take_66 : decode cX3_take 66 = .ok (.iload_n 1, 1) := by decide +kernel
theorem dX3_take_67 : decode cX3_take 67 = .ok (.bipush 65, 2) := by decide +kernel
theorem dX3_take_69 : decode cX3_take 69 = .ok (.isub, 1) := by decide +kernel
theorem dX3_take_70 : decode cX3_take 70 = .ok (.invokevirtual 48, 3) := by decide +kernel
theorem dX3_take_73 : decode cX3_take 73 = .ok (.ireturn, 1) := by decide +kernel
theorem dX3_take_74 : decode cX3_take 74 = .ok (.aload_n 0, 1) := by decide +kernel
theorem dX3_take_75 : decode cX3_take 75 = .ok (.iload_n 1, 1) := by decide +kernel
theorem dX3_take_76 : decode cX3_take 76 = .ok (.bipush 61, 2) := by decide +kernel
theorem dX3_take_78 : decode cX3_take 78 = .ok (.iconst 3, 1) := by decide +kernel
theorem dX3_take_79 : decode cX3_take 79 = .ok (.invokevirtual 51, 3) := by decide +kernel
theorem dX3_take_82 : decode cX3_take 82 = .ok (.ireturn, 1) := by decide +kernel
theorem dX3_take_83 : decode cX3_take 83 = .ok (.aload_n 0, 1) := by decide +kernel
theorem dX3_take_84 : decode cX3_take 84 = .ok (.iload_n 1, 1) := by decide +kernel
theorem dX3_take_85 : decode cX3_take 85 = .ok (.invokevirtual 55, 3) := by decide +kernel
theorem dX3_take_88 : decode cX3_take 88 = .ok (.ireturn, 1) := by decide +kernel
theorem dX3_take_89 : decode cX3_take 89 = .ok (.aload_n 0, 1) := by decide +kernel
theorem dX3_take_90 : decode cX3_take 90 = .ok (.iload_n 1, 1) := by decide +kernel
theorem dX3_take_91 : decode cX3_take 91 = .ok (.invokevirtual 58, 3) := by decide +kernel
theorem dX3_take_94 : decode cX3_take 94 = .ok (.ireturn, 1) := by decide +kernel
theorem dX3_take_95 : decode cX3_take 95 = .ok (.aload_n 0, 1) := by decide +kernel
theorem dX3_take_96 : decode cX3_take 96 = .ok (.iload_n 1, 1) := by decide +kernel
theorem dX3_take_97 : decode cX3_take 97 = .ok (.bipush 6, 2) := by decide +kernel
theorem dX3_take_99 : decode cX3_take 99 = .ok (.invokevirtual 61, 3) := by decide +kernel
theorem dX3_take_102 : decode cX3_take 102 = .ok (.ireturn, 1) := by decide +kernel
theorem dX3_take_103 : decode cX3_take 103 = .ok (.aload_n 0, 1) := by decide +kernel
theorem dX3_take_104 : decode cX3_take 104 = .ok (.iload_n 1, 1) := by decide +kernel
theorem dX3_take_105 : decode cX3_take 105 = .ok (.invokevirtual 65, 3) := by decide +kernel
theorem dX3_take_108 : decode cX3_take 108 = .ok (.ireturn, 1) := by decide +kernel
theorem dX3_take_109 : decode cX3_take 109 = .ok (.aload_n 0, 1) := by decide +kernel
theorem dX3_take_110 : decode cX3_take 110 = .ok (.iload_n 1, 1) := by decide +kernel
theorem dX3_take_111 : decode cX3_take 111 = .ok (.bipush 8, 2) := by decide +kernel
theorem dX3_take_113 : decode cX3_take 113 = .ok (.invokevirtual 61, 3) := by decide +kernel
theorem dX3_take_116 : decode cX3_take 116 = .ok (.ireturn, 1) := by decide +kernel
theorem dX3_take_117 : decode cX3_take 117 = .ok (.aload_n 0, 1) := by decide +kernel
theorem dX3_take_118 : decode cX3_take 118 = .ok (.iload_n 1, 1) := by decide +kernel
theorem dX3_take_119 : decode cX3_take 119 = .ok (.invokevirtual 68, 3) := by decide +kernel
theorem dX3_take_122 : decode cX3_take 122 = .ok (.ireturn, 1) := by decide +kernel
theorem dX3_take_123 : decode cX3_take 123 = .ok (.aload_n 0, 1) := by decide +kernel
theorem dX3_take_124 : decode cX3_take 124 = .ok (.iload_n 1, 1) := by decide +kernel
theorem dX3_take_125 : decode cX3_take 125 = .ok (.invokevirtual 71, 3) := by decide +kernel
theorem dX3_take_128 : decode cX3_take 128 = .ok (.ireturn, 1) := by decide +kernel
set_option maxRecDepth 20000 in
theorem ggX3_takeFirstFace_X1_put : GoodIn wsX3_takeFirstFace wsX1_put := goodIn_r _ [10, 11, 12, 13, 14, 15, 23, 24, 25, 26, 27, 28] (by decide +kernel) (by decide +kernel)
set_option maxRecDepth 20000 in
theorem gX3_takeFirstFace_X1_put : GoodIn wsX3_takeFirstFace (wsV RX3 74 RX1 yX1_put wsX1_put) := goodIn_app (goodIn_of _ (by decide +kernel)) ggX3_takeFirstFace_X1_put
theorem dX3_takeFirstFace_0 : decode cX3_takeFirstFace 0 = .ok (.iload_n 1, 1) := by decide +kernel
theorem dX3_takeFirstFace_1 : decode cX3_takeFirstFace 1 = .ok (.ifCond .lt 23, 3) := by decide +kernel
theorem dX3_takeFirstFace_4 : decode cX3_takeFirstFace 4 = .ok (.iload_n 1, 1) := by decide +kernel
theorem dX3_takeFirstFace_5 : decode cX3_takeFirstFace 5 = .ok (.aload_n 0, 1) := by decide +kernel
theorem dX3_takeFirstFace_6 : decode cX3_takeFirstFace 6 = .ok (.getfield 18, 3) := by decide +kernel
theorem dX3_takeFirstFace_9 : decode cX3_takeFirstFace 9 = .ok (.if_icmp .ge 15, 3) := by decide +kernel
theorem dX3_takeFirstFace_12 : decode cX3_takeFirstFace 12 = .ok (.aload_n 0, 1) := by decide +kernel
theorem dX3_takeFirstFace_13 : decode cX3_takeFirstFace 13 = .ok (.getfield 12, 3) := by decide +kernel
theorem dX3_takeFirstFace_16 : decode cX3_takeFirstFace 16 = .ok (.getfield 38, 3) := by decide +kernel
theorem dX3_takeFirstFace_19 : decode cX3_takeFirstFace 19 = .ok (.bipush 20, 2) := by decide +kernel
theorem dX3_takeFirstFace_21 : decode cX3_takeFirstFace 21 = .ok (.if_icmp .lt 5, 3) := by decide +kernel
theorem dX3_takeFirstFace_24 : decode cX3_takeFirstFace 24 = .ok (.iconst 0, 1) := by decide +kernel
theorem dX3_takeFirstFace_25 : decode cX3_takeFirstFace 25 = .ok (.ireturn, 1) := by decide +kernel
theorem dX3_takeFirstFace_26 : decode cX3_takeFirstFace 26 = .ok (.aload_n 0, 1) := by decide +kernel
theorem dX3_takeFirstFace_27 : decode cX3_takeFirstFace 27 = .ok (.aload_n 0, 1) := by decide +kernel
theorem dX3_takeFirstFace_28 : decode cX3_takeFirstFace 28 = .ok (.getfield 12, 3) := by decide +kernel
theorem dX3_takeFirstFace_31 : decode cX3_takeFirstFace 31 = .ok (.getfield 38, 3) := by decide +kernel
theorem dX3_takeFirstFace_34 : decode cX3_takeFirstFace 34 = .ok (.putfield 25, 3) := by decide +kernel
theorem dX3_takeFirstFace_37 : decode cX3_takeFirstFace 37 = .ok (.aload_n 0, 1) := by decide +kernel
theorem dX3_takeFirstFace_38 : decode cX3_takeFirstFace 38 = .ok (.getfield 12, 3) := by decide +kernel
theorem dX3_takeFirstFace_41 : decode cX3_takeFirstFace 41 = .ok (.aload_n 0, 1) := by decide +kernel
theorem dX3_takeFirstFace_42 : decode cX3_takeFirstFace 42 = .ok (.getfield 25, 3) := by decide +kernel
theorem dX3_takeFirstFace_45 : decode cX3_takeFirstFace 45 = .ok (.iconst 1, 1) := by decide +kernel
theorem dX3_takeFirstFace_46 : decode cX3_takeFirstFace 46 = .ok (.iadd, 1) := by decide +kernel
theorem dX3_takeFirstFace_47 : decode cX3_takeFirstFace 47 = .ok (.putfield 38, 3) := by decide +kernel
theorem dX3_takeFirstFace_50 : decode cX3_takeFirstFace 50 = .ok (.aload_n 0, 1) := by decide +kernel
theorem dX3_takeFirstFace_51 : decode cX3_takeFirstFace 51 = .ok (.getfield 12, 3) := by decide +kernel
theorem dX3_takeFirstFace_54 : decode cX3_takeFirstFace 54 = .ok (.aload_n 0, 1) := by decide +kernel
theorem dX3_takeFirstFace_55 : decode cX3_takeFirstFace 55 = .ok (.getfield 25, 3) := by decide +kernel
theorem dX3_takeFirstFace_58 : decode cX3_takeFirstFace 58 = .ok (.iload_n 1, 1) := by decide +kernel
theorem dX3_takeFirstFace_59 : decode cX3_takeFirstFace 59 = .ok (.iload_n 1, 1) := by decide +kernel
theorem dX3_takeFirstFace_60 : decode cX3_takeFirstFace 60 = .ok (.iconst 0, 1) := by decide +kernel
theorem dX3_takeFirstFace_61 : decode cX3_takeFirstFace 61 = .ok (.iconst 0, 1) := by decide +kernel
theorem dX3_takeFirstFace_62 : decode cX3_takeFirstFace 62 = .ok (.iconst 0, 1) := by decide +kernel
theorem dX3_takeFirstFace_63 : decode cX3_takeFirstFace 63 = .ok (.invokevirtual 74, 3) := by decide +kernel
theorem dX3_takeFirstFace_66 : decode cX3_takeFirstFace 66 = .ok (.aload_n 0, 1) := by decide +kernel
theorem dX3_takeFirstFace_67 : decode cX3_takeFirstFace 67 = .ok (.iconst 1, 1) := by decide +kernel
theorem dX3_takeFirstFace_68 : decode cX3_takeFirstFace 68 = .ok (.putfield 22, 3) := by decide +kernel
theorem dX3_takeFirstFace_71 : decode cX3_takeFirstFace 71 = .ok (.iconst 1, 1) := by decide +kernel
theorem dX3_takeFirstFace_72 : decode cX3_takeFirstFace 72 = .ok (.ireturn, 1) := by decide +kernel
theorem dX3_takeSecondFace_0 : decode cX3_takeSecondFace 0 = .ok (.iload_n 1, 1) := by decide +kernel
theorem dX3_takeSecondFace_1 : decode cX3_takeSecondFace 1 = .ok (.ifCond .lt 27, 3) := by decide +kernel
theorem dX3_takeSecondFace_4 : decode cX3_takeSecondFace 4 = .ok (.iload_n 1, 1) := by decide +kernel
theorem dX3_takeSecondFace_5 : decode cX3_takeSecondFace 5 = .ok (.aload_n 0, 1) := by decide +kernel
theorem dX3_takeSecondFace_6 : decode cX3_takeSecondFace 6 = .ok (.getfield 18, 3) := by decide +kernel
theorem dX3_takeSecondFace_9 : decode cX3_takeSecondFace 9 = .ok (.if_icmp .ge 19, 3) := by decide +kernel
theorem dX3_takeSecondFace_12 : decode cX3_takeSecondFace 12 = .ok (.iload_n 1, 1) := by decide +kernel
theorem dX3_takeSecondFace_13 : decode cX3_takeSecondFace 13 = .ok (.aload_n 0, 1) := by decide +kernel
theorem dX3_takeSecondFace_14 : decode cX3_takeSecondFace 14 = .ok (.getfield 12, 3) := by decide +kernel
theorem dX3_takeSecondFace_17 : decode cX3_takeSecondFace 17 = .ok (.getfield 78, 3) := by decide +kernel
theorem dX3_takeSecondFace_20 : decode cX3_takeSecondFace 20 = .ok (.aload_n 0, 1) := by decide +kernel
theorem dX3_takeSecondFace_21 : decode cX3_takeSecondFace 21 = .ok (.getfield 25, 3) := by decide +kernel
theorem dX3_takeSecondFace_24 : decode cX3_takeSecondFace 24 = .ok (.iaload, 1) := by decide +kernel
