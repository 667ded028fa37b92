theorem dX7_property_37 : decode cX7_property 37 = .ok (.iconst 0, 1) := by decide +kernel
theorem dX7_property_38 : decode cX7_property 38 = .ok (.goto 9, 3) := by decide +kernel
theorem dX7_property_41 : decode cX7_property 41 = .ok (.aload_n 0, 1) := by decide +kernel
theorem dX7_property_42 : decode cX7_property 42 = .ok (.iload_n 1, 1) := by decide +kernel
theorem dX7_property_43 : decode cX7_property 43 = .ok (.iload_n 2, 1) := by decide +kernel
theorem dX7_property_44 : decode cX7_property 44 = .ok (.invokevirtual 106, 3) := by decide +kernel
theorem dX7_property_47 : decode cX7_property 47 = .ok (.ireturn, 1) := by decide +kernel
theorem dX7_dimensionCount_0 : decode cX7_dimensionCount 0 = .ok (.aload_n 0, 1) := by decide +kernel
theorem dX7_dimensionCount_1 : decode cX7_dimensionCount 1 = .ok (.iconst 0, 1) := by decide +kernel
theorem dX7_dimensionCount_2 : decode cX7_dimensionCount 2 = .ok (.putfield 67, 3) := by decide +kernel
theorem dX7_dimensionCount_5 : decode cX7_dimensionCount 5 = .ok (.aload_n 0, 1) := by decide +kernel
theorem dX7_dimensionCount_6 : decode cX7_dimensionCount 6 = .ok (.getfield 74, 3) := by decide +kernel
theorem dX7_dimensionCount_9 : decode cX7_dimensionCount 9 = .ok (.ireturn, 1) := by decide +kernel
set_option maxRecDepth 20000 in
theorem ggX7_append_X7_within : GoodIn wsX7_append wsX7_within := goodIn_r _ [7] (by decide +kernel) (by decide +kernel)
set_option maxRecDepth 20000 in
theorem gX7_append_X7_within : GoodIn wsX7_append (va_wsS RX7 70 yX7_within wsX7_within) := goodIn_app (goodIn_of _ (by decide +kernel)) ggX7_append_X7_within
theorem dX7_append_0 : decode cX7_append 0 = .ok (.aload_n 0, 1) := by decide +kernel
theorem dX7_append_1 : decode cX7_append 1 = .ok (.iload_n 1, 1) := by decide +kernel
theorem dX7_append_2 : decode cX7_append 2 = .ok (.bipush 32, 2) := by decide +kernel
theorem dX7_append_4 : decode cX7_append 4 = .ok (.bipush 126, 2) := by decide +kernel
theorem dX7_append_6 : decode cX7_append 6 = .ok (.invokestatic 70, 3) := by decide +kernel
theorem dX7_append_9 : decode cX7_append 9 = .ok (.ifCond .ne 7, 3) := by decide +kernel
theorem dX7_append_12 : decode cX7_append 12 = .ok (.iconst 1, 1) := by decide +kernel
theorem dX7_append_13 : decode cX7_append 13 = .ok (.goto 17, 3) := by decide +kernel
theorem dX7_append_16 : decode cX7_append 16 = .ok (.aload_n 0, 1) := by decide +kernel
theorem dX7_append_17 : decode cX7_append 17 = .ok (.getfield 110, 3) := by decide +kernel
theorem dX7_append_20 : decode cX7_append 20 = .ok (.bipush 60, 2) := by decide +kernel
theorem dX7_append_22 : decode cX7_append 22 = .ok (.if_icmp .ne 7, 3) := by decide +kernel
theorem dX7_append_25 : decode cX7_append 25 = .ok (.iconst 2, 1) := by decide +kernel
theorem dX7_append_26 : decode cX7_append 26 = .ok (.goto 4, 3) := by decide +kernel
theorem dX7_append_29 : decode cX7_append 29 = .ok (.iconst 0, 1) := by decide +kernel
theorem dX7_append_30 : decode cX7_append 30 = .ok (.putfield 67, 3) := by decide +kernel
theorem dX7_append_33 : decode cX7_append 33 = .ok (.aload_n 0, 1) := by decide +kernel
theorem dX7_append_34 : decode cX7_append 34 = .ok (.getfield 67, 3) := by decide +kernel
theorem dX7_append_37 : decode cX7_append 37 = .ok (.ifCond .le 5, 3) := by decide +kernel
theorem dX7_append_40 : decode cX7_append 40 = .ok (.iconst 0, 1) := by decide +kernel
theorem dX7_append_41 : decode cX7_append 41 = .ok (.ireturn, 1) := by decide +kernel
theorem dX7_append_42 : decode cX7_append 42 = .ok (.aload_n 0, 1) := by decide +kernel
theorem dX7_append_43 : decode cX7_append 43 = .ok (.getfield 29, 3) := by decide +kernel
theorem dX7_append_46 : decode cX7_append 46 = .ok (.aload_n 0, 1) := by decide +kernel
theorem dX7_append_47 : decode cX7_append 47 = .ok (.getfield 110, 3) := by decide +kernel
theorem dX7_append_50 : decode cX7_append 50 = .ok (.iload_n 1, 1) := by decide +kernel
theorem dX7_append_51 : decode cX7_append 51 = .ok (.iastore, 1) := by decide +kernel
theorem dX7_append_52 : decode cX7_append 52 = .ok (.aload_n 0, 1) := by decide +kernel
theorem dX7_append_53 : decode cX7_append 53 = .ok (.dup, 1) := by decide +kernel
theorem dX7_append_54 : decode cX7_append 54 = .ok (.getfield 110, 3) := by decide +kernel
theorem dX7_append_57 : decode cX7_append 57 = .ok (.iconst 1, 1) := by decide +kernel
theorem dX7_append_58 : decode cX7_append 58 = .ok (.iadd, 1) := by decide +kernel
theorem dX7_append_59 : decode cX7_append 59 = .ok (.putfield 110, 3) := by decide +kernel
theorem dX7_append_62 : decode cX7_append 62 = .ok (.aload_n 0, 1) := by decide +kernel
theorem dX7_append_63 : decode cX7_append 63 = .ok (.getfield 110, 3) := by decide +kernel
theorem dX7_append_66 : decode cX7_append 66 = .ok (.ireturn, 1) := by decide +kernel
theorem dX7_clearInput_0 : decode cX7_clearInput 0 = .ok (.aload_n 0, 1) := by decide +kernel
theorem dX7_clearInput_1 : decode cX7_clearInput 1 = .ok (.iconst 0, 1) := by decide +kernel
theorem dX7_clearInput_2 : decode cX7_clearInput 2 = .ok (.putfield 67, 3) := by decide +kernel
theorem dX7_clearInput_5 : decode cX7_clearInput 5 = .ok (.aload_n 0, 1) := by decide +kernel
theorem dX7_clearInput_6 : decode cX7_clearInput 6 = .ok (.getfield 110, 3) := by decide +kernel
theorem dX7_clearInput_9 : decode cX7_clearInput 9 = .ok (.istore_n 1, 1) := by decide +kernel
theorem dX7_clearInput_10 : decode cX7_clearInput 10 = .ok (.aload_n 0, 1) := by decide +kernel
theorem dX7_clearInput_11 : decode cX7_clearInput 11 = .ok (.iconst 0, 1) := by decide +kernel
theorem dX7_clearInput_12 : decode cX7_clearInput 12 = .ok (.putfield 110, 3) := by decide +kernel
theorem dX7_clearInput_15 : decode cX7_clearInput 15 = .ok (.iload_n 1, 1) := by decide +kernel
theorem dX7_clearInput_16 : decode cX7_clearInput 16 = .ok (.ireturn, 1) := by decide +kernel
set_option maxRecDepth 20000 in
theorem ggX7_takesDigit_X7_within : GoodIn wsX7_takesDigit wsX7_within := goodIn_r _ [6] (by decide +kernel) (by decide +kernel)
set_option maxRecDepth 20000 in
theorem gX7_takesDigit_X7_within : GoodIn wsX7_takesDigit (va_wsS RX7 70 yX7_within wsX7_within) := goodIn_app (goodIn_of _ (by decide +kernel)) ggX7_takesDigit_X7_within
theorem dX7_takesDigit_0 : decode cX7_takesDigit 0 = .ok (.iload_n 1, 1) := by decide +kernel
theorem dX7_takesDigit_1 : decode cX7_takesDigit 1 = .ok (.bipush 48, 2) := by decide +kernel
theorem dX7_takesDigit_3 : decode cX7_takesDigit 3 = .ok (.bipush 57, 2) := by decide +kernel
theorem dX7_takesDigit_5 : decode cX7_takesDigit 5 = .ok (.invokestatic 70, 3) := by decide +kernel
theorem dX7_takesDigit_8 : decode cX7_takesDigit 8 = .ok (.ifCond .eq 11, 3) := by decide +kernel
theorem dX7_takesDigit_11 : decode cX7_takesDigit 11 = .ok (.aload_n 0, 1) := by decide +kernel
theorem dX7_takesDigit_12 : decode cX7_takesDigit 12 = .ok (.getfield 113, 3) := by decide +kernel
theorem dX7_takesDigit_15 : decode cX7_takesDigit 15 = .ok (.iload_n 2, 1) := by decide +kernel
theorem dX7_takesDigit_16 : decode cX7_takesDigit 16 = .ok (.if_icmp .ne 5, 3) := by decide +kernel
theorem dX7_takesDigit_19 : decode cX7_takesDigit 19 = .ok (.iconst 0, 1) := by decide +kernel
theorem dX7_takesDigit_20 : decode cX7_takesDigit 20 = .ok (.ireturn, 1) := by decide +kernel
theorem dX7_takesDigit_21 : decode cX7_takesDigit 21 = .ok (.aload_n 0, 1) := by decide +kernel
theorem dX7_takesDigit_22 : decode cX7_takesDigit 22 = .ok (.bipush 10, 2) := by decide +kernel
theorem dX7_takesDigit_24 : decode cX7_takesDigit 24 = .ok (.aload_n 0, 1) := by decide +kernel
theorem dX7_takesDigit_25 : decode cX7_takesDigit 25 = .ok (.getfield 116, 3) := by decide +kernel
theorem dX7_takesDigit_28 : decode cX7_takesDigit 28 = .ok (.imul, 1) := by decide +kernel
theorem dX7_takesDigit_29 : decode cX7_takesDigit 29 = .ok (.iload_n 1, 1) := by decide +kernel
theorem dX7_takesDigit_30 : decode cX7_takesDigit 30 = .ok (.iadd, 1) := by decide +kernel
theorem dX7_takesDigit_31 : decode cX7_takesDigit 31 = .ok (.bipush 48, 2) := by decide +kernel
theorem dX7_takesDigit_33 : decode cX7_takesDigit 33 = .ok (.isub, 1) := by decide +kernel
theorem dX7_takesDigit_34 : decode cX7_takesDigit 34 = .ok (.putfield 116, 3) := by decide +kernel
theorem dX7_takesDigit_37 : decode cX7_takesDigit 37 = .ok (.aload_n 0, 1) := by decide +kernel
theorem dX7_takesDigit_38 : decode cX7_takesDigit 38 = .ok (.dup, 1) := by decide +kernel
theorem dX7_takesDigit_39 : decode cX7_takesDigit 39 = .ok (.getfield 113, 3) := by decide +kernel
theorem dX7_takesDigit_42 : decode cX7_takesDigit 42 = .ok (.iconst 1, 1) := by decide +kernel
theorem dX7_takesDigit_43 : decode cX7_takesDigit 43 = .ok (.iadd, 1) := by decide +kernel
theorem dX7_takesDigit_44 : decode cX7_takesDigit 44 = .ok (.putfield 113, 3) := by decide +kernel
theorem dX7_takesDigit_47 : decode cX7_takesDigit 47 = .ok (.iconst 1, 1) := by decide +kernel
theorem dX7_takesDigit_48 : decode cX7_takesDigit 48 = .ok (.ireturn, 1) := by decide +kernel
theorem dX7_signed_0 : decode cX7_signed 0 = .ok (.aload_n 0, 1) := by decide +kernel
theorem dX7_signed_1 : decode cX7_signed 1 = .ok (.getfield 119, 3) := by decide +kernel
theorem dX7_signed_4 : decode cX7_signed 4 = .ok (.ifCond .eq 11, 3) := by decide +kernel
theorem dX7_signed_7 : decode cX7_signed 7 = .ok (.aload_n 0, 1) := by decide +kernel
theorem dX7_signed_8 : decode cX7_signed 8 = .ok (.getfield 116, 3) := by decide +kernel
theorem dX7_signed_11 : decode cX7_signed 11 = .ok (.ineg, 1) := by decide +kernel
theorem dX7_signed_12 : decode cX7_signed 12 = .ok (.goto 7, 3) := by decide +kernel
theorem dX7_signed_15 : decode cX7_signed 15 = .ok (.aload_n 0, 1) := by decide +kernel
theorem dX7_signed_16 : decode cX7_signed 16 = .ok (.getfield 116, 3) := by decide +kernel
theorem dX7_signed_19 : decode cX7_signed 19 = .ok (.ireturn, 1) := by decide +kernel
theorem dX7_begin_0 : decode cX7_begin 0 = .ok (.aload_n 0, 1) := by decide +kernel
theorem dX7_begin_1 : decode cX7_begin 1 = .ok (.iload_n 1, 1) := by decide +kernel
theorem dX7_begin_2 : decode cX7_begin 2 = .ok (.putfield 119, 3) := by decide +kernel
theorem dX7_begin_5 : decode cX7_begin 5 = .ok (.aload_n 0, 1) := by decide +kernel
theorem dX7_begin_6 : decode cX7_begin 6 = .ok (.iconst 0, 1) := by decide +kernel
theorem dX7_begin_7 : decode cX7_begin 7 = .ok (.putfield 113, 3) := by decide +kernel
theorem dX7_begin_10 : decode cX7_begin 10 = .ok (.aload_n 0, 1) := by decide +kernel
theorem dX7_begin_11 : decode cX7_begin 11 = .ok (.iconst 0, 1) := by decide +kernel
theorem dX7_begin_12 : decode cX7_begin 12 = .ok (.putfield 116, 3) := by decide +kernel
theorem dX7_begin_15 : decode cX7_begin 15 = .ok (.return_, 1) := by decide +kernel
theorem dX7_goesOn_0 : decode cX7_goesOn 0 = .ok (.aload_n 0, 1) := by decide +kernel
theorem dX7_goesOn_1 : decode cX7_goesOn 1 = .ok (.dup, 1) := by decide +kernel
theorem dX7_goesOn_2 : decode cX7_goesOn 2 = .ok (.getfield 123, 3) := by decide +kernel
theorem dX7_goesOn_5 : decode cX7_goesOn 5 = .ok (.iconst 1, 1) := by decide +kernel
theorem dX7_goesOn_6 : decode cX7_goesOn 6 = .ok (.iadd, 1) := by decide +kernel
theorem dX7_goesOn_7 : decode cX7_goesOn 7 = .ok (.putfield 123, 3) := by decide +kernel
theorem dX7_goesOn_10 : decode cX7_goesOn 10 = .ok (.aload_n 0, 1) := by decide +kernel
theorem dX7_goesOn_11 : decode cX7_goesOn 11 = .ok (.iconst 0, 1) := by decide +kernel
theorem dX7_goesOn_12 : decode cX7_goesOn 12 = .ok (.putfield 126, 3) := by decide +kernel
theorem dX7_goesOn_15 : decode cX7_goesOn 15 = .ok (.aload_n 0, 1) := by decide +kernel
theorem dX7_goesOn_16 : decode cX7_goesOn 16 = .ok (.getfield 123, 3) := by decide +kernel
theorem dX7_goesOn_19 : decode cX7_goesOn 19 = .ok (.bipush 20, 2) := by decide +kernel
theorem dX7_goesOn_21 : decode cX7_goesOn 21 = .ok (.if_icmp .ge 7, 3) := by decide +kernel
theorem dX7_goesOn_24 : decode cX7_goesOn 24 = .ok (.iconst 1, 1) := by decide +kernel
theorem dX7_goesOn_25 : decode cX7_goesOn 25 = .ok (.goto 4, 3) := by decide +kernel
theorem dX7_goesOn_28 : decode cX7_goesOn 28 = .ok (.iconst 0, 1) := by decide +kernel
theorem dX7_goesOn_29 : decode cX7_goesOn 29 = .ok (.ireturn, 1) := by decide +kernel
set_option maxRecDepth 20000 in
theorem ggX7_takesNominal_X7_begin : GoodIn wsX7_takesNominal wsX7_begin := goodIn_r _ [10, 11, 12, 13, 29, 30, 31, 32, 33, 34, 35, 36, 37, 38, 39, 40, 41, 42, 43, 44, 45, 46, 47, 48, 49, 50, 51, 52, 53, 54, 55, 56, 57, 58, 59, 60, 61, 62] (by decide +kernel) (by decide +kernel)
set_option maxRecDepth 20000 in
theorem gX7_takesNominal_X7_begin : GoodIn wsX7_takesNominal (wsV RX7 129 RX7 yX7_begin wsX7_begin) := goodIn_app (goodIn_of _ (by decide +kernel)) ggX7_takesNominal_X7_begin
set_option maxRecDepth 20000 in
theorem ggX7_takesNominal_X7_takesDigit : GoodIn wsX7_takesNominal wsX7_takesDigit := goodIn_r _ [17, 12, 13, 18, 19, 9, 20, 29, 30, 31, 32, 33, 34, 35, 36, 37, 38, 39, 40, 41, 42, 43, 44, 45, 46, 47, 48, 49, 50, 51, 52, 53, 54, 55, 56, 57, 58, 59, 60, 61, 62] (by decide +kernel) (by decide +kernel)
set_option maxRecDepth 20000 in
theorem gX7_takesNominal_X7_takesDigit : GoodIn wsX7_takesNominal (wsV RX7 133 RX7 yX7_takesDigit wsX7_takesDigit) := goodIn_app (goodIn_of _ (by decide +kernel)) ggX7_takesNominal_X7_takesDigit
set_option maxRecDepth 20000 in
theorem ggX7_takesNominal_X7_signed : GoodIn wsX7_takesNominal wsX7_signed := goodIn_r _ [24, 11, 13, 29, 30, 31, 32, 33, 34, 35, 36, 37, 38, 39, 40, 41, 42, 43, 44, 45, 46, 47, 48, 49, 50, 51, 52, 53, 54, 55, 56, 57, 58, 59, 60, 61, 62] (by decide +kernel) (by decide +kernel)
set_option maxRecDepth 20000 in
theorem gX7_takesNominal_X7_signed : GoodIn wsX7_takesNominal (wsV RX7 136 RX7 yX7_signed wsX7_signed) := goodIn_app (goodIn_of _ (by decide +kernel)) ggX7_takesNominal_X7_signed
set_option maxRecDepth 20000 in
theorem ggX7_takesNominal_X7_goesOn : GoodIn wsX7_takesNominal wsX7_goesOn := goodIn_r _ [28, 3, 1, 29, 30, 31, 32, 33, 34, 35, 36, 37, 38, 39, 40, 41, 42, 43, 44, 45, 46, 47, 48, 49, 50, 51, 52, 53, 54, 55, 56, 57, 58, 59, 60, 61, 62] (by decide +kernel) (by decide +kernel)
set_option maxRecDepth 20000 in
theorem gX7_takesNominal_X7_goesOn : GoodIn wsX7_takesNominal (wsV RX7 140 RX7 yX7_goesOn wsX7_goesOn) := goodIn_app (goodIn_of _ (by decide +kernel)) ggX7_takesNominal_X7_goesOn
theorem dX7_takesNominal_0 : decode cX7_takesNominal 0 = .ok (.aload_n 0, 1) := by decide +kernel
theorem dX7_takesNominal_1 : decode cX7_takesNominal 1 = .ok (.getfield 126, 3) := by decide +kernel
theorem dX7_takesNominal_4 : decode cX7_takesNominal 4 = .ok (.iconst 3, 1) := by decide +kernel
theorem dX7_takesNominal_5 : decode cX7_takesNominal 5 = .ok (.if_icmp .ne 21, 3) := by decide +kernel
theorem dX7_takesNominal_8 : decode cX7_takesNominal 8 = .ok (.iload_n 1, 1) := by decide +kernel
theorem dX7_takesNominal_9 : decode cX7_takesNominal 9 = .ok (.bipush 45, 2) := by decide +kernel
theorem dX7_takesNominal_11 : decode cX7_takesNominal 11 = .ok (.if_icmp .ne 15, 3) := by decide +kernel
theorem dX7_takesNominal_14 : decode cX7_takesNominal 14 = .ok (.aload_n 0, 1) := by decide +kernel
theorem dX7_takesNominal_15 : decode cX7_takesNominal 15 = .ok (.iconst 1, 1) := by decide +kernel
theorem dX7_takesNominal_16 : decode cX7_takesNominal 16 = .ok (.invokevirtual 129, 3) := by decide +kernel
theorem dX7_takesNominal_19 : decode cX7_takesNominal 19 = .ok (.aload_n 0, 1) := by decide +kernel
theorem dX7_takesNominal_20 : decode cX7_takesNominal 20 = .ok (.iconst 4, 1) := by decide +kernel
theorem dX7_takesNominal_21 : decode cX7_takesNominal 21 = .ok (.putfield 126, 3) := by decide +kernel
theorem dX7_takesNominal_24 : decode cX7_takesNominal 24 = .ok (.iconst 1, 1) := by decide +kernel
theorem dX7_takesNominal_25 : decode cX7_takesNominal 25 = .ok (.ireturn, 1) := by decide +kernel
theorem dX7_takesNominal_26 : decode cX7_takesNominal 26 = .ok (.aload_n 0, 1) := by decide +kernel
theorem dX7_takesNominal_27 : decode cX7_takesNominal 27 = .ok (.getfield 126, 3) := by decide +kernel
theorem dX7_takesNominal_30 : decode cX7_takesNominal 30 = .ok (.iconst 3, 1) := by decide +kernel
theorem dX7_takesNominal_31 : decode cX7_takesNominal 31 = .ok (.if_icmp .ne 8, 3) := by decide +kernel
theorem dX7_takesNominal_34 : decode cX7_takesNominal 34 = .ok (.aload_n 0, 1) := by decide +kernel
theorem dX7_takesNominal_35 : decode cX7_takesNominal 35 = .ok (.iconst 0, 1) := by decide +kernel
theorem dX7_takesNominal_36 : decode cX7_takesNominal 36 = .ok (.invokevirtual 129, 3) := by decide +kernel
theorem dX7_takesNominal_39 : decode cX7_takesNominal 39 = .ok (.aload_n 0, 1) := by decide +kernel
theorem dX7_takesNominal_40 : decode cX7_takesNominal 40 = .ok (.iload_n 1, 1) := by decide +kernel
theorem dX7_takesNominal_41 : decode cX7_takesNominal 41 = .ok (.iconst 5, 1) := by decide +kernel
theorem dX7_takesNominal_42 : decode cX7_takesNominal 42 = .ok (.invokevirtual 133, 3) := by decide +kernel
theorem dX7_takesNominal_45 : decode cX7_takesNominal 45 = .ok (.istore_n 2, 1) := by decide +kernel
theorem dX7_takesNominal_46 : decode cX7_takesNominal 46 = .ok (.iload_n 2, 1) := by decide +kernel
theorem dX7_takesNominal_47 : decode cX7_takesNominal 47 = .ok (.ifCond .eq 43, 3) := by decide +kernel
theorem dX7_takesNominal_50 : decode cX7_takesNominal 50 = .ok (.aload_n 0, 1) := by decide +kernel
theorem dX7_takesNominal_51 : decode cX7_takesNominal 51 = .ok (.iconst 5, 1) := by decide +kernel
theorem dX7_takesNominal_52 : decode cX7_takesNominal 52 = .ok (.putfield 126, 3) := by decide +kernel
theorem dX7_takesNominal_55 : decode cX7_takesNominal 55 = .ok (.aload_n 0, 1) := by decide +kernel
theorem dX7_takesNominal_56 : decode cX7_takesNominal 56 = .ok (.getfield 38, 3) := by decide +kernel
theorem dX7_takesNominal_59 : decode cX7_takesNominal 59 = .ok (.aload_n 0, 1) := by decide +kernel
theorem dX7_takesNominal_60 : decode cX7_takesNominal 60 = .ok (.getfield 123, 3) := by decide +kernel
theorem dX7_takesNominal_63 : decode cX7_takesNominal 63 = .ok (.aload_n 0, 1) := by decide +kernel
theorem dX7_takesNominal_64 : decode cX7_takesNominal 64 = .ok (.invokevirtual 136, 3) := by decide +kernel
theorem dX7_takesNominal_67 : decode cX7_takesNominal 67 = .ok (.iastore, 1) := by decide +kernel
theorem dX7_takesNominal_68 : decode cX7_takesNominal 68 = .ok (.aload_n 0, 1) := by decide +kernel
theorem dX7_takesNominal_69 : decode cX7_takesNominal 69 = .ok (.getfield 41, 3) := by decide +kernel
theorem dX7_takesNominal_72 : decode cX7_takesNominal 72 = .ok (.aload_n 0, 1) := by decide +kernel
theorem dX7_takesNominal_73 : decode cX7_takesNominal 73 = .ok (.getfield 123, 3) := by decide +kernel
theorem dX7_takesNominal_76 : decode cX7_takesNominal 76 = .ok (.iconst 0, 1) := by decide +kernel
theorem dX7_takesNominal_77 : decode cX7_takesNominal 77 = .ok (.iastore, 1) := by decide +kernel
theorem dX7_takesNominal_78 : decode cX7_takesNominal 78 = .ok (.aload_n 0, 1) := by decide +kernel
theorem dX7_takesNominal_79 : decode cX7_takesNominal 79 = .ok (.getfield 44, 3) := by decide +kernel
theorem dX7_takesNominal_82 : decode cX7_takesNominal 82 = .ok (.aload_n 0, 1) := by decide +kernel
theorem dX7_takesNominal_83 : decode cX7_takesNominal 83 = .ok (.getfield 123, 3) := by decide +kernel
theorem dX7_takesNominal_86 : decode cX7_takesNominal 86 = .ok (.iconst 0, 1) := by decide +kernel
theorem dX7_takesNominal_87 : decode cX7_takesNominal 87 = .ok (.iastore, 1) := by decide +kernel
theorem dX7_takesNominal_88 : decode cX7_takesNominal 88 = .ok (.iconst 1, 1) := by decide +kernel
theorem dX7_takesNominal_89 : decode cX7_takesNominal 89 = .ok (.ireturn, 1) := by decide +kernel
theorem dX7_takesNominal_90 : decode cX7_takesNominal 90 = .ok (.aload_n 0, 1) := by decide +kernel
theorem dX7_takesNominal_91 : decode cX7_takesNominal 91 = .ok (.getfield 126, 3) := by decide +kernel
theorem dX7_takesNominal_94 : decode cX7_takesNominal 94 = .ok (.iconst 5, 1) := by decide +kernel
theorem dX7_takesNominal_95 : decode cX7_takesNominal 95 = .ok (.if_icmp .ge 5, 3) := by decide +kernel
theorem dX7_takesNominal_98 : decode cX7_takesNominal 98 = .ok (.iconst 0, 1) := by decide +kernel
theorem dX7_takesNominal_99 : decode cX7_takesNominal 99 = .ok (.ireturn, 1) := by decide +kernel
theorem dX7_takesNominal_100 : decode cX7_takesNominal 100 = .ok (.iload_n 1, 1) := by decide +kernel
theorem dX7_takesNominal_101 : decode cX7_takesNominal 101 = .ok (.bipush 59, 2) := by decide +kernel
theorem dX7_takesNominal_103 : decode cX7_takesNominal 103 = .ok (.if_icmp .ne 8, 3) := by decide +kernel
theorem dX7_takesNominal_106 : decode cX7_takesNominal 106 = .ok (.aload_n 0, 1) := by decide +kernel
theorem dX7_takesNominal_107 : decode cX7_takesNominal 107 = .ok (.invokevirtual 140, 3) := by decide +kernel
theorem dX7_takesNominal_110 : decode cX7_takesNominal 110 = .ok (.ireturn, 1) := by decide +kernel
theorem dX7_takesNominal_111 : decode cX7_takesNominal 111 = .ok (.aload_n 0, 1) := by decide +kernel
theorem dX7_takesNominal_112 : decode cX7_takesNominal 112 = .ok (.bipush 6, 2) := by decide +kernel
theorem dX7_takesNominal_114 : decode cX7_takesNominal 114 = .ok (.putfield 126, 3) := by decide +kernel
theorem dX7_takesNominal_117 : decode cX7_takesNominal 117 = .ok (.iload_n 1, 1) := by decide +kernel
theorem dX7_takesNominal_118 : decode cX7_takesNominal 118 = .ok (.bipush 91, 2) := by decide +kernel
theorem dX7_takesNominal_120 : decode cX7_takesNominal 120 = .ok (.if_icmp .ne 7, 3) := by decide +kernel
theorem dX7_takesNominal_123 : decode cX7_takesNominal 123 = .ok (.iconst 1, 1) := by decide +kernel
theorem dX7_takesNominal_124 : decode cX7_takesNominal 124 = .ok (.goto 4, 3) := by decide +kernel
theorem dX7_takesNominal_127 : decode cX7_takesNominal 127 = .ok (.iconst 0, 1) := by decide +kernel
theorem dX7_takesNominal_128 : decode cX7_takesNominal 128 = .ok (.ireturn, 1) := by decide +kernel
set_option maxRecDepth 20000 in
theorem ggX7_takesDeviation_X7_begin : GoodIn wsX7_takesDeviation wsX7_begin := goodIn_r _ [9, 10, 11, 12, 24, 25, 26, 27, 28, 29, 30, 31, 32, 33, 34, 35, 36, 37, 38, 39, 40, 41, 42, 43, 44, 45, 46, 47, 48, 49, 50, 51, 52, 53, 54, 55, 56, 57] (by decide +kernel) (by decide +kernel)
set_option maxRecDepth 20000 in
theorem gX7_takesDeviation_X7_begin : GoodIn wsX7_takesDeviation (wsV RX7 129 RX7 yX7_begin wsX7_begin) := goodIn_app (goodIn_of _ (by decide +kernel)) ggX7_takesDeviation_X7_begin
set_option maxRecDepth 20000 in
theorem ggX7_takesDeviation_X7_takesDigit : GoodIn wsX7_takesDeviation wsX7_takesDigit := goodIn_r _ [16, 11, 12, 17, 18, 8, 19, 24, 25, 26, 27, 28, 29, 30, 31, 32, 33, 34, 35, 36, 37, 38, 39, 40, 41, 42, 43, 44, 45, 46, 47, 48, 49, 50, 51, 52, 53, 54, 55, 56, 57] (by decide +kernel) (by decide +kernel)
set_option maxRecDepth 20000 in
theorem gX7_takesDeviation_X7_takesDigit : GoodIn wsX7_takesDeviation (wsV RX7 133 RX7 yX7_takesDigit wsX7_takesDigit) := goodIn_app (goodIn_of _ (by decide +kernel)) ggX7_takesDeviation_X7_takesDigit
set_option maxRecDepth 20000 in
theorem ggX7_takesDeviation_X7_signed : GoodIn wsX7_takesDeviation wsX7_signed := goodIn_r _ [23, 10, 12, 24, 25, 26, 27, 28, 29, 30, 31, 32, 33, 34, 35, 36, 37, 38, 39, 40, 41, 42, 43, 44, 45, 46, 47, 48, 49, 50, 51, 52, 53, 54, 55, 56, 57] (by decide +kernel) (by decide +kernel)
set_option maxRecDepth 20000 in
theorem gX7_takesDeviation_X7_signed : GoodIn wsX7_takesDeviation (wsV RX7 136 RX7 yX7_signed wsX7_signed) := goodIn_app (goodIn_of _ (by decide +kernel)) ggX7_takesDeviation_X7_signed
theorem dX7_takesDeviation_0 : decode cX7_takesDeviation 0 = .ok (.aload_n 0, 1) := by decide +kernel
theorem dX7_takesDeviation_1 : decode cX7_takesDeviation 1 = .ok (.getfield 126, 3) := by decide +kernel
theorem dX7_takesDeviation_4 : decode cX7_takesDeviation 4 = .ok (.bipush 6, 2) := by decide +kernel
theorem dX7_takesDeviation_6 : decode cX7_takesDeviation 6 = .ok (.if_icmp .eq 12, 3) := by decide +kernel
theorem dX7_takesDeviation_9 : decode cX7_takesDeviation 9 = .ok (.aload_n 0, 1) := by decide +kernel
theorem dX7_takesDeviation_10 : decode cX7_takesDeviation 10 = .ok (.getfield 126, 3) := by decide +kernel
theorem dX7_takesDeviation_13 : decode cX7_takesDeviation 13 = .ok (.bipush 9, 2) := by decide +kernel
theorem dX7_takesDeviation_15 : decode cX7_takesDeviation 15 = .ok (.if_icmp .ne 46, 3) := by decide +kernel
theorem dX7_takesDeviation_18 : decode cX7_takesDeviation 18 = .ok (.aload_n 0, 1) := by decide +kernel
theorem dX7_takesDeviation_19 : decode cX7_takesDeviation 19 = .ok (.iload_n 1, 1) := by decide +kernel
theorem dX7_takesDeviation_20 : decode cX7_takesDeviation 20 = .ok (.bipush 45, 2) := by decide +kernel
theorem dX7_takesDeviation_22 : decode cX7_takesDeviation 22 = .ok (.if_icmp .ne 7, 3) := by decide +kernel
theorem dX7_takesDeviation_25 : decode cX7_takesDeviation 25 = .ok (.iconst 1, 1) := by decide +kernel
theorem dX7_takesDeviation_26 : decode cX7_takesDeviation 26 = .ok (.goto 4, 3) := by decide +kernel
theorem dX7_takesDeviation_29 : decode cX7_takesDeviation 29 = .ok (.iconst 0, 1) := by decide +kernel
theorem dX7_takesDeviation_30 : decode cX7_takesDeviation 30 = .ok (.invokevirtual 129, 3) := by decide +kernel
theorem dX7_takesDeviation_33 : decode cX7_takesDeviation 33 = .ok (.aload_n 0, 1) := by decide +kernel
theorem dX7_takesDeviation_34 : decode cX7_takesDeviation 34 = .ok (.dup, 1) := by decide +kernel
theorem dX7_takesDeviation_35 : decode cX7_takesDeviation 35 = .ok (.getfield 126, 3) := by decide +kernel
theorem dX7_takesDeviation_38 : decode cX7_takesDeviation 38 = .ok (.iconst 1, 1) := by decide +kernel
theorem dX7_takesDeviation_39 : decode cX7_takesDeviation 39 = .ok (.iadd, 1) := by decide +kernel
theorem dX7_takesDeviation_40 : decode cX7_takesDeviation 40 = .ok (.putfield 126, 3) := by decide +kernel
theorem dX7_takesDeviation_43 : decode cX7_takesDeviation 43 = .ok (.iload_n 1, 1) := by decide +kernel
theorem dX7_takesDeviation_44 : decode cX7_takesDeviation 44 = .ok (.bipush 43, 2) := by decide +kernel
theorem dX7_takesDeviation_46 : decode cX7_takesDeviation 46 = .ok (.if_icmp .eq 9, 3) := by decide +kernel
theorem dX7_takesDeviation_49 : decode cX7_takesDeviation 49 = .ok (.iload_n 1, 1) := by decide +kernel
theorem dX7_takesDeviation_50 : decode cX7_takesDeviation 50 = .ok (.bipush 45, 2) := by decide +kernel
theorem dX7_takesDeviation_52 : decode cX7_takesDeviation 52 = .ok (.if_icmp .ne 7, 3) := by decide +kernel
theorem dX7_takesDeviation_55 : decode cX7_takesDeviation 55 = .ok (.iconst 1, 1) := by decide +kernel
theorem dX7_takesDeviation_56 : decode cX7_takesDeviation 56 = .ok (.goto 4, 3) := by decide +kernel
theorem dX7_takesDeviation_59 : decode cX7_takesDeviation 59 = .ok (.iconst 0, 1) := by decide +kernel
theorem dX7_takesDeviation_60 : decode cX7_takesDeviation 60 = .ok (.ireturn, 1) := by decide +kernel
theorem dX7_takesDeviation_61 : decode cX7_takesDeviation 61 = .ok (.aload_n 0, 1) := by decide +kernel
theorem dX7_takesDeviation_62 : decode cX7_takesDeviation 62 = .ok (.iload_n 1, 1) := by decide +kernel
theorem dX7_takesDeviation_63 : decode cX7_takesDeviation 63 = .ok (.iconst 3, 1) := by decide +kernel
theorem dX7_takesDeviation_64 : decode cX7_takesDeviation 64 = .ok (.invokevirtual 133, 3) := by decide +kernel
theorem dX7_takesDeviation_67 : decode cX7_takesDeviation 67 = .ok (.ifCond .eq 25, 3) := by decide +kernel
theorem dX7_takesDeviation_70 : decode cX7_takesDeviation 70 = .ok (.aload_n 0, 1) := by decide +kernel
theorem dX7_takesDeviation_71 : decode cX7_takesDeviation 71 = .ok (.aload_n 0, 1) := by decide +kernel
theorem dX7_takesDeviation_72 : decode cX7_takesDeviation 72 = .ok (.getfield 126, 3) := by decide +kernel
theorem dX7_takesDeviation_75 : decode cX7_takesDeviation 75 = .ok (.bipush 9, 2) := by decide +kernel
theorem dX7_takesDeviation_77 : decode cX7_takesDeviation 77 = .ok (.if_icmp .ge 8, 3) := by decide +kernel
theorem dX7_takesDeviation_80 : decode cX7_takesDeviation 80 = .ok (.bipush 8, 2) := by decide +kernel
theorem dX7_takesDeviation_82 : decode cX7_takesDeviation 82 = .ok (.goto 5, 3) := by decide +kernel
theorem dX7_takesDeviation_85 : decode cX7_takesDeviation 85 = .ok (.bipush 11, 2) := by decide +kernel
theorem dX7_takesDeviation_87 : decode cX7_takesDeviation 87 = .ok (.putfield 126, 3) := by decide +kernel
theorem dX7_takesDeviation_90 : decode cX7_takesDeviation 90 = .ok (.iconst 1, 1) := by decide +kernel
theorem dX7_takesDeviation_91 : decode cX7_takesDeviation 91 = .ok (.ireturn, 1) := by decide +kernel
theorem dX7_takesDeviation_92 : decode cX7_takesDeviation 92 = .ok (.aload_n 0, 1) := by decide +kernel
theorem dX7_takesDeviation_93 : decode cX7_takesDeviation 93 = .ok (.getfield 126, 3) := by decide +kernel
theorem dX7_takesDeviation_96 : decode cX7_takesDeviation 96 = .ok (.bipush 8, 2) := by decide +kernel
theorem dX7_takesDeviation_98 : decode cX7_takesDeviation 98 = .ok (.if_icmp .ne 30, 3) := by decide +kernel
theorem dX7_takesDeviation_101 : decode cX7_takesDeviation 101 = .ok (.iload_n 1, 1) := by decide +kernel
theorem dX7_takesDeviation_102 : decode cX7_takesDeviation 102 = .ok (.bipush 44, 2) := by decide +kernel
theorem dX7_takesDeviation_104 : decode cX7_takesDeviation 104 = .ok (.if_icmp .ne 24, 3) := by decide +kernel
theorem dX7_takesDeviation_107 : decode cX7_takesDeviation 107 = .ok (.aload_n 0, 1) := by decide +kernel
theorem dX7_takesDeviation_108 : decode cX7_takesDeviation 108 = .ok (.getfield 41, 3) := by decide +kernel
theorem dX7_takesDeviation_111 : decode cX7_takesDeviation 111 = .ok (.aload_n 0, 1) := by decide +kernel
theorem dX7_takesDeviation_112 : decode cX7_takesDeviation 112 = .ok (.getfield 123, 3) := by decide +kernel
theorem dX7_takesDeviation_115 : decode cX7_takesDeviation 115 = .ok (.aload_n 0, 1) := by decide +kernel
theorem dX7_takesDeviation_116 : decode cX7_takesDeviation 116 = .ok (.invokevirtual 136, 3) := by decide +kernel
theorem dX7_takesDeviation_119 : decode cX7_takesDeviation 119 = .ok (.iastore, 1) := by decide +kernel
theorem dX7_takesDeviation_120 : decode cX7_takesDeviation 120 = .ok (.aload_n 0, 1) := by decide +kernel
theorem dX7_takesDeviation_121 : decode cX7_takesDeviation 121 = .ok (.bipush 9, 2) := by decide +kernel
theorem dX7_takesDeviation_123 : decode cX7_takesDeviation 123 = .ok (.putfield 126, 3) := by decide +kernel
theorem dX7_takesDeviation_126 : decode cX7_takesDeviation 126 = .ok (.iconst 1, 1) := by decide +kernel
theorem dX7_takesDeviation_127 : decode cX7_takesDeviation 127 = .ok (.ireturn, 1) := by decide +kernel
theorem dX7_takesDeviation_128 : decode cX7_takesDeviation 128 = .ok (.aload_n 0, 1) := by decide +kernel
theorem dX7_takesDeviation_129 : decode cX7_takesDeviation 129 = .ok (.getfield 126, 3) := by decide +kernel
theorem dX7_takesDeviation_132 : decode cX7_takesDeviation 132 = .ok (.bipush 11, 2) := by decide +kernel
theorem dX7_takesDeviation_134 : decode cX7_takesDeviation 134 = .ok (.if_icmp .ne 29, 3) := by decide +kernel
theorem dX7_takesDeviation_137 : decode cX7_takesDeviation 137 = .ok (.iload_n 1, 1) := by decide +kernel
theorem dX7_takesDeviation_138 : decode cX7_takesDeviation 138 = .ok (.bipush 93, 2) := by decide +kernel
theorem dX7_takesDeviation_140 : decode cX7_takesDeviation 140 = .ok (.if_icmp .ne 23, 3) := by decide +kernel
theorem dX7_takesDeviation_143 : decode cX7_takesDeviation 143 = .ok (.aload_n 0, 1) := by decide +kernel
theorem dX7_takesDeviation_144 : decode cX7_takesDeviation 144 = .ok (.invokevirtual 136, 3) := by decide +kernel
theorem dX7_takesDeviation_147 : decode cX7_takesDeviation 147 = .ok (.aload_n 0, 1) := by decide +kernel
theorem dX7_takesDeviation_148 : decode cX7_takesDeviation 148 = .ok (.getfield 41, 3) := by decide +kernel
theorem dX7_takesDeviation_151 : decode cX7_takesDeviation 151 = .ok (.aload_n 0, 1) := by decide +kernel
theorem dX7_takesDeviation_152 : decode cX7_takesDeviation 152 = .ok (.getfield 123, 3) := by decide +kernel
theorem dX7_takesDeviation_155 : decode cX7_takesDeviation 155 = .ok (.iaload, 1) := by decide +kernel
theorem dX7_takesDeviation_156 : decode cX7_takesDeviation 156 = .ok (.if_icmp .lt 7, 3) := by decide +kernel
theorem dX7_takesDeviation_159 : decode cX7_takesDeviation 159 = .ok (.iconst 1, 1) := by decide +kernel
theorem dX7_takesDeviation_160 : decode cX7_takesDeviation 160 = .ok (.goto 4, 3) := by decide +kernel
theorem dX7_takesDeviation_163 : decode cX7_takesDeviation 163 = .ok (.iconst 0, 1) := by decide +kernel
theorem dX7_takesDeviation_164 : decode cX7_takesDeviation 164 = .ok (.istore_n 2, 1) := by decide +kernel
theorem dX7_takesDeviation_165 : decode cX7_takesDeviation 165 = .ok (.aload_n 0, 1) := by decide +kernel
theorem dX7_takesDeviation_166 : decode cX7_takesDeviation 166 = .ok (.getfield 44, 3) := by decide +kernel
theorem dX7_takesDeviation_169 : decode cX7_takesDeviation 169 = .ok (.aload_n 0, 1) := by decide +kernel
theorem dX7_takesDeviation_170 : decode cX7_takesDeviation 170 = .ok (.getfield 123, 3) := by decide +kernel
theorem dX7_takesDeviation_173 : decode cX7_takesDeviation 173 = .ok (.iload_n 2, 1) := by decide +kernel
theorem dX7_takesDeviation_174 : decode cX7_takesDeviation 174 = .ok (.ifCond .eq 10, 3) := by decide +kernel
theorem dX7_takesDeviation_177 : decode cX7_takesDeviation 177 = .ok (.aload_n 0, 1) := by decide +kernel
theorem dX7_takesDeviation_178 : decode cX7_takesDeviation 178 = .ok (.invokevirtual 136, 3) := by decide +kernel
theorem dX7_takesDeviation_181 : decode cX7_takesDeviation 181 = .ok (.goto 12, 3) := by decide +kernel
theorem dX7_takesDeviation_184 : decode cX7_takesDeviation 184 = .ok (.aload_n 0, 1) := by decide +kernel
theorem dX7_takesDeviation_185 : decode cX7_takesDeviation 185 = .ok (.getfield 44, 3) := by decide +kernel
theorem dX7_takesDeviation_188 : decode cX7_takesDeviation 188 = .ok (.aload_n 0, 1) := by decide +kernel
theorem dX7_takesDeviation_189 : decode cX7_takesDeviation 189 = .ok (.getfield 123, 3) := by decide +kernel
theorem dX7_takesDeviation_192 : decode cX7_takesDeviation 192 = .ok (.iaload, 1) := by decide +kernel
theorem dX7_takesDeviation_193 : decode cX7_takesDeviation 193 = .ok (.iastore, 1) := by decide +kernel
theorem dX7_takesDeviation_194 : decode cX7_takesDeviation 194 = .ok (.aload_n 0, 1) := by decide +kernel
theorem dX7_takesDeviation_195 : decode cX7_takesDeviation 195 = .ok (.bipush 12, 2) := by decide +kernel
theorem dX7_takesDeviation_197 : decode cX7_takesDeviation 197 = .ok (.putfield 126, 3) := by decide +kernel
theorem dX7_takesDeviation_200 : decode cX7_takesDeviation 200 = .ok (.iload_n 2, 1) := by decide +kernel
theorem dX7_takesDeviation_201 : decode cX7_takesDeviation 201 = .ok (.ireturn, 1) := by decide +kernel
set_option maxRecDepth 20000 in
theorem ggX7_takes_X7_isFace : GoodIn wsX7_takes wsX7_isFace := goodIn_r _ [9, 10, 11, 12, 8, 13, 44, 45, 46, 47, 48, 49, 50, 51, 52, 53, 54, 55, 56, 57, 58, 59, 60, 61, 62, 63, 64, 65, 66, 67, 68, 69, 70, 71, 72, 73, 74, 75, 76, 77] (by decide +kernel) (by decide +kernel)
set_option maxRecDepth 20000 in
theorem gX7_takes_X7_isFace : GoodIn wsX7_takes (wsV RX7 83 RX7 yX7_isFace wsX7_isFace) := goodIn_app (goodIn_of _ (by decide +kernel)) ggX7_takes_X7_isFace
set_option maxRecDepth 20000 in
theorem ggX7_takes_X7_takesNominal : GoodIn wsX7_takes wsX7_takesNominal := goodIn_r _ [17, 1, 18, 3, 19, 20, 21, 22, 23, 8, 24, 25, 26, 27, 28, 29, 30, 31, 11, 12, 13, 32, 33, 34, 35, 36, 37, 38, 39, 44, 45, 46, 47, 48, 49, 50, 51, 52, 53, 54, 55, 56, 57, 58, 59, 60, 61, 62, 63, 64, 65, 66, 67, 68, 69, 70, 71, 72, 73, 74, 75, 76, 77] (by decide +kernel) (by decide +kernel)
set_option maxRecDepth 20000 in
theorem gX7_takes_X7_takesNominal : GoodIn wsX7_takes (wsV RX7 144 RX7 yX7_takesNominal wsX7_takesNominal) := goodIn_app (goodIn_of _ (by decide +kernel)) ggX7_takes_X7_takesNominal
set_option maxRecDepth 20000 in
theorem ggX7_takes_X7_goesOn : GoodIn wsX7_takes wsX7_goesOn := goodIn_r _ [39, 3, 1, 44, 45, 46, 47, 48, 49, 50, 51, 52, 53, 54, 55, 56, 57, 58, 59, 60, 61, 62, 63, 64, 65, 66, 67, 68, 69, 70, 71, 72, 73, 74, 75, 76, 77] (by decide +kernel) (by decide +kernel)
set_option maxRecDepth 20000 in
theorem gX7_takes_X7_goesOn : GoodIn wsX7_takes (wsV RX7 140 RX7 yX7_goesOn wsX7_goesOn) := goodIn_app (goodIn_of _ (by decide +kernel)) ggX7_takes_X7_goesOn
set_option maxRecDepth 20000 in
theorem ggX7_takes_X7_takesDeviation : GoodIn wsX7_takes wsX7_takesDeviation := goodIn_r _ [43, 1, 19, 3, 20, 21, 22, 23, 8, 24, 25, 26, 27, 28, 29, 30, 31, 11, 12, 13, 32, 33, 34, 35, 44, 45, 46, 47, 48, 49, 50, 51, 52, 53, 54, 55, 56, 57, 58, 59, 60, 61, 62, 63, 64, 65, 66, 67, 68, 69, 70, 71, 72, 73, 74, 75, 76, 77] (by decide +kernel) (by decide +kernel)
set_option maxRecDepth 20000 in
theorem gX7_takes_X7_takesDeviation : GoodIn wsX7_takes (wsV RX7 147 RX7 yX7_takesDeviation wsX7_takesDeviation) := goodIn_app (goodIn_of _ (by decide +kernel)) ggX7_takes_X7_takesDeviation
theorem dX7_takes_0 : decode cX7_takes 0 = .ok (.iload_n 1, 1) := by decide +kernel
theorem dX7_takes_1 : decode cX7_takes 1 = .ok (.bipush 65, 2) := by decide +kernel
theorem dX7_takes_3 : decode cX7_takes 3 = .ok (.isub, 1) := by decide +kernel
theorem dX7_takes_4 : decode cX7_takes 4 = .ok (.istore_n 2, 1) := by decide +kernel
theorem dX7_takes_5 : decode cX7_takes 5 = .ok (.aload_n 0, 1) := by decide +kernel
theorem dX7_takes_6 : decode cX7_takes 6 = .ok (.getfield 126, 3) := by decide +kernel
theorem dX7_takes_9 : decode cX7_takes 9 = .ok (.tableswitch 172 0 12 #[67, 88, 130, 147, 147, 147, 172, 172, 172, 172, 172, 172, 153], 67) := by decide +kernel
theorem dX7_takes_76 : decode cX7_takes 76 = .ok (.aload_n 0, 1) := by decide +kernel
theorem dX7_takes_77 : decode cX7_takes 77 = .ok (.getfield 32, 3) := by decide +kernel
theorem dX7_takes_80 : decode cX7_takes 80 = .ok (.aload_n 0, 1) := by decide +kernel
theorem dX7_takes_81 : decode cX7_takes 81 = .ok (.getfield 123, 3) := by decide +kernel
theorem dX7_takes_84 : decode cX7_takes 84 = .ok (.iload_n 2, 1) := by decide +kernel
theorem dX7_takes_85 : decode cX7_takes 85 = .ok (.iastore, 1) := by decide +kernel
theorem dX7_takes_86 : decode cX7_takes 86 = .ok (.aload_n 0, 1) := by decide +kernel
theorem dX7_takes_87 : decode cX7_takes 87 = .ok (.iconst 1, 1) := by decide +kernel
theorem dX7_takes_88 : decode cX7_takes 88 = .ok (.putfield 126, 3) := by decide +kernel
theorem dX7_takes_91 : decode cX7_takes 91 = .ok (.aload_n 0, 1) := by decide +kernel
theorem dX7_takes_92 : decode cX7_takes 92 = .ok (.iload_n 2, 1) := by decide +kernel
theorem dX7_takes_93 : decode cX7_takes 93 = .ok (.invokevirtual 83, 3) := by decide +kernel
theorem dX7_takes_96 : decode cX7_takes 96 = .ok (.ireturn, 1) := by decide +kernel
theorem dX7_takes_97 : decode cX7_takes 97 = .ok (.aload_n 0, 1) := by decide +kernel
theorem dX7_takes_98 : decode cX7_takes 98 = .ok (.getfield 35, 3) := by decide +kernel
theorem dX7_takes_101 : decode cX7_takes 101 = .ok (.aload_n 0, 1) := by decide +kernel
theorem dX7_takes_102 : decode cX7_takes 102 = .ok (.getfield 123, 3) := by decide +kernel
theorem dX7_takes_105 : decode cX7_takes 105 = .ok (.iload_n 2, 1) := by decide +kernel
theorem dX7_takes_106 : decode cX7_takes 106 = .ok (.iastore, 1) := by decide +kernel
theorem dX7_takes_107 : decode cX7_takes 107 = .ok (.aload_n 0, 1) := by decide +kernel
theorem dX7_takes_108 : decode cX7_takes 108 = .ok (.iconst 2, 1) := by decide +kernel
theorem dX7_takes_109 : decode cX7_takes 109 = .ok (.putfield 126, 3) := by decide +kernel
theorem dX7_takes_112 : decode cX7_takes 112 = .ok (.aload_n 0, 1) := by decide +kernel
theorem dX7_takes_113 : decode cX7_takes 113 = .ok (.iload_n 2, 1) := by decide +kernel
theorem dX7_takes_114 : decode cX7_takes 114 = .ok (.invokevirtual 83, 3) := by decide +kernel
theorem dX7_takes_117 : decode cX7_takes 117 = .ok (.ifCond .eq 20, 3) := by decide +kernel
theorem dX7_takes_120 : decode cX7_takes 120 = .ok (.iload_n 2, 1) := by decide +kernel
theorem dX7_takes_121 : decode cX7_takes 121 = .ok (.aload_n 0, 1) := by decide +kernel
theorem dX7_takes_122 : decode cX7_takes 122 = .ok (.getfield 32, 3) := by decide +kernel
theorem dX7_takes_125 : decode cX7_takes 125 = .ok (.aload_n 0, 1) := by decide +kernel
theorem dX7_takes_126 : decode cX7_takes 126 = .ok (.getfield 123, 3) := by decide +kernel
theorem dX7_takes_129 : decode cX7_takes 129 = .ok (.iaload, 1) := by decide +kernel
theorem dX7_takes_130 : decode cX7_takes 130 = .ok (.if_icmp .eq 7, 3) := by decide +kernel
theorem dX7_takes_133 : decode cX7_takes 133 = .ok (.iconst 1, 1) := by decide +kernel
theorem dX7_takes_134 : decode cX7_takes 134 = .ok (.goto 4, 3) := by decide +kernel
theorem dX7_takes_137 : decode cX7_takes 137 = .ok (.iconst 0, 1) := by decide +kernel
theorem dX7_takes_138 : decode cX7_takes 138 = .ok (.ireturn, 1) := by decide +kernel
theorem dX7_takes_139 : decode cX7_takes 139 = .ok (.aload_n 0, 1) := by decide +kernel
theorem dX7_takes_140 : decode cX7_takes 140 = .ok (.iconst 3, 1) := by decide +kernel
theorem dX7_takes_141 : decode cX7_takes 141 = .ok (.putfield 126, 3) := by decide +kernel
theorem dX7_takes_144 : decode cX7_takes 144 = .ok (.iload_n 1, 1) := by decide +kernel
theorem dX7_takes_145 : decode cX7_takes 145 = .ok (.bipush 61, 2) := by decide +kernel
theorem dX7_takes_147 : decode cX7_takes 147 = .ok (.if_icmp .ne 7, 3) := by decide +kernel
theorem dX7_takes_150 : decode cX7_takes 150 = .ok (.iconst 1, 1) := by decide +kernel
theorem dX7_takes_151 : decode cX7_takes 151 = .ok (.goto 4, 3) := by decide +kernel
theorem dX7_takes_154 : decode cX7_takes 154 = .ok (.iconst 0, 1) := by decide +kernel
theorem dX7_takes_155 : decode cX7_takes 155 = .ok (.ireturn, 1) := by decide +kernel
theorem dX7_takes_156 : decode cX7_takes 156 = .ok (.aload_n 0, 1) := by decide +kernel
theorem dX7_takes_157 : decode cX7_takes 157 = .ok (.iload_n 1, 1) := by decide +kernel
theorem dX7_takes_158 : decode cX7_takes 158 = .ok (.invokevirtual 144, 3) := by decide +kernel
theorem dX7_takes_161 : decode cX7_takes 161 = .ok (.ireturn, 1) := by decide +kernel
theorem dX7_takes_162 : decode cX7_takes 162 = .ok (.iload_n 1, 1) := by decide +kernel
theorem dX7_takes_163 : decode cX7_takes 163 = .ok (.bipush 59, 2) := by decide +kernel
theorem dX7_takes_165 : decode cX7_takes 165 = .ok (.if_icmp .ne 14, 3) := by decide +kernel
theorem dX7_takes_168 : decode cX7_takes 168 = .ok (.aload_n 0, 1) := by decide +kernel
theorem dX7_takes_169 : decode cX7_takes 169 = .ok (.invokevirtual 140, 3) := by decide +kernel
theorem dX7_takes_172 : decode cX7_takes 172 = .ok (.ifCond .eq 7, 3) := by decide +kernel
theorem dX7_takes_175 : decode cX7_takes 175 = .ok (.iconst 1, 1) := by decide +kernel
theorem dX7_takes_176 : decode cX7_takes 176 = .ok (.goto 4, 3) := by decide +kernel
theorem dX7_takes_179 : decode cX7_takes 179 = .ok (.iconst 0, 1) := by decide +kernel
theorem dX7_takes_180 : decode cX7_takes 180 = .ok (.ireturn, 1) := by decide +kernel
theorem dX7_takes_181 : decode cX7_takes 181 = .ok (.aload_n 0, 1) := by decide +kernel
theorem dX7_takes_182 : decode cX7_takes 182 = .ok (.iload_n 1, 1) := by decide +kernel
theorem dX7_takes_183 : decode cX7_takes 183 = .ok (.invokevirtual 147, 3) := by decide +kernel
theorem dX7_takes_186 : decode cX7_takes 186 = .ok (.ireturn, 1) := by decide +kernel
set_option maxRecDepth 20000 in
theorem ggX7_rightLength_X7_takes : GoodIn wsX7_rightLength wsX7_takes := goodIn_r _ [9, 1, 10, 2, 11, 12, 13, 14, 8, 15, 16, 17, 18, 19, 20, 21, 22, 23, 24, 25, 26, 27, 28, 29, 30, 31, 32, 33, 34, 35, 36, 37, 38, 39, 40, 41, 42, 43, 44, 45, 46, 47, 48, 49, 50, 51, 52, 53, 54, 55, 56, 57, 58, 59, 60, 61, 62, 63, 64, 65, 66, 67, 68, 69, 70, 71, 72, 73, 74, 75, 76, 77, 78, 79, 80, 81, 82, 83] (by decide +kernel) (by decide +kernel)
set_option maxRecDepth 20000 in
theorem gX7_rightLength_X7_takes : GoodIn wsX7_rightLength (wsV RX7 150 RX7 yX7_takes wsX7_takes) := goodIn_app (goodIn_of _ (by decide +kernel)) ggX7_rightLength_X7_takes
theorem dX7_rightLength_0 : decode cX7_rightLength 0 = .ok (.aload_n 0, 1) := by decide +kernel
theorem dX7_rightLength_1 : decode cX7_rightLength 1 = .ok (.iconst 0, 1) := by decide +kernel
theorem dX7_rightLength_2 : decode cX7_rightLength 2 = .ok (.putfield 126, 3) := by decide +kernel
theorem dX7_rightLength_5 : decode cX7_rightLength 5 = .ok (.aload_n 0, 1) := by decide +kernel
theorem dX7_rightLength_6 : decode cX7_rightLength 6 = .ok (.iconst 0, 1) := by decide +kernel
theorem dX7_rightLength_7 : decode cX7_rightLength 7 = .ok (.putfield 123, 3) := by decide +kernel
theorem dX7_rightLength_10 : decode cX7_rightLength 10 = .ok (.iconst 0, 1) := by decide +kernel
theorem dX7_rightLength_11 : decode cX7_rightLength 11 = .ok (.istore_n 1, 1) := by decide +kernel
theorem dX7_rightLength_12 : decode cX7_rightLength 12 = .ok (.iload_n 1, 1) := by decide +kernel
theorem dX7_rightLength_13 : decode cX7_rightLength 13 = .ok (.aload_n 0, 1) := by decide +kernel
theorem dX7_rightLength_14 : decode cX7_rightLength 14 = .ok (.getfield 110, 3) := by decide +kernel
theorem dX7_rightLength_17 : decode cX7_rightLength 17 = .ok (.if_icmp .ge 22, 3) := by decide +kernel
theorem dX7_rightLength_20 : decode cX7_rightLength 20 = .ok (.aload_n 0, 1) := by decide +kernel
theorem dX7_rightLength_21 : decode cX7_rightLength 21 = .ok (.aload_n 0, 1) := by decide +kernel
theorem dX7_rightLength_22 : decode cX7_rightLength 22 = .ok (.getfield 29, 3) := by decide +kernel
theorem dX7_rightLength_25 : decode cX7_rightLength 25 = .ok (.iload_n 1, 1) := by decide +kernel
theorem dX7_rightLength_26 : decode cX7_rightLength 26 = .ok (.iaload, 1) := by decide +kernel
theorem dX7_rightLength_27 : decode cX7_rightLength 27 = .ok (.invokevirtual 150, 3) := by decide +kernel
theorem dX7_rightLength_30 : decode cX7_rightLength 30 = .ok (.ifCond .eq 9, 3) := by decide +kernel
theorem dX7_rightLength_33 : decode cX7_rightLength 33 = .ok (.iinc 1 1, 3) := by decide +kernel
theorem dX7_rightLength_36 : decode cX7_rightLength 36 = .ok (.goto (-24), 3) := by decide +kernel
theorem dX7_rightLength_39 : decode cX7_rightLength 39 = .ok (.iload_n 1, 1) := by decide +kernel
theorem dX7_rightLength_40 : decode cX7_rightLength 40 = .ok (.ireturn, 1) := by decide +kernel
set_option maxRecDepth 20000 in
theorem ggX7_firstError_X7_rightLength : GoodIn wsX7_firstError wsX7_rightLength := goodIn_r _ [6, 7, 8, 9, 10, 11, 12, 13, 5, 14, 15, 16, 17, 18, 19, 20, 21, 22, 23, 24, 25, 26, 27, 28, 29, 30, 31, 32, 33, 34, 35, 36, 37, 38, 39, 40, 41, 42, 43, 44, 45, 46, 47, 48, 49, 50, 51, 52, 53, 54, 55, 56, 57, 58, 59, 60, 61, 62, 63, 64, 65, 66, 67, 68, 69, 70, 71, 72, 73, 74, 75, 76, 77, 78, 79, 80, 81, 82, 83, 84, 85, 86, 87, 88] (by decide +kernel) (by decide +kernel)
set_option maxRecDepth 20000 in
theorem gX7_firstError_X7_rightLength : GoodIn wsX7_firstError (wsV RX7 153 RX7 yX7_rightLength wsX7_rightLength) := goodIn_app (goodIn_of _ (by decide +kernel)) ggX7_firstError_X7_rightLength
theorem dX7_firstError_0 : decode cX7_firstError 0 = .ok (.aload_n 0, 1) := by decide +kernel
theorem dX7_firstError_1 : decode cX7_firstError 1 = .ok (.iconst 0, 1) := by decide +kernel
theorem dX7_firstError_2 : decode cX7_firstError 2 = .ok (.putfield 67, 3) := by decide +kernel
theorem dX7_firstError_5 : decode cX7_firstError 5 = .ok (.aload_n 0, 1) := by decide +kernel
theorem dX7_firstError_6 : decode cX7_firstError 6 = .ok (.invokevirtual 153, 3) := by decide +kernel
theorem dX7_firstError_9 : decode cX7_firstError 9 = .ok (.ireturn, 1) := by decide +kernel
set_option maxRecDepth 20000 in
theorem ggX7_load_X7_rightLength : GoodIn wsX7_load wsX7_rightLength := goodIn_r _ [15, 2, 5, 1, 16, 17, 18, 19, 14, 20, 6, 7, 21, 22, 23, 24, 25, 26, 27, 28, 29, 30, 31, 32, 8, 9, 10, 33, 34, 35, 36, 37, 38, 39, 40, 41, 42, 43, 44, 45, 46, 47, 48, 49, 50, 51, 52, 53, 54, 55, 65, 66, 67, 68, 69, 70, 71, 72, 73, 74, 75, 76, 77, 78, 79, 80, 81, 82, 83, 84, 85, 86, 87, 88, 89, 90, 91, 92, 93, 94, 95, 96, 97, 98] (by decide +kernel) (by decide +kernel)
set_option maxRecDepth 20000 in
theorem gX7_load_X7_rightLength : GoodIn wsX7_load (wsV RX7 153 RX7 yX7_rightLength wsX7_rightLength) := goodIn_app (goodIn_of _ (by decide +kernel)) ggX7_load_X7_rightLength
set_option maxRecDepth 20000 in
theorem ggX7_load_X7_put : GoodIn wsX7_load wsX7_put := goodIn_r _ [59, 60, 4, 61, 62, 63, 64, 65, 66, 67, 68, 69, 70, 71, 72, 73, 74, 75, 76, 77, 78, 79, 80, 81, 82, 83, 84, 85, 86, 87, 88, 89, 90, 91, 92, 93, 94, 95, 96, 97, 98] (by decide +kernel) (by decide +kernel)
set_option maxRecDepth 20000 in
theorem gX7_load_X7_put : GoodIn wsX7_load (wsV RX7 87 RX7 yX7_put wsX7_put) := goodIn_app (goodIn_of _ (by decide +kernel)) ggX7_load_X7_put
theorem dX7_load_0 : decode cX7_load 0 = .ok (.aload_n 0, 1) := by decide +kernel
theorem dX7_load_1 : decode cX7_load 1 = .ok (.aload_n 0, 1) := by decide +kernel
theorem dX7_load_2 : decode cX7_load 2 = .ok (.invokevirtual 153, 3) := by decide +kernel
theorem dX7_load_5 : decode cX7_load 5 = .ok (.aload_n 0, 1) := by decide +kernel
theorem dX7_load_6 : decode cX7_load 6 = .ok (.getfield 110, 3) := by decide +kernel
theorem dX7_load_9 : decode cX7_load 9 = .ok (.if_icmp .ne 24, 3) := by decide +kernel
theorem dX7_load_12 : decode cX7_load 12 = .ok (.aload_n 0, 1) := by decide +kernel
theorem dX7_load_13 : decode cX7_load 13 = .ok (.getfield 126, 3) := by decide +kernel
theorem dX7_load_16 : decode cX7_load 16 = .ok (.iconst 5, 1) := by decide +kernel
theorem dX7_load_17 : decode cX7_load 17 = .ok (.if_icmp .eq 12, 3) := by decide +kernel
theorem dX7_load_20 : decode cX7_load 20 = .ok (.aload_n 0, 1) := by decide +kernel
theorem dX7_load_21 : decode cX7_load 21 = .ok (.getfield 126, 3) := by decide +kernel
theorem dX7_load_24 : decode cX7_load 24 = .ok (.bipush 12, 2) := by decide +kernel
theorem dX7_load_26 : decode cX7_load 26 = .ok (.if_icmp .ne 7, 3) := by decide +kernel
theorem dX7_load_29 : decode cX7_load 29 = .ok (.iconst 0, 1) := by decide +kernel
theorem dX7_load_30 : decode cX7_load 30 = .ok (.goto 4, 3) := by decide +kernel
theorem dX7_load_33 : decode cX7_load 33 = .ok (.iconst 1, 1) := by decide +kernel
theorem dX7_load_34 : decode cX7_load 34 = .ok (.putfield 67, 3) := by decide +kernel
theorem dX7_load_37 : decode cX7_load 37 = .ok (.aload_n 0, 1) := by decide +kernel
theorem dX7_load_38 : decode cX7_load 38 = .ok (.getfield 67, 3) := by decide +kernel
theorem dX7_load_41 : decode cX7_load 41 = .ok (.ifCond .le 5, 3) := by decide +kernel
theorem dX7_load_44 : decode cX7_load 44 = .ok (.iconst 0, 1) := by decide +kernel
theorem dX7_load_45 : decode cX7_load 45 = .ok (.ireturn, 1) := by decide +kernel
theorem dX7_load_46 : decode cX7_load 46 = .ok (.aload_n 0, 1) := by decide +kernel
theorem dX7_load_47 : decode cX7_load 47 = .ok (.iconst 0, 1) := by decide +kernel
theorem dX7_load_48 : decode cX7_load 48 = .ok (.putfield 74, 3) := by decide +kernel
theorem dX7_load_51 : decode cX7_load 51 = .ok (.iconst 0, 1) := by decide +kernel
theorem dX7_load_52 : decode cX7_load 52 = .ok (.istore_n 1, 1) := by decide +kernel
theorem dX7_load_53 : decode cX7_load 53 = .ok (.iload_n 1, 1) := by decide +kernel
theorem dX7_load_54 : decode cX7_load 54 = .ok (.aload_n 0, 1) := by decide +kernel
theorem dX7_load_55 : decode cX7_load 55 = .ok (.getfield 123, 3) := by decide +kernel
theorem dX7_load_58 : decode cX7_load 58 = .ok (.if_icmp .gt 43, 3) := by decide +kernel
theorem dX7_load_61 : decode cX7_load 61 = .ok (.aload_n 0, 1) := by decide +kernel
theorem dX7_load_62 : decode cX7_load 62 = .ok (.aload_n 0, 1) := by decide +kernel
theorem dX7_load_63 : decode cX7_load 63 = .ok (.getfield 32, 3) := by decide +kernel
theorem dX7_load_66 : decode cX7_load 66 = .ok (.iload_n 1, 1) := by decide +kernel
theorem dX7_load_67 : decode cX7_load 67 = .ok (.iaload, 1) := by decide +kernel
theorem dX7_load_68 : decode cX7_load 68 = .ok (.aload_n 0, 1) := by decide +kernel
theorem dX7_load_69 : decode cX7_load 69 = .ok (.getfield 35, 3) := by decide +kernel
theorem dX7_load_72 : decode cX7_load 72 = .ok (.iload_n 1, 1) := by decide +kernel
theorem dX7_load_73 : decode cX7_load 73 = .ok (.iaload, 1) := by decide +kernel
theorem dX7_load_74 : decode cX7_load 74 = .ok (.aload_n 0, 1) := by decide +kernel
theorem dX7_load_75 : decode cX7_load 75 = .ok (.getfield 38, 3) := by decide +kernel
theorem dX7_load_78 : decode cX7_load 78 = .ok (.iload_n 1, 1) := by decide +kernel
theorem dX7_load_79 : decode cX7_load 79 = .ok (.iaload, 1) := by decide +kernel
theorem dX7_load_80 : decode cX7_load 80 = .ok (.aload_n 0, 1) := by decide +kernel
theorem dX7_load_81 : decode cX7_load 81 = .ok (.getfield 41, 3) := by decide +kernel
theorem dX7_load_84 : decode cX7_load 84 = .ok (.iload_n 1, 1) := by decide +kernel
theorem dX7_load_85 : decode cX7_load 85 = .ok (.iaload, 1) := by decide +kernel
theorem dX7_load_86 : decode cX7_load 86 = .ok (.aload_n 0, 1) := by decide +kernel
theorem dX7_load_87 : decode cX7_load 87 = .ok (.getfield 44, 3) := by decide +kernel
theorem dX7_load_90 : decode cX7_load 90 = .ok (.iload_n 1, 1) := by decide +kernel
theorem dX7_load_91 : decode cX7_load 91 = .ok (.iaload, 1) := by decide +kernel
theorem dX7_load_92 : decode cX7_load 92 = .ok (.invokevirtual 87, 3) := by decide +kernel
theorem dX7_load_95 : decode cX7_load 95 = .ok (.iinc 1 1, 3) := by decide +kernel
theorem dX7_load_98 : decode cX7_load 98 = .ok (.goto (-45), 3) := by decide +kernel
theorem dX7_load_101 : decode cX7_load 101 = .ok (.aload_n 0, 1) := by decide +kernel
theorem dX7_load_102 : decode cX7_load 102 = .ok (.iconst 0, 1) := by decide +kernel
theorem dX7_load_103 : decode cX7_load 103 = .ok (.putfield 110, 3) := by decide +kernel
theorem dX7_load_106 : decode cX7_load 106 = .ok (.aload_n 0, 1) := by decide +kernel
theorem dX7_load_107 : decode cX7_load 107 = .ok (.getfield 74, 3) := by decide +kernel
theorem dX7_load_110 : decode cX7_load 110 = .ok (.ireturn, 1) := by decide +kernel
theorem dX7_joinAll_0 : decode cX7_joinAll 0 = .ok (.iconst 0, 1) := by decide +kernel
theorem dX7_joinAll_1 : decode cX7_joinAll 1 = .ok (.istore_n 1, 1) := by decide +kernel
theorem dX7_joinAll_2 : decode cX7_joinAll 2 = .ok (.iload_n 1, 1) := by decide +kernel
theorem dX7_joinAll_3 : decode cX7_joinAll 3 = .ok (.aload_n 0, 1) := by decide +kernel
theorem dX7_joinAll_4 : decode cX7_joinAll 4 = .ok (.getfield 7, 3) := by decide +kernel
theorem dX7_joinAll_7 : decode cX7_joinAll 7 = .ok (.if_icmp .ge 16, 3) := by decide +kernel
theorem dX7_joinAll_10 : decode cX7_joinAll 10 = .ok (.aload_n 0, 1) := by decide +kernel
theorem dX7_joinAll_11 : decode cX7_joinAll 11 = .ok (.getfield 47, 3) := by decide +kernel
theorem dX7_joinAll_14 : decode cX7_joinAll 14 = .ok (.iload_n 1, 1) := by decide +kernel
theorem dX7_joinAll_15 : decode cX7_joinAll 15 = .ok (.iload_n 1, 1) := by decide +kernel
theorem dX7_joinAll_16 : decode cX7_joinAll 16 = .ok (.iastore, 1) := by decide +kernel
theorem dX7_joinAll_17 : decode cX7_joinAll 17 = .ok (.iinc 1 1, 3) := by decide +kernel
theorem dX7_joinAll_20 : decode cX7_joinAll 20 = .ok (.goto (-18), 3) := by decide +kernel
theorem dX7_joinAll_23 : decode cX7_joinAll 23 = .ok (.iconst 0, 1) := by decide +kernel
theorem dX7_joinAll_24 : decode cX7_joinAll 24 = .ok (.istore_n 1, 1) := by decide +kernel
theorem dX7_joinAll_25 : decode cX7_joinAll 25 = .ok (.iload_n 1, 1) := by decide +kernel
theorem dX7_joinAll_26 : decode cX7_joinAll 26 = .ok (.aload_n 0, 1) := by decide +kernel
theorem dX7_joinAll_27 : decode cX7_joinAll 27 = .ok (.getfield 74, 3) := by decide +kernel
theorem dX7_joinAll_30 : decode cX7_joinAll 30 = .ok (.if_icmp .ge 120, 3) := by decide +kernel
theorem dX7_joinAll_33 : decode cX7_joinAll 33 = .ok (.aload_n 0, 1) := by decide +kernel
theorem dX7_joinAll_34 : decode cX7_joinAll 34 = .ok (.getfield 47, 3) := by decide +kernel
theorem dX7_joinAll_37 : decode cX7_joinAll 37 = .ok (.aload_n 0, 1) := by decide +kernel
theorem dX7_joinAll_38 : decode cX7_joinAll 38 = .ok (.getfield 13, 3) := by decide +kernel
theorem dX7_joinAll_41 : decode cX7_joinAll 41 = .ok (.iload_n 1, 1) := by decide +kernel
theorem dX7_joinAll_42 : decode cX7_joinAll 42 = .ok (.iaload, 1) := by decide +kernel
theorem dX7_joinAll_43 : decode cX7_joinAll 43 = .ok (.iaload, 1) := by decide +kernel
theorem dX7_joinAll_44 : decode cX7_joinAll 44 = .ok (.istore_n 2, 1) := by decide +kernel
theorem dX7_joinAll_45 : decode cX7_joinAll 45 = .ok (.aload_n 0, 1) := by decide +kernel
theorem dX7_joinAll_46 : decode cX7_joinAll 46 = .ok (.getfield 47, 3) := by decide +kernel
theorem dX7_joinAll_49 : decode cX7_joinAll 49 = .ok (.aload_n 0, 1) := by decide +kernel
theorem dX7_joinAll_50 : decode cX7_joinAll 50 = .ok (.getfield 17, 3) := by decide +kernel
theorem dX7_joinAll_53 : decode cX7_joinAll 53 = .ok (.iload_n 1, 1) := by decide +kernel
theorem dX7_joinAll_54 : decode cX7_joinAll 54 = .ok (.iaload, 1) := by decide +kernel
theorem dX7_joinAll_55 : decode cX7_joinAll 55 = .ok (.iaload, 1) := by decide +kernel
theorem dX7_joinAll_56 : decode cX7_joinAll 56 = .ok (.istore_n 3, 1) := by decide +kernel
theorem dX7_joinAll_57 : decode cX7_joinAll 57 = .ok (.aload_n 0, 1) := by decide +kernel
theorem dX7_joinAll_58 : decode cX7_joinAll 58 = .ok (.getfield 50, 3) := by decide +kernel
theorem dX7_joinAll_61 : decode cX7_joinAll 61 = .ok (.iload_n 1, 1) := by decide +kernel
theorem dX7_joinAll_62 : decode cX7_joinAll 62 = .ok (.iload_n 2, 1) := by decide +kernel
theorem dX7_joinAll_63 : decode cX7_joinAll 63 = .ok (.iload_n 3, 1) := by decide +kernel
theorem dX7_joinAll_64 : decode cX7_joinAll 64 = .ok (.if_icmp .ne 7, 3) := by decide +kernel
theorem dX7_joinAll_67 : decode cX7_joinAll 67 = .ok (.iconst 1, 1) := by decide +kernel
theorem dX7_joinAll_68 : decode cX7_joinAll 68 = .ok (.goto 4, 3) := by decide +kernel
theorem dX7_joinAll_71 : decode cX7_joinAll 71 = .ok (.iconst 0, 1) := by decide +kernel
theorem dX7_joinAll_72 : decode cX7_joinAll 72 = .ok (.bastore, 1) := by decide +kernel
theorem dX7_joinAll_73 : decode cX7_joinAll 73 = .ok (.iload_n 2, 1) := by decide +kernel
theorem dX7_joinAll_74 : decode cX7_joinAll 74 = .ok (.iload_n 3, 1) := by decide +kernel
theorem dX7_joinAll_75 : decode cX7_joinAll 75 = .ok (.if_icmp .ge 7, 3) := by decide +kernel
theorem dX7_joinAll_78 : decode cX7_joinAll 78 = .ok (.iload_n 2, 1) := by decide +kernel
theorem dX7_joinAll_79 : decode cX7_joinAll 79 = .ok (.goto 4, 3) := by decide +kernel
theorem dX7_joinAll_82 : decode cX7_joinAll 82 = .ok (.iload_n 3, 1) := by decide +kernel
theorem dX7_joinAll_83 : decode cX7_joinAll 83 = .ok (.istore 4, 2) := by decide +kernel
theorem dX7_joinAll_85 : decode cX7_joinAll 85 = .ok (.iconst 0, 1) := by decide +kernel
theorem dX7_joinAll_86 : decode cX7_joinAll 86 = .ok (.istore 5, 2) := by decide +kernel
theorem dX7_joinAll_88 : decode cX7_joinAll 88 = .ok (.iload 5, 2) := by decide +kernel
theorem dX7_joinAll_90 : decode cX7_joinAll 90 = .ok (.aload_n 0, 1) := by decide +kernel
theorem dX7_joinAll_91 : decode cX7_joinAll 91 = .ok (.getfield 7, 3) := by decide +kernel
theorem dX7_joinAll_94 : decode cX7_joinAll 94 = .ok (.if_icmp .ge 50, 3) := by decide +kernel
theorem dX7_joinAll_97 : decode cX7_joinAll 97 = .ok (.aload_n 0, 1) := by decide +kernel
theorem dX7_joinAll_98 : decode cX7_joinAll 98 = .ok (.getfield 47, 3) := by decide +kernel
theorem dX7_joinAll_101 : decode cX7_joinAll 101 = .ok (.iload 5, 2) := by decide +kernel
theorem dX7_joinAll_103 : decode cX7_joinAll 103 = .ok (.aload_n 0, 1) := by decide +kernel
theorem dX7_joinAll_104 : decode cX7_joinAll 104 = .ok (.getfield 47, 3) := by decide +kernel
theorem dX7_joinAll_107 : decode cX7_joinAll 107 = .ok (.iload 5, 2) := by decide +kernel
theorem dX7_joinAll_109 : decode cX7_joinAll 109 = .ok (.iaload, 1) := by decide +kernel
theorem dX7_joinAll_110 : decode cX7_joinAll 110 = .ok (.iload_n 2, 1) := by decide +kernel
theorem dX7_joinAll_111 : decode cX7_joinAll 111 = .ok (.if_icmp .eq 14, 3) := by decide +kernel
theorem dX7_joinAll_114 : decode cX7_joinAll 114 = .ok (.aload_n 0, 1) := by decide +kernel
theorem dX7_joinAll_115 : decode cX7_joinAll 115 = .ok (.getfield 47, 3) := by decide +kernel
theorem dX7_joinAll_118 : decode cX7_joinAll 118 = .ok (.iload 5, 2) := by decide +kernel
theorem dX7_joinAll_120 : decode cX7_joinAll 120 = .ok (.iaload, 1) := by decide +kernel
theorem dX7_joinAll_121 : decode cX7_joinAll 121 = .ok (.iload_n 3, 1) := by decide +kernel
theorem dX7_joinAll_122 : decode cX7_joinAll 122 = .ok (.if_icmp .ne 8, 3) := by decide +kernel
theorem dX7_joinAll_125 : decode cX7_joinAll 125 = .ok (.iload 4, 2) := by decide +kernel
theorem dX7_joinAll_127 : decode cX7_joinAll 127 = .ok (.goto 10, 3) := by decide +kernel
theorem dX7_joinAll_130 : decode cX7_joinAll 130 = .ok (.aload_n 0, 1) := by decide +kernel
theorem dX7_joinAll_131 : decode cX7_joinAll 131 = .ok (.getfield 47, 3) := by decide +kernel
theorem dX7_joinAll_134 : decode cX7_joinAll 134 = .ok (.iload 5, 2) := by decide +kernel
theorem dX7_joinAll_136 : decode cX7_joinAll 136 = .ok (.iaload, 1) := by decide +kernel
theorem dX7_joinAll_137 : decode cX7_joinAll 137 = .ok (.iastore, 1) := by decide +kernel
theorem dX7_joinAll_138 : decode cX7_joinAll 138 = .ok (.iinc 5 1, 3) := by decide +kernel
theorem dX7_joinAll_141 : decode cX7_joinAll 141 = .ok (.goto (-53), 3) := by decide +kernel
theorem dX7_joinAll_144 : decode cX7_joinAll 144 = .ok (.iinc 1 1, 3) := by decide +kernel
theorem dX7_joinAll_147 : decode cX7_joinAll 147 = .ok (.goto (-122), 3) := by decide +kernel
theorem dX7_joinAll_150 : decode cX7_joinAll 150 = .ok (.return_, 1) := by decide +kernel
set_option maxRecDepth 20000 in
theorem ggX7_isDoubled_X7_isDimension : GoodIn wsX7_isDoubled wsX7_isDimension := goodIn_r _ [7, 8, 9, 10, 6, 11, 20, 21, 22, 23, 24, 25, 26, 27, 28, 29, 30, 31, 32, 33, 34, 35, 36, 37, 38, 39, 40, 41, 42, 43, 44, 45, 46, 47, 48, 49, 50, 51, 52, 53] (by decide +kernel) (by decide +kernel)
set_option maxRecDepth 20000 in
theorem gX7_isDoubled_X7_isDimension : GoodIn wsX7_isDoubled (wsV RX7 91 RX7 yX7_isDimension wsX7_isDimension) := goodIn_app (goodIn_of _ (by decide +kernel)) ggX7_isDoubled_X7_isDimension
set_option maxRecDepth 20000 in
theorem ggX7_isDoubled_X7_joinAll : GoodIn wsX7_isDoubled wsX7_joinAll := goodIn_r _ [15, 16, 17, 8, 18, 19, 2, 20, 21, 22, 23, 24, 25, 26, 27, 28, 29, 30, 31, 32, 33, 34, 35, 36, 37, 38, 39, 40, 41, 42, 43, 44, 45, 46, 47, 48, 49, 50, 51, 52, 53] (by decide +kernel) (by decide +kernel)
set_option maxRecDepth 20000 in
theorem gX7_isDoubled_X7_joinAll : GoodIn wsX7_isDoubled (wsV RX7 156 RX7 yX7_joinAll wsX7_joinAll) := goodIn_app (goodIn_of _ (by decide +kernel)) ggX7_isDoubled_X7_joinAll
theorem dX7_isDoubled_0 : decode cX7_isDoubled 0 = .ok (.aload_n 0, 1) := by decide +kernel
theorem dX7_isDoubled_1 : decode cX7_isDoubled 1 = .ok (.aload_n 0, 1) := by decide +kernel
theorem dX7_isDoubled_2 : decode cX7_isDoubled 2 = .ok (.iload_n 1, 1) := by decide +kernel
theorem dX7_isDoubled_3 : decode cX7_isDoubled 3 = .ok (.invokevirtual 91, 3) := by decide +kernel
theorem dX7_isDoubled_6 : decode cX7_isDoubled 6 = .ok (.ifCond .eq 7, 3) := by decide +kernel
theorem dX7_isDoubled_9 : decode cX7_isDoubled 9 = .ok (.iconst 0, 1) := by decide +kernel
theorem dX7_isDoubled_10 : decode cX7_isDoubled 10 = .ok (.goto 4, 3) := by decide +kernel
theorem dX7_isDoubled_13 : decode cX7_isDoubled 13 = .ok (.iconst 1, 1) := by decide +kernel
theorem dX7_isDoubled_14 : decode cX7_isDoubled 14 = .ok (.putfield 67, 3) := by decide +kernel
theorem dX7_isDoubled_17 : decode cX7_isDoubled 17 = .ok (.aload_n 0, 1) := by decide +kernel
theorem dX7_isDoubled_18 : decode cX7_isDoubled 18 = .ok (.invokevirtual 156, 3) := by decide +kernel
theorem dX7_isDoubled_21 : decode cX7_isDoubled 21 = .ok (.aload_n 0, 1) := by decide +kernel
theorem dX7_isDoubled_22 : decode cX7_isDoubled 22 = .ok (.getfield 67, 3) := by decide +kernel
theorem dX7_isDoubled_25 : decode cX7_isDoubled 25 = .ok (.ifCond .ne 16, 3) := by decide +kernel
theorem dX7_isDoubled_28 : decode cX7_isDoubled 28 = .ok (.aload_n 0, 1) := by decide +kernel
theorem dX7_isDoubled_29 : decode cX7_isDoubled 29 = .ok (.getfield 50, 3) := by decide +kernel
theorem dX7_isDoubled_32 : decode cX7_isDoubled 32 = .ok (.iload_n 1, 1) := by decide +kernel
theorem dX7_isDoubled_33 : decode cX7_isDoubled 33 = .ok (.baload, 1) := by decide +kernel
theorem dX7_isDoubled_34 : decode cX7_isDoubled 34 = .ok (.ifCond .eq 7, 3) := by decide +kernel
theorem dX7_isDoubled_37 : decode cX7_isDoubled 37 = .ok (.iconst 1, 1) := by decide +kernel
theorem dX7_isDoubled_38 : decode cX7_isDoubled 38 = .ok (.goto 4, 3) := by decide +kernel
theorem dX7_isDoubled_41 : decode cX7_isDoubled 41 = .ok (.iconst 0, 1) := by decide +kernel
theorem dX7_isDoubled_42 : decode cX7_isDoubled 42 = .ok (.ireturn, 1) := by decide +kernel
set_option maxRecDepth 20000 in
theorem ggX7_missing_X7_joinAll : GoodIn wsX7_missing wsX7_joinAll := goodIn_r _ [8, 2, 3, 9, 10, 11, 12, 13, 14, 15, 16, 17, 18, 19, 20, 21, 22, 23, 24, 25, 26, 27, 28, 29, 30, 31, 32, 33, 34, 35, 36, 37, 38, 39, 40, 41, 42, 43, 44, 45, 46] (by decide +kernel) (by decide +kernel)
set_option maxRecDepth 20000 in
theorem gX7_missing_X7_joinAll : GoodIn wsX7_missing (wsV RX7 156 RX7 yX7_joinAll wsX7_joinAll) := goodIn_app (goodIn_of _ (by decide +kernel)) ggX7_missing_X7_joinAll
theorem dX7_missing_0 : decode cX7_missing 0 = .ok (.aload_n 0, 1) := by decide +kernel
theorem dX7_missing_1 : decode cX7_missing 1 = .ok (.iconst 0, 1) := by decide +kernel
theorem dX7_missing_2 : decode cX7_missing 2 = .ok (.putfield 67, 3) := by decide +kernel
theorem dX7_missing_5 : decode cX7_missing 5 = .ok (.aload_n 0, 1) := by decide +kernel
theorem dX7_missing_6 : decode cX7_missing 6 = .ok (.invokevirtual 156, 3) := by decide +kernel
theorem dX7_missing_9 : decode cX7_missing 9 = .ok (.iconst 0, 1) := by decide +kernel
theorem dX7_missing_10 : decode cX7_missing 10 = .ok (.istore_n 1, 1) := by decide +kernel
theorem dX7_missing_11 : decode cX7_missing 11 = .ok (.iconst 0, 1) := by decide +kernel
theorem dX7_missing_12 : decode cX7_missing 12 = .ok (.istore_n 2, 1) := by decide +kernel
theorem dX7_missing_13 : decode cX7_missing 13 = .ok (.iload_n 2, 1) := by decide +kernel
theorem dX7_missing_14 : decode cX7_missing 14 = .ok (.aload_n 0, 1) := by decide +kernel
theorem dX7_missing_15 : decode cX7_missing 15 = .ok (.getfield 7, 3) := by decide +kernel
theorem dX7_missing_18 : decode cX7_missing 18 = .ok (.if_icmp .ge 27, 3) := by decide +kernel
theorem dX7_missing_21 : decode cX7_missing 21 = .ok (.iload_n 1, 1) := by decide +kernel
theorem dX7_missing_22 : decode cX7_missing 22 = .ok (.aload_n 0, 1) := by decide +kernel
theorem dX7_missing_23 : decode cX7_missing 23 = .ok (.getfield 47, 3) := by decide +kernel
theorem dX7_missing_26 : decode cX7_missing 26 = .ok (.iload_n 2, 1) := by decide +kernel
theorem dX7_missing_27 : decode cX7_missing 27 = .ok (.iaload, 1) := by decide +kernel
theorem dX7_missing_28 : decode cX7_missing 28 = .ok (.iload_n 2, 1) := by decide +kernel
theorem dX7_missing_29 : decode cX7_missing 29 = .ok (.if_icmp .ne 7, 3) := by decide +kernel
theorem dX7_missing_32 : decode cX7_missing 32 = .ok (.iconst 1, 1) := by decide +kernel
theorem dX7_missing_33 : decode cX7_missing 33 = .ok (.goto 4, 3) := by decide +kernel
theorem dX7_missing_36 : decode cX7_missing 36 = .ok (.iconst 0, 1) := by decide +kernel
theorem dX7_missing_37 : decode cX7_missing 37 = .ok (.iadd, 1) := by decide +kernel
theorem dX7_missing_38 : decode cX7_missing 38 = .ok (.istore_n 1, 1) := by decide +kernel
theorem dX7_missing_39 : decode cX7_missing 39 = .ok (.iinc 2 1, 3) := by decide +kernel
theorem dX7_missing_42 : decode cX7_missing 42 = .ok (.goto (-29), 3) := by decide +kernel
theorem dX7_missing_45 : decode cX7_missing 45 = .ok (.iload_n 1, 1) := by decide +kernel
theorem dX7_missing_46 : decode cX7_missing 46 = .ok (.iconst 1, 1) := by decide +kernel
theorem dX7_missing_47 : decode cX7_missing 47 = .ok (.isub, 1) := by decide +kernel
theorem dX7_missing_48 : decode cX7_missing 48 = .ok (.ireturn, 1) := by decide +kernel
set_option maxRecDepth 20000 in
theorem ggX7_partOf_X7_isFace : GoodIn wsX7_partOf wsX7_isFace := goodIn_r _ [7, 8, 9, 10, 6, 11, 20, 21, 22, 23, 24, 25, 26, 27, 28, 29, 30, 31, 32, 33, 34, 35, 36, 37, 38, 39, 40, 41, 42, 43, 44, 45, 46, 47, 48, 49, 50, 51, 52, 53] (by decide +kernel) (by decide +kernel)
set_option maxRecDepth 20000 in
theorem gX7_partOf_X7_isFace : GoodIn wsX7_partOf (wsV RX7 83 RX7 yX7_isFace wsX7_isFace) := goodIn_app (goodIn_of _ (by decide +kernel)) ggX7_partOf_X7_isFace
set_option maxRecDepth 20000 in
theorem ggX7_partOf_X7_joinAll : GoodIn wsX7_partOf wsX7_joinAll := goodIn_r _ [15, 8, 2, 16, 17, 18, 19, 20, 21, 22, 23, 24, 25, 26, 27, 28, 29, 30, 31, 32, 33, 34, 35, 36, 37, 38, 39, 40, 41, 42, 43, 44, 45, 46, 47, 48, 49, 50, 51, 52, 53] (by decide +kernel) (by decide +kernel)
set_option maxRecDepth 20000 in
theorem gX7_partOf_X7_joinAll : GoodIn wsX7_partOf (wsV RX7 156 RX7 yX7_joinAll wsX7_joinAll) := goodIn_app (goodIn_of _ (by decide +kernel)) ggX7_partOf_X7_joinAll
theorem dX7_partOf_0 : decode cX7_partOf 0 = .ok (.aload_n 0, 1) := by decide +kernel
theorem dX7_partOf_1 : decode cX7_partOf 1 = .ok (.aload_n 0, 1) := by decide +kernel
theorem dX7_partOf_2 : decode cX7_partOf 2 = .ok (.iload_n 1, 1) := by decide +kernel
theorem dX7_partOf_3 : decode cX7_partOf 3 = .ok (.invokevirtual 83, 3) := by decide +kernel
theorem dX7_partOf_6 : decode cX7_partOf 6 = .ok (.ifCond .eq 7, 3) := by decide +kernel
theorem dX7_partOf_9 : decode cX7_partOf 9 = .ok (.iconst 0, 1) := by decide +kernel
theorem dX7_partOf_10 : decode cX7_partOf 10 = .ok (.goto 4, 3) := by decide +kernel
theorem dX7_partOf_13 : decode cX7_partOf 13 = .ok (.iconst 1, 1) := by decide +kernel
theorem dX7_partOf_14 : decode cX7_partOf 14 = .ok (.putfield 67, 3) := by decide +kernel
theorem dX7_partOf_17 : decode cX7_partOf 17 = .ok (.aload_n 0, 1) := by decide +kernel
theorem dX7_partOf_18 : decode cX7_partOf 18 = .ok (.invokevirtual 156, 3) := by decide +kernel
theorem dX7_partOf_21 : decode cX7_partOf 21 = .ok (.aload_n 0, 1) := by decide +kernel
theorem dX7_partOf_22 : decode cX7_partOf 22 = .ok (.getfield 67, 3) := by decide +kernel
theorem dX7_partOf_25 : decode cX7_partOf 25 = .ok (.ifCond .le 7, 3) := by decide +kernel
theorem dX7_partOf_28 : decode cX7_partOf 28 = .ok (.iconst 0, 1) := by decide +kernel
theorem dX7_partOf_29 : decode cX7_partOf 29 = .ok (.goto 9, 3) := by decide +kernel
theorem dX7_partOf_32 : decode cX7_partOf 32 = .ok (.aload_n 0, 1) := by decide +kernel
theorem dX7_partOf_33 : decode cX7_partOf 33 = .ok (.getfield 47, 3) := by decide +kernel
theorem dX7_partOf_36 : decode cX7_partOf 36 = .ok (.iload_n 1, 1) := by decide +kernel
theorem dX7_partOf_37 : decode cX7_partOf 37 = .ok (.iaload, 1) := by decide +kernel
theorem dX7_partOf_38 : decode cX7_partOf 38 = .ok (.ireturn, 1) := by decide +kernel
theorem dX7_layChain_0 : decode cX7_layChain 0 = .ok (.aload_n 0, 1) := by decide +kernel
theorem dX7_layChain_1 : decode cX7_layChain 1 = .ok (.iconst 0, 1) := by decide +kernel
theorem dX7_layChain_2 : decode cX7_layChain 2 = .ok (.putfield 159, 3) := by decide +kernel
theorem dX7_layChain_5 : decode cX7_layChain 5 = .ok (.aload_n 0, 1) := by decide +kernel
theorem dX7_layChain_6 : decode cX7_layChain 6 = .ok (.getfield 47, 3) := by decide +kernel
theorem dX7_layChain_9 : decode cX7_layChain 9 = .ok (.iload_n 1, 1) := by decide +kernel
theorem dX7_layChain_10 : decode cX7_layChain 10 = .ok (.iaload, 1) := by decide +kernel
theorem dX7_layChain_11 : decode cX7_layChain 11 = .ok (.aload_n 0, 1) := by decide +kernel
theorem dX7_layChain_12 : decode cX7_layChain 12 = .ok (.getfield 47, 3) := by decide +kernel
theorem dX7_layChain_15 : decode cX7_layChain 15 = .ok (.iload_n 2, 1) := by decide +kernel
theorem dX7_layChain_16 : decode cX7_layChain 16 = .ok (.iaload, 1) := by decide +kernel
theorem dX7_layChain_17 : decode cX7_layChain 17 = .ok (.if_icmp .eq 5, 3) := by decide +kernel
theorem dX7_layChain_20 : decode cX7_layChain 20 = .ok (.iconst 0, 1) := by decide +kernel
theorem dX7_layChain_21 : decode cX7_layChain 21 = .ok (.ireturn, 1) := by decide +kernel
theorem dX7_layChain_22 : decode cX7_layChain 22 = .ok (.iconst 0, 1) := by decide +kernel
theorem dX7_layChain_23 : decode cX7_layChain 23 = .ok (.istore_n 3, 1) := by decide +kernel
theorem dX7_layChain_24 : decode cX7_layChain 24 = .ok (.iload_n 3, 1) := by decide +kernel
theorem dX7_layChain_25 : decode cX7_layChain 25 = .ok (.aload_n 0, 1) := by decide +kernel
theorem dX7_layChain_26 : decode cX7_layChain 26 = .ok (.getfield 7, 3) := by decide +kernel
theorem dX7_layChain_29 : decode cX7_layChain 29 = .ok (.if_icmp .ge 26, 3) := by decide +kernel
theorem dX7_layChain_32 : decode cX7_layChain 32 = .ok (.aload_n 0, 1) := by decide +kernel
theorem dX7_layChain_33 : decode cX7_layChain 33 = .ok (.getfield 57, 3) := by decide +kernel
theorem dX7_layChain_36 : decode cX7_layChain 36 = .ok (.iload_n 3, 1) := by decide +kernel
theorem dX7_layChain_37 : decode cX7_layChain 37 = .ok (.iload_n 3, 1) := by decide +kernel
theorem dX7_layChain_38 : decode cX7_layChain 38 = .ok (.iload_n 2, 1) := by decide +kernel
theorem dX7_layChain_39 : decode cX7_layChain 39 = .ok (.if_icmp .ne 8, 3) := by decide +kernel
theorem dX7_layChain_42 : decode cX7_layChain 42 = .ok (.bipush 20, 2) := by decide +kernel
theorem dX7_layChain_44 : decode cX7_layChain 44 = .ok (.goto 4, 3) := by decide +kernel
theorem dX7_layChain_47 : decode cX7_layChain 47 = .ok (.iconst (-1), 1) := by decide +kernel
theorem dX7_layChain_48 : decode cX7_layChain 48 = .ok (.iastore, 1) := by decide +kernel
theorem dX7_layChain_49 : decode cX7_layChain 49 = .ok (.iinc 3 1, 3) := by decide +kernel
theorem dX7_layChain_52 : decode cX7_layChain 52 = .ok (.goto (-28), 3) := by decide +kernel
theorem dX7_layChain_55 : decode cX7_layChain 55 = .ok (.iconst 0, 1) := by decide +kernel
theorem dX7_layChain_56 : decode cX7_layChain 56 = .ok (.istore_n 3, 1) := by decide +kernel
theorem dX7_layChain_57 : decode cX7_layChain 57 = .ok (.iload_n 3, 1) := by decide +kernel
theorem dX7_layChain_58 : decode cX7_layChain 58 = .ok (.aload_n 0, 1) := by decide +kernel
theorem dX7_layChain_59 : decode cX7_layChain 59 = .ok (.getfield 7, 3) := by decide +kernel
theorem dX7_layChain_62 : decode cX7_layChain 62 = .ok (.if_icmp .ge 142, 3) := by decide +kernel
theorem dX7_layChain_65 : decode cX7_layChain 65 = .ok (.iconst 0, 1) := by decide +kernel
theorem dX7_layChain_66 : decode cX7_layChain 66 = .ok (.istore 4, 2) := by decide +kernel
theorem dX7_layChain_68 : decode cX7_layChain 68 = .ok (.iload 4, 2) := by decide +kernel
theorem dX7_layChain_70 : decode cX7_layChain 70 = .ok (.aload_n 0, 1) := by decide +kernel
theorem dX7_layChain_71 : decode cX7_layChain 71 = .ok (.getfield 74, 3) := by decide +kernel
theorem dX7_layChain_74 : decode cX7_layChain 74 = .ok (.if_icmp .ge 124, 3) := by decide +kernel
theorem dX7_layChain_77 : decode cX7_layChain 77 = .ok (.aload_n 0, 1) := by decide +kernel
theorem dX7_layChain_78 : decode cX7_layChain 78 = .ok (.getfield 50, 3) := by decide +kernel
theorem dX7_layChain_81 : decode cX7_layChain 81 = .ok (.iload 4, 2) := by decide +kernel
theorem dX7_layChain_83 : decode cX7_layChain 83 = .ok (.baload, 1) := by decide +kernel
theorem dX7_layChain_84 : decode cX7_layChain 84 = .ok (.ifCond .ne 52, 3) := by decide +kernel
theorem dX7_layChain_87 : decode cX7_layChain 87 = .ok (.aload_n 0, 1) := by decide +kernel
theorem dX7_layChain_88 : decode cX7_layChain 88 = .ok (.getfield 57, 3) := by decide +kernel
theorem dX7_layChain_91 : decode cX7_layChain 91 = .ok (.aload_n 0, 1) := by decide +kernel
theorem dX7_layChain_92 : decode cX7_layChain 92 = .ok (.getfield 13, 3) := by decide +kernel
theorem dX7_layChain_95 : decode cX7_layChain 95 = .ok (.iload 4, 2) := by decide +kernel
theorem dX7_layChain_97 : decode cX7_layChain 97 = .ok (.iaload, 1) := by decide +kernel
theorem dX7_layChain_98 : decode cX7_layChain 98 = .ok (.iaload, 1) := by decide +kernel
theorem dX7_layChain_99 : decode cX7_layChain 99 = .ok (.iconst (-1), 1) := by decide +kernel
theorem dX7_layChain_100 : decode cX7_layChain 100 = .ok (.if_icmp .eq 36, 3) := by decide +kernel
theorem dX7_layChain_103 : decode cX7_layChain 103 = .ok (.aload_n 0, 1) := by decide +kernel
theorem dX7_layChain_104 : decode cX7_layChain 104 = .ok (.getfield 57, 3) := by decide +kernel
theorem dX7_layChain_107 : decode cX7_layChain 107 = .ok (.aload_n 0, 1) := by decide +kernel
theorem dX7_layChain_108 : decode cX7_layChain 108 = .ok (.getfield 17, 3) := by decide +kernel
theorem dX7_layChain_111 : decode cX7_layChain 111 = .ok (.iload 4, 2) := by decide +kernel
theorem dX7_layChain_113 : decode cX7_layChain 113 = .ok (.iaload, 1) := by decide +kernel
theorem dX7_layChain_114 : decode cX7_layChain 114 = .ok (.iaload, 1) := by decide +kernel
theorem dX7_layChain_115 : decode cX7_layChain 115 = .ok (.iconst (-1), 1) := by decide +kernel
theorem dX7_layChain_116 : decode cX7_layChain 116 = .ok (.if_icmp .ne 20, 3) := by decide +kernel
theorem dX7_layChain_119 : decode cX7_layChain 119 = .ok (.aload_n 0, 1) := by decide +kernel
theorem dX7_layChain_120 : decode cX7_layChain 120 = .ok (.getfield 57, 3) := by decide +kernel
theorem dX7_layChain_123 : decode cX7_layChain 123 = .ok (.aload_n 0, 1) := by decide +kernel
theorem dX7_layChain_124 : decode cX7_layChain 124 = .ok (.getfield 17, 3) := by decide +kernel
theorem dX7_layChain_127 : decode cX7_layChain 127 = .ok (.iload 4, 2) := by decide +kernel
theorem dX7_layChain_129 : decode cX7_layChain 129 = .ok (.iaload, 1) := by decide +kernel
theorem dX7_layChain_130 : decode cX7_layChain 130 = .ok (.iload 4, 2) := by decide +kernel
theorem dX7_layChain_132 : decode cX7_layChain 132 = .ok (.iastore, 1) := by decide +kernel
theorem dX7_layChain_133 : decode cX7_layChain 133 = .ok (.goto 59, 3) := by decide +kernel
theorem dX7_layChain_136 : decode cX7_layChain 136 = .ok (.aload_n 0, 1) := by decide +kernel
theorem dX7_layChain_137 : decode cX7_layChain 137 = .ok (.getfield 50, 3) := by decide +kernel
theorem dX7_layChain_140 : decode cX7_layChain 140 = .ok (.iload 4, 2) := by decide +kernel
theorem dX7_layChain_142 : decode cX7_layChain 142 = .ok (.baload, 1) := by decide +kernel
theorem dX7_layChain_143 : decode cX7_layChain 143 = .ok (.ifCond .ne 49, 3) := by decide +kernel
theorem dX7_layChain_146 : decode cX7_layChain 146 = .ok (.aload_n 0, 1) := by decide +kernel
theorem dX7_layChain_147 : decode cX7_layChain 147 = .ok (.getfield 57, 3) := by decide +kernel
theorem dX7_layChain_150 : decode cX7_layChain 150 = .ok (.aload_n 0, 1) := by decide +kernel
theorem dX7_layChain_151 : decode cX7_layChain 151 = .ok (.getfield 17, 3) := by decide +kernel
theorem dX7_layChain_154 : decode cX7_layChain 154 = .ok (.iload 4, 2) := by decide +kernel
theorem dX7_layChain_156 : decode cX7_layChain 156 = .ok (.iaload, 1) := by decide +kernel
theorem dX7_layChain_157 : decode cX7_layChain 157 = .ok (.iaload, 1) := by decide +kernel
theorem dX7_layChain_158 : decode cX7_layChain 158 = .ok (.iconst (-1), 1) := by decide +kernel
theorem dX7_layChain_159 : decode cX7_layChain 159 = .ok (.if_icmp .eq 33, 3) := by decide +kernel
theorem dX7_layChain_162 : decode cX7_layChain 162 = .ok (.aload_n 0, 1) := by decide +kernel
theorem dX7_layChain_163 : decode cX7_layChain 163 = .ok (.getfield 57, 3) := by decide +kernel
theorem dX7_layChain_166 : decode cX7_layChain 166 = .ok (.aload_n 0, 1) := by decide +kernel
theorem dX7_layChain_167 : decode cX7_layChain 167 = .ok (.getfield 13, 3) := by decide +kernel
theorem dX7_layChain_170 : decode cX7_layChain 170 = .ok (.iload 4, 2) := by decide +kernel
theorem dX7_layChain_172 : decode cX7_layChain 172 = .ok (.iaload, 1) := by decide +kernel
theorem dX7_layChain_173 : decode cX7_layChain 173 = .ok (.iaload, 1) := by decide +kernel
theorem dX7_layChain_174 : decode cX7_layChain 174 = .ok (.iconst (-1), 1) := by decide +kernel
theorem dX7_layChain_175 : decode cX7_layChain 175 = .ok (.if_icmp .ne 17, 3) := by decide +kernel
theorem dX7_layChain_178 : decode cX7_layChain 178 = .ok (.aload_n 0, 1) := by decide +kernel
theorem dX7_layChain_179 : decode cX7_layChain 179 = .ok (.getfield 57, 3) := by decide +kernel
theorem dX7_layChain_182 : decode cX7_layChain 182 = .ok (.aload_n 0, 1) := by decide +kernel
theorem dX7_layChain_183 : decode cX7_layChain 183 = .ok (.getfield 13, 3) := by decide +kernel
theorem dX7_layChain_186 : decode cX7_layChain 186 = .ok (.iload 4, 2) := by decide +kernel
theorem dX7_layChain_188 : decode cX7_layChain 188 = .ok (.iaload, 1) := by decide +kernel
theorem dX7_layChain_189 : decode cX7_layChain 189 = .ok (.iload 4, 2) := by decide +kernel
theorem dX7_layChain_191 : decode cX7_layChain 191 = .ok (.iastore, 1) := by decide +kernel
theorem dX7_layChain_192 : decode cX7_layChain 192 = .ok (.iinc 4 1, 3) := by decide +kernel
theorem dX7_layChain_195 : decode cX7_layChain 195 = .ok (.goto (-127), 3) := by decide +kernel
theorem dX7_layChain_198 : decode cX7_layChain 198 = .ok (.iinc 3 1, 3) := by decide +kernel
theorem dX7_layChain_201 : decode cX7_layChain 201 = .ok (.goto (-144), 3) := by decide +kernel
theorem dX7_layChain_204 : decode cX7_layChain 204 = .ok (.iload_n 1, 1) := by decide +kernel
theorem dX7_layChain_205 : decode cX7_layChain 205 = .ok (.istore_n 3, 1) := by decide +kernel
theorem dX7_layChain_206 : decode cX7_layChain 206 = .ok (.iload_n 3, 1) := by decide +kernel
theorem dX7_layChain_207 : decode cX7_layChain 207 = .ok (.iload_n 2, 1) := by decide +kernel
theorem dX7_layChain_208 : decode cX7_layChain 208 = .ok (.if_icmp .eq 64, 3) := by decide +kernel
theorem dX7_layChain_211 : decode cX7_layChain 211 = .ok (.aload_n 0, 1) := by decide +kernel
theorem dX7_layChain_212 : decode cX7_layChain 212 = .ok (.getfield 57, 3) := by decide +kernel
theorem dX7_layChain_215 : decode cX7_layChain 215 = .ok (.iload_n 3, 1) := by decide +kernel
theorem dX7_layChain_216 : decode cX7_layChain 216 = .ok (.iaload, 1) := by decide +kernel
theorem dX7_layChain_217 : decode cX7_layChain 217 = .ok (.istore 4, 2) := by decide +kernel
theorem dX7_layChain_219 : decode cX7_layChain 219 = .ok (.aload_n 0, 1) := by decide +kernel
theorem dX7_layChain_220 : decode cX7_layChain 220 = .ok (.getfield 54, 3) := by decide +kernel
theorem dX7_layChain_223 : decode cX7_layChain 223 = .ok (.aload_n 0, 1) := by decide +kernel
theorem dX7_layChain_224 : decode cX7_layChain 224 = .ok (.getfield 159, 3) := by decide +kernel
theorem dX7_layChain_227 : decode cX7_layChain 227 = .ok (.iload 4, 2) := by decide +kernel
theorem dX7_layChain_229 : decode cX7_layChain 229 = .ok (.iastore, 1) := by decide +kernel
theorem dX7_layChain_230 : decode cX7_layChain 230 = .ok (.aload_n 0, 1) := by decide +kernel
theorem dX7_layChain_231 : decode cX7_layChain 231 = .ok (.dup, 1) := by decide +kernel
theorem dX7_layChain_232 : decode cX7_layChain 232 = .ok (.getfield 159, 3) := by decide +kernel
theorem dX7_layChain_235 : decode cX7_layChain 235 = .ok (.iconst 1, 1) := by decide +kernel
theorem dX7_layChain_236 : decode cX7_layChain 236 = .ok (.iadd, 1) := by decide +kernel
theorem dX7_layChain_237 : decode cX7_layChain 237 = .ok (.putfield 159, 3) := by decide +kernel
theorem dX7_layChain_240 : decode cX7_layChain 240 = .ok (.aload_n 0, 1) := by decide +kernel
theorem dX7_layChain_241 : decode cX7_layChain 241 = .ok (.getfield 13, 3) := by decide +kernel
theorem dX7_layChain_244 : decode cX7_layChain 244 = .ok (.iload 4, 2) := by decide +kernel
theorem dX7_layChain_246 : decode cX7_layChain 246 = .ok (.iaload, 1) := by decide +kernel
theorem dX7_layChain_247 : decode cX7_layChain 247 = .ok (.iload_n 3, 1) := by decide +kernel
theorem dX7_layChain_248 : decode cX7_layChain 248 = .ok (.if_icmp .ne 13, 3) := by decide +kernel
theorem dX7_layChain_251 : decode cX7_layChain 251 = .ok (.aload_n 0, 1) := by decide +kernel
theorem dX7_layChain_252 : decode cX7_layChain 252 = .ok (.getfield 17, 3) := by decide +kernel
theorem dX7_layChain_255 : decode cX7_layChain 255 = .ok (.iload 4, 2) := by decide +kernel
theorem dX7_layChain_257 : decode cX7_layChain 257 = .ok (.iaload, 1) := by decide +kernel
theorem dX7_layChain_258 : decode cX7_layChain 258 = .ok (.goto 10, 3) := by decide +kernel
theorem dX7_layChain_261 : decode cX7_layChain 261 = .ok (.aload_n 0, 1) := by decide +kernel
theorem dX7_layChain_262 : decode cX7_layChain 262 = .ok (.getfield 13, 3) := by decide +kernel
theorem dX7_layChain_265 : decode cX7_layChain 265 = .ok (.iload 4, 2) := by decide +kernel
theorem dX7_layChain_267 : decode cX7_layChain 267 = .ok (.iaload, 1) := by decide +kernel
theorem dX7_layChain_268 : decode cX7_layChain 268 = .ok (.istore_n 3, 1) := by decide +kernel
theorem dX7_layChain_269 : decode cX7_layChain 269 = .ok (.goto (-63), 3) := by decide +kernel
theorem dX7_layChain_272 : decode cX7_layChain 272 = .ok (.iconst 1, 1) := by decide +kernel
theorem dX7_layChain_273 : decode cX7_layChain 273 = .ok (.ireturn, 1) := by decide +kernel
set_option maxRecDepth 20000 in
theorem ggX7_areFaces_X7_isFace : GoodIn wsX7_areFaces wsX7_isFace := goodIn_r _ [5, 6, 7, 8, 4, 9, 10, 11, 12, 13, 14, 15, 16, 17, 18, 19, 20, 21, 22, 23, 24, 25, 26, 27, 28, 29, 30, 31, 32, 33, 34, 35, 36, 37, 38, 39, 40, 41, 42, 43] (by decide +kernel) (by decide +kernel)
set_option maxRecDepth 20000 in
theorem gX7_areFaces_X7_isFace : GoodIn wsX7_areFaces (wsV RX7 83 RX7 yX7_isFace wsX7_isFace) := goodIn_app (goodIn_of _ (by decide +kernel)) ggX7_areFaces_X7_isFace
theorem dX7_areFaces_0 : decode cX7_areFaces 0 = .ok (.aload_n 0, 1) := by decide +kernel
theorem dX7_areFaces_1 : decode cX7_areFaces 1 = .ok (.iload_n 1, 1) := by decide +kernel
theorem dX7_areFaces_2 : decode cX7_areFaces 2 = .ok (.invokevirtual 83, 3) := by decide +kernel
theorem dX7_areFaces_5 : decode cX7_areFaces 5 = .ok (.ifCond .eq 15, 3) := by decide +kernel
theorem dX7_areFaces_8 : decode cX7_areFaces 8 = .ok (.aload_n 0, 1) := by decide +kernel
theorem dX7_areFaces_9 : decode cX7_areFaces 9 = .ok (.iload_n 2, 1) := by decide +kernel
theorem dX7_areFaces_10 : decode cX7_areFaces 10 = .ok (.invokevirtual 83, 3) := by decide +kernel
theorem dX7_areFaces_13 : decode cX7_areFaces 13 = .ok (.ifCond .eq 7, 3) := by decide +kernel
theorem dX7_areFaces_16 : decode cX7_areFaces 16 = .ok (.iconst 1, 1) := by decide +kernel
theorem dX7_areFaces_17 : decode cX7_areFaces 17 = .ok (.goto 4, 3) := by decide +kernel
theorem dX7_areFaces_20 : decode cX7_areFaces 20 = .ok (.iconst 0, 1) := by decide +kernel
theorem dX7_areFaces_21 : decode cX7_areFaces 21 = .ok (.ireturn, 1) := by decide +kernel
set_option maxRecDepth 20000 in
theorem ggX7_findChain_X7_joinAll : GoodIn wsX7_findChain wsX7_joinAll := goodIn_r _ [5, 6, 7, 8, 9, 10, 11, 30, 31, 32, 33, 34, 35, 36, 37, 38, 39, 40, 41, 42, 43, 44, 45, 46, 47, 48, 49, 50, 51, 52, 53, 54, 55, 56, 57, 58, 59, 60, 61, 62, 63] (by decide +kernel) (by decide +kernel)
set_option maxRecDepth 20000 in
theorem gX7_findChain_X7_joinAll : GoodIn wsX7_findChain (wsV RX7 156 RX7 yX7_joinAll wsX7_joinAll) := goodIn_app (goodIn_of _ (by decide +kernel)) ggX7_findChain_X7_joinAll
set_option maxRecDepth 20000 in
theorem ggX7_findChain_X7_areFaces : GoodIn wsX7_findChain wsX7_areFaces := goodIn_r _ [15, 16, 17, 18, 4, 19, 6, 20, 21, 22, 30, 31, 32, 33, 34, 35, 36, 37, 38, 39, 40, 41, 42, 43, 44, 45, 46, 47, 48, 49, 50, 51, 52, 53, 54, 55, 56, 57, 58, 59, 60, 61, 62, 63] (by decide +kernel) (by decide +kernel)
set_option maxRecDepth 20000 in
theorem gX7_findChain_X7_areFaces : GoodIn wsX7_findChain (wsV RX7 162 RX7 yX7_areFaces wsX7_areFaces) := goodIn_app (goodIn_of _ (by decide +kernel)) ggX7_findChain_X7_areFaces
set_option maxRecDepth 20000 in
theorem ggX7_findChain_X7_layChain : GoodIn wsX7_findChain wsX7_layChain := goodIn_r _ [26, 27, 7, 6, 28, 8, 11, 9, 10, 29, 30, 31, 32, 33, 34, 35, 36, 37, 38, 39, 40, 41, 42, 43, 44, 45, 46, 47, 48, 49, 50, 51, 52, 53, 54, 55, 56, 57, 58, 59, 60, 61, 62, 63] (by decide +kernel) (by decide +kernel)
set_option maxRecDepth 20000 in
theorem gX7_findChain_X7_layChain : GoodIn wsX7_findChain (wsV RX7 165 RX7 yX7_layChain wsX7_layChain) := goodIn_app (goodIn_of _ (by decide +kernel)) ggX7_findChain_X7_layChain
theorem dX7_findChain_0 : decode cX7_findChain 0 = .ok (.aload_n 0, 1) := by decide +kernel
theorem dX7_findChain_1 : decode cX7_findChain 1 = .ok (.invokevirtual 156, 3) := by decide +kernel
theorem dX7_findChain_4 : decode cX7_findChain 4 = .ok (.aload_n 0, 1) := by decide +kernel
theorem dX7_findChain_5 : decode cX7_findChain 5 = .ok (.iload_n 1, 1) := by decide +kernel
theorem dX7_findChain_6 : decode cX7_findChain 6 = .ok (.iload_n 2, 1) := by decide +kernel
theorem dX7_findChain_7 : decode cX7_findChain 7 = .ok (.invokevirtual 162, 3) := by decide +kernel
theorem dX7_findChain_10 : decode cX7_findChain 10 = .ok (.ifCond .eq 16, 3) := by decide +kernel
theorem dX7_findChain_13 : decode cX7_findChain 13 = .ok (.aload_n 0, 1) := by decide +kernel
theorem dX7_findChain_14 : decode cX7_findChain 14 = .ok (.iload_n 1, 1) := by decide +kernel
theorem dX7_findChain_15 : decode cX7_findChain 15 = .ok (.iload_n 2, 1) := by decide +kernel
theorem dX7_findChain_16 : decode cX7_findChain 16 = .ok (.invokevirtual 165, 3) := by decide +kernel
theorem dX7_findChain_19 : decode cX7_findChain 19 = .ok (.ifCond .eq 7, 3) := by decide +kernel
theorem dX7_findChain_22 : decode cX7_findChain 22 = .ok (.iconst 1, 1) := by decide +kernel
theorem dX7_findChain_23 : decode cX7_findChain 23 = .ok (.goto 4, 3) := by decide +kernel
theorem dX7_findChain_26 : decode cX7_findChain 26 = .ok (.iconst 0, 1) := by decide +kernel
theorem dX7_findChain_27 : decode cX7_findChain 27 = .ok (.ireturn, 1) := by decide +kernel
set_option maxRecDepth 20000 in
theorem ggX7_chainLength_X7_areFaces : GoodIn wsX7_chainLength wsX7_areFaces := goodIn_r _ [7, 8, 9, 10, 6, 11, 12, 13, 14, 15, 35, 36, 37, 38, 39, 40, 41, 42, 43, 44, 45, 46, 47, 48, 49, 50, 51, 52, 53, 54, 55, 56, 57, 58, 59, 60, 61, 62, 63, 64, 65, 66, 67, 68] (by decide +kernel) (by decide +kernel)
set_option maxRecDepth 20000 in
theorem gX7_chainLength_X7_areFaces : GoodIn wsX7_chainLength (wsV RX7 162 RX7 yX7_areFaces wsX7_areFaces) := goodIn_app (goodIn_of _ (by decide +kernel)) ggX7_chainLength_X7_areFaces
set_option maxRecDepth 20000 in
theorem ggX7_chainLength_X7_findChain : GoodIn wsX7_chainLength wsX7_findChain := goodIn_r _ [19, 20, 21, 22, 6, 23, 12, 24, 25, 26, 27, 28, 3, 4, 5, 7, 8, 9, 10, 11, 13, 14, 15, 29, 30, 31, 32, 2, 33, 34, 35, 36, 37, 38, 39, 40, 41, 42, 43, 44, 45, 46, 47, 48, 49, 50, 51, 52, 53, 54, 55, 56, 57, 58, 59, 60, 61, 62, 63, 64, 65, 66, 67, 68] (by decide +kernel) (by decide +kernel)
set_option maxRecDepth 20000 in
theorem gX7_chainLength_X7_findChain : GoodIn wsX7_chainLength (wsV RX7 168 RX7 yX7_findChain wsX7_findChain) := goodIn_app (goodIn_of _ (by decide +kernel)) ggX7_chainLength_X7_findChain
theorem dX7_chainLength_0 : decode cX7_chainLength 0 = .ok (.aload_n 0, 1) := by decide +kernel
theorem dX7_chainLength_1 : decode cX7_chainLength 1 = .ok (.aload_n 0, 1) := by decide +kernel
theorem dX7_chainLength_2 : decode cX7_chainLength 2 = .ok (.iload_n 1, 1) := by decide +kernel
theorem dX7_chainLength_3 : decode cX7_chainLength 3 = .ok (.iload_n 2, 1) := by decide +kernel
theorem dX7_chainLength_4 : decode cX7_chainLength 4 = .ok (.invokevirtual 162, 3) := by decide +kernel
theorem dX7_chainLength_7 : decode cX7_chainLength 7 = .ok (.ifCond .eq 7, 3) := by decide +kernel
theorem dX7_chainLength_10 : decode cX7_chainLength 10 = .ok (.iconst 0, 1) := by decide +kernel
theorem dX7_chainLength_11 : decode cX7_chainLength 11 = .ok (.goto 4, 3) := by decide +kernel
theorem dX7_chainLength_14 : decode cX7_chainLength 14 = .ok (.iconst 1, 1) := by decide +kernel
theorem dX7_chainLength_15 : decode cX7_chainLength 15 = .ok (.putfield 67, 3) := by decide +kernel
theorem dX7_chainLength_18 : decode cX7_chainLength 18 = .ok (.aload_n 0, 1) := by decide +kernel
theorem dX7_chainLength_19 : decode cX7_chainLength 19 = .ok (.getfield 67, 3) := by decide +kernel
theorem dX7_chainLength_22 : decode cX7_chainLength 22 = .ok (.ifCond .le 7, 3) := by decide +kernel
theorem dX7_chainLength_25 : decode cX7_chainLength 25 = .ok (.iconst 0, 1) := by decide +kernel
theorem dX7_chainLength_26 : decode cX7_chainLength 26 = .ok (.goto 20, 3) := by decide +kernel
theorem dX7_chainLength_29 : decode cX7_chainLength 29 = .ok (.aload_n 0, 1) := by decide +kernel
theorem dX7_chainLength_30 : decode cX7_chainLength 30 = .ok (.iload_n 1, 1) := by decide +kernel
theorem dX7_chainLength_31 : decode cX7_chainLength 31 = .ok (.iload_n 2, 1) := by decide +kernel
theorem dX7_chainLength_32 : decode cX7_chainLength 32 = .ok (.invokevirtual 168, 3) := by decide +kernel
theorem dX7_chainLength_35 : decode cX7_chainLength 35 = .ok (.ifCond .eq 10, 3) := by decide +kernel
theorem dX7_chainLength_38 : decode cX7_chainLength 38 = .ok (.aload_n 0, 1) := by decide +kernel
theorem dX7_chainLength_39 : decode cX7_chainLength 39 = .ok (.getfield 159, 3) := by decide +kernel
theorem dX7_chainLength_42 : decode cX7_chainLength 42 = .ok (.goto 4, 3) := by decide +kernel
theorem dX7_chainLength_45 : decode cX7_chainLength 45 = .ok (.iconst (-1), 1) := by decide +kernel
theorem dX7_chainLength_46 : decode cX7_chainLength 46 = .ok (.ireturn, 1) := by decide +kernel
set_option maxRecDepth 20000 in
theorem ggX7_chainDimension_X7_findChain : GoodIn wsX7_chainDimension wsX7_findChain := goodIn_r _ [8, 9, 10, 11, 7, 12, 13, 14, 15, 16, 17, 18, 19, 20, 21, 22, 23, 24, 25, 26, 27, 28, 29, 30, 31, 32, 33, 1, 34, 3, 35, 36, 37, 38, 39, 40, 41, 42, 43, 44, 45, 46, 47, 48, 49, 50, 51, 52, 53, 54, 55, 56, 57, 58, 59, 60, 61, 62, 63, 64, 65, 66, 67, 68] (by decide +kernel) (by decide +kernel)
set_option maxRecDepth 20000 in
theorem gX7_chainDimension_X7_findChain : GoodIn wsX7_chainDimension (wsV RX7 168 RX7 yX7_findChain wsX7_findChain) := goodIn_app (goodIn_of _ (by decide +kernel)) ggX7_chainDimension_X7_findChain
set_option maxRecDepth 20000 in
theorem ggX7_chainDimension_X7_within : GoodIn wsX7_chainDimension wsX7_within := goodIn_r _ [29] (by decide +kernel) (by decide +kernel)
set_option maxRecDepth 20000 in
theorem gX7_chainDimension_X7_within : GoodIn wsX7_chainDimension (va_wsS RX7 70 yX7_within wsX7_within) := goodIn_app (goodIn_of _ (by decide +kernel)) ggX7_chainDimension_X7_within
theorem dX7_chainDimension_0 : decode cX7_chainDimension 0 = .ok (.aload_n 0, 1) := by decide +kernel
theorem dX7_chainDimension_1 : decode cX7_chainDimension 1 = .ok (.aload_n 0, 1) := by decide +kernel
theorem dX7_chainDimension_2 : decode cX7_chainDimension 2 = .ok (.iload_n 1, 1) := by decide +kernel
theorem dX7_chainDimension_3 : decode cX7_chainDimension 3 = .ok (.iload_n 2, 1) := by decide +kernel
theorem dX7_chainDimension_4 : decode cX7_chainDimension 4 = .ok (.invokevirtual 168, 3) := by decide +kernel
