theorem dX3_takeSecondFace_25 : decode cX3_takeSecondFace 25 = .ok (.if_icmp .ne 5, 3) := by decide +kernel
theorem dX3_takeSecondFace_28 : decode cX3_takeSecondFace 28 = .ok (.iconst 0, 1) := by decide +kernel
theorem dX3_takeSecondFace_29 : decode cX3_takeSecondFace 29 = .ok (.ireturn, 1) := by decide +kernel
theorem dX3_takeSecondFace_30 : decode cX3_takeSecondFace 30 = .ok (.aload_n 0, 1) := by decide +kernel
theorem dX3_takeSecondFace_31 : decode cX3_takeSecondFace 31 = .ok (.getfield 12, 3) := by decide +kernel
theorem dX3_takeSecondFace_34 : decode cX3_takeSecondFace 34 = .ok (.getfield 82, 3) := by decide +kernel
theorem dX3_takeSecondFace_37 : decode cX3_takeSecondFace 37 = .ok (.aload_n 0, 1) := by decide +kernel
theorem dX3_takeSecondFace_38 : decode cX3_takeSecondFace 38 = .ok (.getfield 25, 3) := by decide +kernel
theorem dX3_takeSecondFace_41 : decode cX3_takeSecondFace 41 = .ok (.iload_n 1, 1) := by decide +kernel
theorem dX3_takeSecondFace_42 : decode cX3_takeSecondFace 42 = .ok (.iastore, 1) := by decide +kernel
theorem dX3_takeSecondFace_43 : decode cX3_takeSecondFace 43 = .ok (.aload_n 0, 1) := by decide +kernel
theorem dX3_takeSecondFace_44 : decode cX3_takeSecondFace 44 = .ok (.iconst 2, 1) := by decide +kernel
theorem dX3_takeSecondFace_45 : decode cX3_takeSecondFace 45 = .ok (.putfield 22, 3) := by decide +kernel
theorem dX3_takeSecondFace_48 : decode cX3_takeSecondFace 48 = .ok (.iconst 1, 1) := by decide +kernel
theorem dX3_takeSecondFace_49 : decode cX3_takeSecondFace 49 = .ok (.ireturn, 1) := by decide +kernel
theorem dX3_takeSign_0 : decode cX3_takeSign 0 = .ok (.iload_n 1, 1) := by decide +kernel
theorem dX3_takeSign_1 : decode cX3_takeSign 1 = .ok (.iload_n 2, 1) := by decide +kernel
theorem dX3_takeSign_2 : decode cX3_takeSign 2 = .ok (.if_icmp .eq 5, 3) := by decide +kernel
theorem dX3_takeSign_5 : decode cX3_takeSign 5 = .ok (.iconst 0, 1) := by decide +kernel
theorem dX3_takeSign_6 : decode cX3_takeSign 6 = .ok (.ireturn, 1) := by decide +kernel
theorem dX3_takeSign_7 : decode cX3_takeSign 7 = .ok (.aload_n 0, 1) := by decide +kernel
theorem dX3_takeSign_8 : decode cX3_takeSign 8 = .ok (.iload_n 3, 1) := by decide +kernel
theorem dX3_takeSign_9 : decode cX3_takeSign 9 = .ok (.putfield 22, 3) := by decide +kernel
theorem dX3_takeSign_12 : decode cX3_takeSign 12 = .ok (.iconst 1, 1) := by decide +kernel
theorem dX3_takeSign_13 : decode cX3_takeSign 13 = .ok (.ireturn, 1) := by decide +kernel
set_option maxRecDepth 20000 in
theorem ggX3_takeNominalStart_X3_beginNumber : GoodIn wsX3_takeNominalStart wsX3_beginNumber := goodIn_r _ [5, 6, 7, 8, 9, 34, 35, 36, 37, 38, 39, 40] (by decide +kernel) (by decide +kernel)
set_option maxRecDepth 20000 in
theorem gX3_takeNominalStart_X3_beginNumber : GoodIn wsX3_takeNominalStart (wsV RX3 85 RX3 yX3_beginNumber wsX3_beginNumber) := goodIn_app (goodIn_of _ (by decide +kernel)) ggX3_takeNominalStart_X3_beginNumber
set_option maxRecDepth 20000 in
theorem ggX3_takeNominalStart_X3_takeInNominal : GoodIn wsX3_takeNominalStart wsX3_takeInNominal := goodIn_r _ [13, 14, 15, 16, 7, 17, 18, 19, 4, 20, 8, 21, 22, 23, 24, 6, 25, 26, 27, 28, 9, 29, 30, 31, 32, 33, 34, 35, 36, 37, 38, 39, 40, 41, 42, 43, 44, 45, 46] (by decide +kernel) (by decide +kernel)
set_option maxRecDepth 20000 in
theorem gX3_takeNominalStart_X3_takeInNominal : GoodIn wsX3_takeNominalStart (wsV RX3 58 RX3 yX3_takeInNominal wsX3_takeInNominal) := goodIn_app (goodIn_of _ (by decide +kernel)) ggX3_takeNominalStart_X3_takeInNominal
theorem dX3_takeNominalStart_0 : decode cX3_takeNominalStart 0 = .ok (.aload_n 0, 1) := by decide +kernel
theorem dX3_takeNominalStart_1 : decode cX3_takeNominalStart 1 = .ok (.iload_n 1, 1) := by decide +kernel
theorem dX3_takeNominalStart_2 : decode cX3_takeNominalStart 2 = .ok (.bipush 45, 2) := by decide +kernel
theorem dX3_takeNominalStart_4 : decode cX3_takeNominalStart 4 = .ok (.if_icmp .ne 7, 3) := by decide +kernel
theorem dX3_takeNominalStart_7 : decode cX3_takeNominalStart 7 = .ok (.iconst 1, 1) := by decide +kernel
theorem dX3_takeNominalStart_8 : decode cX3_takeNominalStart 8 = .ok (.goto 4, 3) := by decide +kernel
theorem dX3_takeNominalStart_11 : decode cX3_takeNominalStart 11 = .ok (.iconst 0, 1) := by decide +kernel
theorem dX3_takeNominalStart_12 : decode cX3_takeNominalStart 12 = .ok (.iconst 4, 1) := by decide +kernel
theorem dX3_takeNominalStart_13 : decode cX3_takeNominalStart 13 = .ok (.invokevirtual 85, 3) := by decide +kernel
theorem dX3_takeNominalStart_16 : decode cX3_takeNominalStart 16 = .ok (.iload_n 1, 1) := by decide +kernel
theorem dX3_takeNominalStart_17 : decode cX3_takeNominalStart 17 = .ok (.bipush 45, 2) := by decide +kernel
theorem dX3_takeNominalStart_19 : decode cX3_takeNominalStart 19 = .ok (.if_icmp .eq 11, 3) := by decide +kernel
theorem dX3_takeNominalStart_22 : decode cX3_takeNominalStart 22 = .ok (.aload_n 0, 1) := by decide +kernel
theorem dX3_takeNominalStart_23 : decode cX3_takeNominalStart 23 = .ok (.iload_n 1, 1) := by decide +kernel
theorem dX3_takeNominalStart_24 : decode cX3_takeNominalStart 24 = .ok (.invokevirtual 58, 3) := by decide +kernel
theorem dX3_takeNominalStart_27 : decode cX3_takeNominalStart 27 = .ok (.ifCond .eq 7, 3) := by decide +kernel
theorem dX3_takeNominalStart_30 : decode cX3_takeNominalStart 30 = .ok (.iconst 1, 1) := by decide +kernel
theorem dX3_takeNominalStart_31 : decode cX3_takeNominalStart 31 = .ok (.goto 4, 3) := by decide +kernel
theorem dX3_takeNominalStart_34 : decode cX3_takeNominalStart 34 = .ok (.iconst 0, 1) := by decide +kernel
theorem dX3_takeNominalStart_35 : decode cX3_takeNominalStart 35 = .ok (.ireturn, 1) := by decide +kernel
set_option maxRecDepth 20000 in
theorem ggX3_takeInNominal_X3_takeDigit : GoodIn wsX3_takeInNominal wsX3_takeDigit := goodIn_r _ [9, 4, 10, 26, 27, 28, 29, 30, 31, 32] (by decide +kernel) (by decide +kernel)
set_option maxRecDepth 20000 in
theorem gX3_takeInNominal_X3_takeDigit : GoodIn wsX3_takeInNominal (wsV RX3 89 RX3 yX3_takeDigit wsX3_takeDigit) := goodIn_app (goodIn_of _ (by decide +kernel)) ggX3_takeInNominal_X3_takeDigit
set_option maxRecDepth 20000 in
theorem ggX3_takeInNominal_X3_number : GoodIn wsX3_takeInNominal wsX3_number := goodIn_r _ [14, 15, 10, 26, 27, 28, 29, 30, 31, 32] (by decide +kernel) (by decide +kernel)
set_option maxRecDepth 20000 in
theorem gX3_takeInNominal_X3_number : GoodIn wsX3_takeInNominal (wsV RX3 95 RX3 yX3_number wsX3_number) := goodIn_app (goodIn_of _ (by decide +kernel)) ggX3_takeInNominal_X3_number
set_option maxRecDepth 20000 in
theorem ggX3_takeInNominal_X3_takeSign : GoodIn wsX3_takeInNominal wsX3_takeSign := goodIn_r _ [19, 20, 26, 27, 28, 29, 30, 31, 32] (by decide +kernel) (by decide +kernel)
set_option maxRecDepth 20000 in
theorem gX3_takeInNominal_X3_takeSign : GoodIn wsX3_takeInNominal (wsV RX3 51 RX3 yX3_takeSign wsX3_takeSign) := goodIn_app (goodIn_of _ (by decide +kernel)) ggX3_takeInNominal_X3_takeSign
set_option maxRecDepth 20000 in
theorem ggX3_takeInNominal_X3_takeSemicolon : GoodIn wsX3_takeInNominal wsX3_takeSemicolon := goodIn_r _ [24, 1, 25, 16, 17, 18, 8, 19, 20, 26, 27, 28, 29, 30, 31, 32, 33, 34, 35, 36, 37, 38] (by decide +kernel) (by decide +kernel)
set_option maxRecDepth 20000 in
theorem gX3_takeInNominal_X3_takeSemicolon : GoodIn wsX3_takeInNominal (wsV RX3 71 RX3 yX3_takeSemicolon wsX3_takeSemicolon) := goodIn_app (goodIn_of _ (by decide +kernel)) ggX3_takeInNominal_X3_takeSemicolon
theorem dX3_takeInNominal_0 : decode cX3_takeInNominal 0 = .ok (.aload_n 0, 1) := by decide +kernel
theorem dX3_takeInNominal_1 : decode cX3_takeInNominal 1 = .ok (.iload_n 1, 1) := by decide +kernel
theorem dX3_takeInNominal_2 : decode cX3_takeInNominal 2 = .ok (.iconst 5, 1) := by decide +kernel
theorem dX3_takeInNominal_3 : decode cX3_takeInNominal 3 = .ok (.invokevirtual 89, 3) := by decide +kernel
theorem dX3_takeInNominal_6 : decode cX3_takeInNominal 6 = .ok (.ifCond .eq 21, 3) := by decide +kernel
theorem dX3_takeInNominal_9 : decode cX3_takeInNominal 9 = .ok (.aload_n 0, 1) := by decide +kernel
theorem dX3_takeInNominal_10 : decode cX3_takeInNominal 10 = .ok (.getfield 12, 3) := by decide +kernel
theorem dX3_takeInNominal_13 : decode cX3_takeInNominal 13 = .ok (.getfield 92, 3) := by decide +kernel
theorem dX3_takeInNominal_16 : decode cX3_takeInNominal 16 = .ok (.aload_n 0, 1) := by decide +kernel
theorem dX3_takeInNominal_17 : decode cX3_takeInNominal 17 = .ok (.getfield 25, 3) := by decide +kernel
theorem dX3_takeInNominal_20 : decode cX3_takeInNominal 20 = .ok (.aload_n 0, 1) := by decide +kernel
theorem dX3_takeInNominal_21 : decode cX3_takeInNominal 21 = .ok (.invokevirtual 95, 3) := by decide +kernel
theorem dX3_takeInNominal_24 : decode cX3_takeInNominal 24 = .ok (.iastore, 1) := by decide +kernel
theorem dX3_takeInNominal_25 : decode cX3_takeInNominal 25 = .ok (.iconst 1, 1) := by decide +kernel
theorem dX3_takeInNominal_26 : decode cX3_takeInNominal 26 = .ok (.ireturn, 1) := by decide +kernel
theorem dX3_takeInNominal_27 : decode cX3_takeInNominal 27 = .ok (.aload_n 0, 1) := by decide +kernel
theorem dX3_takeInNominal_28 : decode cX3_takeInNominal 28 = .ok (.getfield 28, 3) := by decide +kernel
theorem dX3_takeInNominal_31 : decode cX3_takeInNominal 31 = .ok (.ifCond .le 26, 3) := by decide +kernel
theorem dX3_takeInNominal_34 : decode cX3_takeInNominal 34 = .ok (.aload_n 0, 1) := by decide +kernel
theorem dX3_takeInNominal_35 : decode cX3_takeInNominal 35 = .ok (.iload_n 1, 1) := by decide +kernel
theorem dX3_takeInNominal_36 : decode cX3_takeInNominal 36 = .ok (.bipush 91, 2) := by decide +kernel
theorem dX3_takeInNominal_38 : decode cX3_takeInNominal 38 = .ok (.iconst 5, 1) := by decide +kernel
theorem dX3_takeInNominal_39 : decode cX3_takeInNominal 39 = .ok (.invokevirtual 51, 3) := by decide +kernel
theorem dX3_takeInNominal_42 : decode cX3_takeInNominal 42 = .ok (.ifCond .ne 11, 3) := by decide +kernel
theorem dX3_takeInNominal_45 : decode cX3_takeInNominal 45 = .ok (.aload_n 0, 1) := by decide +kernel
theorem dX3_takeInNominal_46 : decode cX3_takeInNominal 46 = .ok (.iload_n 1, 1) := by decide +kernel
theorem dX3_takeInNominal_47 : decode cX3_takeInNominal 47 = .ok (.invokevirtual 71, 3) := by decide +kernel
theorem dX3_takeInNominal_50 : decode cX3_takeInNominal 50 = .ok (.ifCond .eq 7, 3) := by decide +kernel
theorem dX3_takeInNominal_53 : decode cX3_takeInNominal 53 = .ok (.iconst 1, 1) := by decide +kernel
theorem dX3_takeInNominal_54 : decode cX3_takeInNominal 54 = .ok (.goto 4, 3) := by decide +kernel
theorem dX3_takeInNominal_57 : decode cX3_takeInNominal 57 = .ok (.iconst 0, 1) := by decide +kernel
theorem dX3_takeInNominal_58 : decode cX3_takeInNominal 58 = .ok (.ireturn, 1) := by decide +kernel
set_option maxRecDepth 20000 in
theorem ggX3_takeDeviationSign_X3_beginNumber : GoodIn wsX3_takeDeviationSign wsX3_beginNumber := goodIn_r _ [5, 6, 7, 8, 9, 10, 11, 12, 13, 14, 15, 16] (by decide +kernel) (by decide +kernel)
set_option maxRecDepth 20000 in
theorem gX3_takeDeviationSign_X3_beginNumber : GoodIn wsX3_takeDeviationSign (wsV RX3 85 RX3 yX3_beginNumber wsX3_beginNumber) := goodIn_app (goodIn_of _ (by decide +kernel)) ggX3_takeDeviationSign_X3_beginNumber
theorem dX3_takeDeviationSign_0 : decode cX3_takeDeviationSign 0 = .ok (.iload_n 1, 1) := by decide +kernel
theorem dX3_takeDeviationSign_1 : decode cX3_takeDeviationSign 1 = .ok (.bipush 43, 2) := by decide +kernel
theorem dX3_takeDeviationSign_3 : decode cX3_takeDeviationSign 3 = .ok (.if_icmp .eq 11, 3) := by decide +kernel
theorem dX3_takeDeviationSign_6 : decode cX3_takeDeviationSign 6 = .ok (.iload_n 1, 1) := by decide +kernel
theorem dX3_takeDeviationSign_7 : decode cX3_takeDeviationSign 7 = .ok (.bipush 45, 2) := by decide +kernel
theorem dX3_takeDeviationSign_9 : decode cX3_takeDeviationSign 9 = .ok (.if_icmp .eq 5, 3) := by decide +kernel
theorem dX3_takeDeviationSign_12 : decode cX3_takeDeviationSign 12 = .ok (.iconst 0, 1) := by decide +kernel
theorem dX3_takeDeviationSign_13 : decode cX3_takeDeviationSign 13 = .ok (.ireturn, 1) := by decide +kernel
theorem dX3_takeDeviationSign_14 : decode cX3_takeDeviationSign 14 = .ok (.aload_n 0, 1) := by decide +kernel
theorem dX3_takeDeviationSign_15 : decode cX3_takeDeviationSign 15 = .ok (.iload_n 1, 1) := by decide +kernel
theorem dX3_takeDeviationSign_16 : decode cX3_takeDeviationSign 16 = .ok (.bipush 45, 2) := by decide +kernel
theorem dX3_takeDeviationSign_18 : decode cX3_takeDeviationSign 18 = .ok (.if_icmp .ne 7, 3) := by decide +kernel
theorem dX3_takeDeviationSign_21 : decode cX3_takeDeviationSign 21 = .ok (.iconst 1, 1) := by decide +kernel
theorem dX3_takeDeviationSign_22 : decode cX3_takeDeviationSign 22 = .ok (.goto 4, 3) := by decide +kernel
theorem dX3_takeDeviationSign_25 : decode cX3_takeDeviationSign 25 = .ok (.iconst 0, 1) := by decide +kernel
theorem dX3_takeDeviationSign_26 : decode cX3_takeDeviationSign 26 = .ok (.iload_n 2, 1) := by decide +kernel
theorem dX3_takeDeviationSign_27 : decode cX3_takeDeviationSign 27 = .ok (.invokevirtual 85, 3) := by decide +kernel
theorem dX3_takeDeviationSign_30 : decode cX3_takeDeviationSign 30 = .ok (.iconst 1, 1) := by decide +kernel
theorem dX3_takeDeviationSign_31 : decode cX3_takeDeviationSign 31 = .ok (.ireturn, 1) := by decide +kernel
set_option maxRecDepth 20000 in
theorem ggX3_takeInLower_X3_takeDigit : GoodIn wsX3_takeInLower wsX3_takeDigit := goodIn_r _ [9, 4, 10, 21, 22, 23, 24, 25, 26, 27] (by decide +kernel) (by decide +kernel)
set_option maxRecDepth 20000 in
theorem gX3_takeInLower_X3_takeDigit : GoodIn wsX3_takeInLower (wsV RX3 89 RX3 yX3_takeDigit wsX3_takeDigit) := goodIn_app (goodIn_of _ (by decide +kernel)) ggX3_takeInLower_X3_takeDigit
set_option maxRecDepth 20000 in
theorem ggX3_takeInLower_X3_number : GoodIn wsX3_takeInLower wsX3_number := goodIn_r _ [14, 15, 10, 21, 22, 23, 24, 25, 26, 27] (by decide +kernel) (by decide +kernel)
set_option maxRecDepth 20000 in
theorem gX3_takeInLower_X3_number : GoodIn wsX3_takeInLower (wsV RX3 95 RX3 yX3_number wsX3_number) := goodIn_app (goodIn_of _ (by decide +kernel)) ggX3_takeInLower_X3_number
set_option maxRecDepth 20000 in
theorem ggX3_takeInLower_X3_takeSign : GoodIn wsX3_takeInLower wsX3_takeSign := goodIn_r _ [19, 20, 21, 22, 23, 24, 25, 26, 27] (by decide +kernel) (by decide +kernel)
set_option maxRecDepth 20000 in
theorem gX3_takeInLower_X3_takeSign : GoodIn wsX3_takeInLower (wsV RX3 51 RX3 yX3_takeSign wsX3_takeSign) := goodIn_app (goodIn_of _ (by decide +kernel)) ggX3_takeInLower_X3_takeSign
theorem dX3_takeInLower_0 : decode cX3_takeInLower 0 = .ok (.aload_n 0, 1) := by decide +kernel
theorem dX3_takeInLower_1 : decode cX3_takeInLower 1 = .ok (.iload_n 1, 1) := by decide +kernel
theorem dX3_takeInLower_2 : decode cX3_takeInLower 2 = .ok (.iconst 3, 1) := by decide +kernel
theorem dX3_takeInLower_3 : decode cX3_takeInLower 3 = .ok (.invokevirtual 89, 3) := by decide +kernel
theorem dX3_takeInLower_6 : decode cX3_takeInLower 6 = .ok (.ifCond .eq 21, 3) := by decide +kernel
theorem dX3_takeInLower_9 : decode cX3_takeInLower 9 = .ok (.aload_n 0, 1) := by decide +kernel
theorem dX3_takeInLower_10 : decode cX3_takeInLower 10 = .ok (.getfield 12, 3) := by decide +kernel
theorem dX3_takeInLower_13 : decode cX3_takeInLower 13 = .ok (.getfield 99, 3) := by decide +kernel
theorem dX3_takeInLower_16 : decode cX3_takeInLower 16 = .ok (.aload_n 0, 1) := by decide +kernel
theorem dX3_takeInLower_17 : decode cX3_takeInLower 17 = .ok (.getfield 25, 3) := by decide +kernel
theorem dX3_takeInLower_20 : decode cX3_takeInLower 20 = .ok (.aload_n 0, 1) := by decide +kernel
theorem dX3_takeInLower_21 : decode cX3_takeInLower 21 = .ok (.invokevirtual 95, 3) := by decide +kernel
theorem dX3_takeInLower_24 : decode cX3_takeInLower 24 = .ok (.iastore, 1) := by decide +kernel
theorem dX3_takeInLower_25 : decode cX3_takeInLower 25 = .ok (.iconst 1, 1) := by decide +kernel
theorem dX3_takeInLower_26 : decode cX3_takeInLower 26 = .ok (.ireturn, 1) := by decide +kernel
theorem dX3_takeInLower_27 : decode cX3_takeInLower 27 = .ok (.aload_n 0, 1) := by decide +kernel
theorem dX3_takeInLower_28 : decode cX3_takeInLower 28 = .ok (.getfield 28, 3) := by decide +kernel
theorem dX3_takeInLower_31 : decode cX3_takeInLower 31 = .ok (.ifCond .le 19, 3) := by decide +kernel
theorem dX3_takeInLower_34 : decode cX3_takeInLower 34 = .ok (.aload_n 0, 1) := by decide +kernel
theorem dX3_takeInLower_35 : decode cX3_takeInLower 35 = .ok (.iload_n 1, 1) := by decide +kernel
theorem dX3_takeInLower_36 : decode cX3_takeInLower 36 = .ok (.bipush 44, 2) := by decide +kernel
theorem dX3_takeInLower_38 : decode cX3_takeInLower 38 = .ok (.bipush 7, 2) := by decide +kernel
theorem dX3_takeInLower_40 : decode cX3_takeInLower 40 = .ok (.invokevirtual 51, 3) := by decide +kernel
theorem dX3_takeInLower_43 : decode cX3_takeInLower 43 = .ok (.ifCond .eq 7, 3) := by decide +kernel
theorem dX3_takeInLower_46 : decode cX3_takeInLower 46 = .ok (.iconst 1, 1) := by decide +kernel
theorem dX3_takeInLower_47 : decode cX3_takeInLower 47 = .ok (.goto 4, 3) := by decide +kernel
theorem dX3_takeInLower_50 : decode cX3_takeInLower 50 = .ok (.iconst 0, 1) := by decide +kernel
theorem dX3_takeInLower_51 : decode cX3_takeInLower 51 = .ok (.ireturn, 1) := by decide +kernel
set_option maxRecDepth 20000 in
theorem ggX3_takeInUpper_X3_takeDigit : GoodIn wsX3_takeInUpper wsX3_takeDigit := goodIn_r _ [9, 4, 10, 28, 29, 30, 31, 32, 33, 34] (by decide +kernel) (by decide +kernel)
set_option maxRecDepth 20000 in
theorem gX3_takeInUpper_X3_takeDigit : GoodIn wsX3_takeInUpper (wsV RX3 89 RX3 yX3_takeDigit wsX3_takeDigit) := goodIn_app (goodIn_of _ (by decide +kernel)) ggX3_takeInUpper_X3_takeDigit
set_option maxRecDepth 20000 in
theorem ggX3_takeInUpper_X3_number : GoodIn wsX3_takeInUpper wsX3_number := goodIn_r _ [14, 15, 10, 28, 29, 30, 31, 32, 33, 34] (by decide +kernel) (by decide +kernel)
set_option maxRecDepth 20000 in
theorem gX3_takeInUpper_X3_number : GoodIn wsX3_takeInUpper (wsV RX3 95 RX3 yX3_number wsX3_number) := goodIn_app (goodIn_of _ (by decide +kernel)) ggX3_takeInUpper_X3_number
set_option maxRecDepth 20000 in
theorem ggX3_takeInUpper_X1_width : GoodIn wsX3_takeInUpper wsX1_width := goodIn_r _ [20, 21, 22, 35, 36, 37, 38, 39, 40] (by decide +kernel) (by decide +kernel)
set_option maxRecDepth 20000 in
theorem gX3_takeInUpper_X1_width : GoodIn wsX3_takeInUpper (wsV RX3 105 RX1 yX1_width wsX1_width) := goodIn_app (goodIn_of _ (by decide +kernel)) ggX3_takeInUpper_X1_width
set_option maxRecDepth 20000 in
theorem ggX3_takeInUpper_X3_takeSign : GoodIn wsX3_takeInUpper wsX3_takeSign := goodIn_r _ [26, 27, 28, 29, 30, 31, 32, 33, 34] (by decide +kernel) (by decide +kernel)
set_option maxRecDepth 20000 in
theorem gX3_takeInUpper_X3_takeSign : GoodIn wsX3_takeInUpper (wsV RX3 51 RX3 yX3_takeSign wsX3_takeSign) := goodIn_app (goodIn_of _ (by decide +kernel)) ggX3_takeInUpper_X3_takeSign
theorem dX3_takeInUpper_0 : decode cX3_takeInUpper 0 = .ok (.aload_n 0, 1) := by decide +kernel
theorem dX3_takeInUpper_1 : decode cX3_takeInUpper 1 = .ok (.iload_n 1, 1) := by decide +kernel
theorem dX3_takeInUpper_2 : decode cX3_takeInUpper 2 = .ok (.iconst 3, 1) := by decide +kernel
theorem dX3_takeInUpper_3 : decode cX3_takeInUpper 3 = .ok (.invokevirtual 89, 3) := by decide +kernel
theorem dX3_takeInUpper_6 : decode cX3_takeInUpper 6 = .ok (.ifCond .eq 21, 3) := by decide +kernel
theorem dX3_takeInUpper_9 : decode cX3_takeInUpper 9 = .ok (.aload_n 0, 1) := by decide +kernel
theorem dX3_takeInUpper_10 : decode cX3_takeInUpper 10 = .ok (.getfield 12, 3) := by decide +kernel
theorem dX3_takeInUpper_13 : decode cX3_takeInUpper 13 = .ok (.getfield 102, 3) := by decide +kernel
theorem dX3_takeInUpper_16 : decode cX3_takeInUpper 16 = .ok (.aload_n 0, 1) := by decide +kernel
theorem dX3_takeInUpper_17 : decode cX3_takeInUpper 17 = .ok (.getfield 25, 3) := by decide +kernel
theorem dX3_takeInUpper_20 : decode cX3_takeInUpper 20 = .ok (.aload_n 0, 1) := by decide +kernel
theorem dX3_takeInUpper_21 : decode cX3_takeInUpper 21 = .ok (.invokevirtual 95, 3) := by decide +kernel
theorem dX3_takeInUpper_24 : decode cX3_takeInUpper 24 = .ok (.iastore, 1) := by decide +kernel
theorem dX3_takeInUpper_25 : decode cX3_takeInUpper 25 = .ok (.iconst 1, 1) := by decide +kernel
theorem dX3_takeInUpper_26 : decode cX3_takeInUpper 26 = .ok (.ireturn, 1) := by decide +kernel
theorem dX3_takeInUpper_27 : decode cX3_takeInUpper 27 = .ok (.aload_n 0, 1) := by decide +kernel
theorem dX3_takeInUpper_28 : decode cX3_takeInUpper 28 = .ok (.getfield 28, 3) := by decide +kernel
theorem dX3_takeInUpper_31 : decode cX3_takeInUpper 31 = .ok (.ifCond .le 33, 3) := by decide +kernel
theorem dX3_takeInUpper_34 : decode cX3_takeInUpper 34 = .ok (.aload_n 0, 1) := by decide +kernel
theorem dX3_takeInUpper_35 : decode cX3_takeInUpper 35 = .ok (.getfield 12, 3) := by decide +kernel
theorem dX3_takeInUpper_38 : decode cX3_takeInUpper 38 = .ok (.aload_n 0, 1) := by decide +kernel
theorem dX3_takeInUpper_39 : decode cX3_takeInUpper 39 = .ok (.getfield 25, 3) := by decide +kernel
theorem dX3_takeInUpper_42 : decode cX3_takeInUpper 42 = .ok (.invokevirtual 105, 3) := by decide +kernel
theorem dX3_takeInUpper_45 : decode cX3_takeInUpper 45 = .ok (.ifCond .lt 19, 3) := by decide +kernel
theorem dX3_takeInUpper_48 : decode cX3_takeInUpper 48 = .ok (.aload_n 0, 1) := by decide +kernel
theorem dX3_takeInUpper_49 : decode cX3_takeInUpper 49 = .ok (.iload_n 1, 1) := by decide +kernel
theorem dX3_takeInUpper_50 : decode cX3_takeInUpper 50 = .ok (.bipush 93, 2) := by decide +kernel
theorem dX3_takeInUpper_52 : decode cX3_takeInUpper 52 = .ok (.bipush 9, 2) := by decide +kernel
theorem dX3_takeInUpper_54 : decode cX3_takeInUpper 54 = .ok (.invokevirtual 51, 3) := by decide +kernel
theorem dX3_takeInUpper_57 : decode cX3_takeInUpper 57 = .ok (.ifCond .eq 7, 3) := by decide +kernel
theorem dX3_takeInUpper_60 : decode cX3_takeInUpper 60 = .ok (.iconst 1, 1) := by decide +kernel
theorem dX3_takeInUpper_61 : decode cX3_takeInUpper 61 = .ok (.goto 4, 3) := by decide +kernel
theorem dX3_takeInUpper_64 : decode cX3_takeInUpper 64 = .ok (.iconst 0, 1) := by decide +kernel
theorem dX3_takeInUpper_65 : decode cX3_takeInUpper 65 = .ok (.ireturn, 1) := by decide +kernel
set_option maxRecDepth 20000 in
theorem ggX3_takeSemicolon_X3_takeSign : GoodIn wsX3_takeSemicolon wsX3_takeSign := goodIn_r _ [7, 8, 9, 10, 11, 12, 13, 14, 15] (by decide +kernel) (by decide +kernel)
set_option maxRecDepth 20000 in
theorem gX3_takeSemicolon_X3_takeSign : GoodIn wsX3_takeSemicolon (wsV RX3 51 RX3 yX3_takeSign wsX3_takeSign) := goodIn_app (goodIn_of _ (by decide +kernel)) ggX3_takeSemicolon_X3_takeSign
theorem dX3_takeSemicolon_0 : decode cX3_takeSemicolon 0 = .ok (.aload_n 0, 1) := by decide +kernel
theorem dX3_takeSemicolon_1 : decode cX3_takeSemicolon 1 = .ok (.getfield 12, 3) := by decide +kernel
theorem dX3_takeSemicolon_4 : decode cX3_takeSemicolon 4 = .ok (.getfield 38, 3) := by decide +kernel
theorem dX3_takeSemicolon_7 : decode cX3_takeSemicolon 7 = .ok (.bipush 20, 2) := by decide +kernel
theorem dX3_takeSemicolon_9 : decode cX3_takeSemicolon 9 = .ok (.if_icmp .ge 18, 3) := by decide +kernel
theorem dX3_takeSemicolon_12 : decode cX3_takeSemicolon 12 = .ok (.aload_n 0, 1) := by decide +kernel
theorem dX3_takeSemicolon_13 : decode cX3_takeSemicolon 13 = .ok (.iload_n 1, 1) := by decide +kernel
theorem dX3_takeSemicolon_14 : decode cX3_takeSemicolon 14 = .ok (.bipush 59, 2) := by decide +kernel
theorem dX3_takeSemicolon_16 : decode cX3_takeSemicolon 16 = .ok (.iconst 0, 1) := by decide +kernel
theorem dX3_takeSemicolon_17 : decode cX3_takeSemicolon 17 = .ok (.invokevirtual 51, 3) := by decide +kernel
theorem dX3_takeSemicolon_20 : decode cX3_takeSemicolon 20 = .ok (.ifCond .eq 7, 3) := by decide +kernel
theorem dX3_takeSemicolon_23 : decode cX3_takeSemicolon 23 = .ok (.iconst 1, 1) := by decide +kernel
theorem dX3_takeSemicolon_24 : decode cX3_takeSemicolon 24 = .ok (.goto 4, 3) := by decide +kernel
theorem dX3_takeSemicolon_27 : decode cX3_takeSemicolon 27 = .ok (.iconst 0, 1) := by decide +kernel
theorem dX3_takeSemicolon_28 : decode cX3_takeSemicolon 28 = .ok (.ireturn, 1) := by decide +kernel
theorem dX3_beginNumber_0 : decode cX3_beginNumber 0 = .ok (.aload_n 0, 1) := by decide +kernel
theorem dX3_beginNumber_1 : decode cX3_beginNumber 1 = .ok (.iload_n 1, 1) := by decide +kernel
theorem dX3_beginNumber_2 : decode cX3_beginNumber 2 = .ok (.putfield 34, 3) := by decide +kernel
theorem dX3_beginNumber_5 : decode cX3_beginNumber 5 = .ok (.aload_n 0, 1) := by decide +kernel
theorem dX3_beginNumber_6 : decode cX3_beginNumber 6 = .ok (.iconst 0, 1) := by decide +kernel
theorem dX3_beginNumber_7 : decode cX3_beginNumber 7 = .ok (.putfield 28, 3) := by decide +kernel
theorem dX3_beginNumber_10 : decode cX3_beginNumber 10 = .ok (.aload_n 0, 1) := by decide +kernel
theorem dX3_beginNumber_11 : decode cX3_beginNumber 11 = .ok (.iconst 0, 1) := by decide +kernel
theorem dX3_beginNumber_12 : decode cX3_beginNumber 12 = .ok (.putfield 31, 3) := by decide +kernel
theorem dX3_beginNumber_15 : decode cX3_beginNumber 15 = .ok (.aload_n 0, 1) := by decide +kernel
theorem dX3_beginNumber_16 : decode cX3_beginNumber 16 = .ok (.iload_n 2, 1) := by decide +kernel
theorem dX3_beginNumber_17 : decode cX3_beginNumber 17 = .ok (.putfield 22, 3) := by decide +kernel
theorem dX3_beginNumber_20 : decode cX3_beginNumber 20 = .ok (.return_, 1) := by decide +kernel
theorem dX3_takeDigit_0 : decode cX3_takeDigit 0 = .ok (.iload_n 1, 1) := by decide +kernel
theorem dX3_takeDigit_1 : decode cX3_takeDigit 1 = .ok (.bipush 48, 2) := by decide +kernel
theorem dX3_takeDigit_3 : decode cX3_takeDigit 3 = .ok (.if_icmp .lt 17, 3) := by decide +kernel
theorem dX3_takeDigit_6 : decode cX3_takeDigit 6 = .ok (.iload_n 1, 1) := by decide +kernel
theorem dX3_takeDigit_7 : decode cX3_takeDigit 7 = .ok (.bipush 57, 2) := by decide +kernel
theorem dX3_takeDigit_9 : decode cX3_takeDigit 9 = .ok (.if_icmp .gt 11, 3) := by decide +kernel
theorem dX3_takeDigit_12 : decode cX3_takeDigit 12 = .ok (.aload_n 0, 1) := by decide +kernel
theorem dX3_takeDigit_13 : decode cX3_takeDigit 13 = .ok (.getfield 28, 3) := by decide +kernel
theorem dX3_takeDigit_16 : decode cX3_takeDigit 16 = .ok (.iload_n 2, 1) := by decide +kernel
theorem dX3_takeDigit_17 : decode cX3_takeDigit 17 = .ok (.if_icmp .lt 5, 3) := by decide +kernel
theorem dX3_takeDigit_20 : decode cX3_takeDigit 20 = .ok (.iconst 0, 1) := by decide +kernel
theorem dX3_takeDigit_21 : decode cX3_takeDigit 21 = .ok (.ireturn, 1) := by decide +kernel
theorem dX3_takeDigit_22 : decode cX3_takeDigit 22 = .ok (.aload_n 0, 1) := by decide +kernel
theorem dX3_takeDigit_23 : decode cX3_takeDigit 23 = .ok (.dup, 1) := by decide +kernel
theorem dX3_takeDigit_24 : decode cX3_takeDigit 24 = .ok (.getfield 28, 3) := by decide +kernel
theorem dX3_takeDigit_27 : decode cX3_takeDigit 27 = .ok (.iconst 1, 1) := by decide +kernel
theorem dX3_takeDigit_28 : decode cX3_takeDigit 28 = .ok (.iadd, 1) := by decide +kernel
theorem dX3_takeDigit_29 : decode cX3_takeDigit 29 = .ok (.putfield 28, 3) := by decide +kernel
theorem dX3_takeDigit_32 : decode cX3_takeDigit 32 = .ok (.aload_n 0, 1) := by decide +kernel
theorem dX3_takeDigit_33 : decode cX3_takeDigit 33 = .ok (.aload_n 0, 1) := by decide +kernel
theorem dX3_takeDigit_34 : decode cX3_takeDigit 34 = .ok (.getfield 31, 3) := by decide +kernel
theorem dX3_takeDigit_37 : decode cX3_takeDigit 37 = .ok (.bipush 10, 2) := by decide +kernel
theorem dX3_takeDigit_39 : decode cX3_takeDigit 39 = .ok (.imul, 1) := by decide +kernel
theorem dX3_takeDigit_40 : decode cX3_takeDigit 40 = .ok (.iload_n 1, 1) := by decide +kernel
theorem dX3_takeDigit_41 : decode cX3_takeDigit 41 = .ok (.iadd, 1) := by decide +kernel
theorem dX3_takeDigit_42 : decode cX3_takeDigit 42 = .ok (.bipush 48, 2) := by decide +kernel
theorem dX3_takeDigit_44 : decode cX3_takeDigit 44 = .ok (.isub, 1) := by decide +kernel
theorem dX3_takeDigit_45 : decode cX3_takeDigit 45 = .ok (.putfield 31, 3) := by decide +kernel
theorem dX3_takeDigit_48 : decode cX3_takeDigit 48 = .ok (.iconst 1, 1) := by decide +kernel
theorem dX3_takeDigit_49 : decode cX3_takeDigit 49 = .ok (.ireturn, 1) := by decide +kernel
theorem dX3_number_0 : decode cX3_number 0 = .ok (.aload_n 0, 1) := by decide +kernel
theorem dX3_number_1 : decode cX3_number 1 = .ok (.getfield 34, 3) := by decide +kernel
theorem dX3_number_4 : decode cX3_number 4 = .ok (.ifCond .eq 11, 3) := by decide +kernel
theorem dX3_number_7 : decode cX3_number 7 = .ok (.aload_n 0, 1) := by decide +kernel
theorem dX3_number_8 : decode cX3_number 8 = .ok (.getfield 31, 3) := by decide +kernel
theorem dX3_number_11 : decode cX3_number 11 = .ok (.ineg, 1) := by decide +kernel
theorem dX3_number_12 : decode cX3_number 12 = .ok (.goto 7, 3) := by decide +kernel
theorem dX3_number_15 : decode cX3_number 15 = .ok (.aload_n 0, 1) := by decide +kernel
theorem dX3_number_16 : decode cX3_number 16 = .ok (.getfield 31, 3) := by decide +kernel
theorem dX3_number_19 : decode cX3_number 19 = .ok (.ireturn, 1) := by decide +kernel
theorem dX4_init_0 : decode cX4_init 0 = .ok (.aload_n 0, 1) := by decide +kernel
theorem dX4_init_1 : decode cX4_init 1 = .ok (.invokespecial 3, 3) := by decide +kernel
theorem dX4_init_4 : decode cX4_init 4 = .ok (.aload_n 0, 1) := by decide +kernel
theorem dX4_init_5 : decode cX4_init 5 = .ok (.bipush 20, 2) := by decide +kernel
theorem dX4_init_7 : decode cX4_init 7 = .ok (.newarray .int, 2) := by decide +kernel
theorem dX4_init_9 : decode cX4_init 9 = .ok (.putfield 9, 3) := by decide +kernel
theorem dX4_init_12 : decode cX4_init 12 = .ok (.aload_n 0, 1) := by decide +kernel
theorem dX4_init_13 : decode cX4_init 13 = .ok (.aload_n 1, 1) := by decide +kernel
theorem dX4_init_14 : decode cX4_init 14 = .ok (.putfield 15, 3) := by decide +kernel
theorem dX4_init_17 : decode cX4_init 17 = .ok (.aload_n 0, 1) := by decide +kernel
theorem dX4_init_18 : decode cX4_init 18 = .ok (.aload_n 1, 1) := by decide +kernel
theorem dX4_init_19 : decode cX4_init 19 = .ok (.getfield 19, 3) := by decide +kernel
theorem dX4_init_22 : decode cX4_init 22 = .ok (.putfield 25, 3) := by decide +kernel
theorem dX4_init_25 : decode cX4_init 25 = .ok (.return_, 1) := by decide +kernel
set_option maxRecDepth 20000 in
theorem ggX4_divide_X0_widthSum : GoodIn wsX4_divide wsX0_widthSum := goodIn_r _ [10, 11, 12, 13, 14, 15, 16, 17, 18, 19, 20, 35, 36, 37, 38, 39, 40, 41, 42, 43, 44, 45, 46, 47, 48] (by decide +kernel) (by decide +kernel)
set_option maxRecDepth 20000 in
theorem gX4_divide_X0_widthSum : GoodIn wsX4_divide (wsV RX4 26 RX0 yX0_widthSum wsX0_widthSum) := goodIn_app (goodIn_of _ (by decide +kernel)) ggX4_divide_X0_widthSum
set_option maxRecDepth 20000 in
theorem ggX4_divide_J7_fill_53178 : GoodIn wsX4_divide wsJ7_fill_53178 := goodIn_r _ [24] (by decide +kernel) (by decide +kernel)
set_option maxRecDepth 20000 in
theorem gX4_divide_J7_fill_53178 : GoodIn wsX4_divide (va_wsS RX4 30 yJ7_fill_53178 wsJ7_fill_53178) := goodIn_app (goodIn_of _ (by decide +kernel)) ggX4_divide_J7_fill_53178
set_option maxRecDepth 20000 in
theorem ggX4_divide_X1_width : GoodIn wsX4_divide wsX1_width := goodIn_r _ [18, 19, 20, 43, 44, 45, 46, 47, 48] (by decide +kernel) (by decide +kernel)
set_option maxRecDepth 20000 in
theorem gX4_divide_X1_width : GoodIn wsX4_divide (wsV RX4 43 RX1 yX1_width wsX1_width) := goodIn_app (goodIn_of _ (by decide +kernel)) ggX4_divide_X1_width
set_option maxRecDepth 20000 in
theorem ggX4_divide_X4_giveRest : GoodIn wsX4_divide wsX4_giveRest := goodIn_r _ [30, 5, 31, 2, 32, 33, 34, 43, 44, 45, 46, 47, 48] (by decide +kernel) (by decide +kernel)
set_option maxRecDepth 20000 in
theorem gX4_divide_X4_giveRest : GoodIn wsX4_divide (wsV RX4 49 RX4 yX4_giveRest wsX4_giveRest) := goodIn_app (goodIn_of _ (by decide +kernel)) ggX4_divide_X4_giveRest
theorem dX4_divide_0 : decode cX4_divide 0 = .ok (.aload_n 0, 1) := by decide +kernel
theorem dX4_divide_1 : decode cX4_divide 1 = .ok (.getfield 15, 3) := by decide +kernel
theorem dX4_divide_4 : decode cX4_divide 4 = .ok (.invokevirtual 26, 3) := by decide +kernel
theorem dX4_divide_7 : decode cX4_divide 7 = .ok (.istore_n 2, 1) := by decide +kernel
theorem dX4_divide_8 : decode cX4_divide 8 = .ok (.iload_n 2, 1) := by decide +kernel
theorem dX4_divide_9 : decode cX4_divide 9 = .ok (.ifCond .ne 5, 3) := by decide +kernel
theorem dX4_divide_12 : decode cX4_divide 12 = .ok (.iconst 0, 1) := by decide +kernel
theorem dX4_divide_13 : decode cX4_divide 13 = .ok (.ireturn, 1) := by decide +kernel
theorem dX4_divide_14 : decode cX4_divide 14 = .ok (.aload_n 0, 1) := by decide +kernel
theorem dX4_divide_15 : decode cX4_divide 15 = .ok (.getfield 9, 3) := by decide +kernel
theorem dX4_divide_18 : decode cX4_divide 18 = .ok (.iconst (-1), 1) := by decide +kernel
theorem dX4_divide_19 : decode cX4_divide 19 = .ok (.invokestatic 30, 3) := by decide +kernel
theorem dX4_divide_22 : decode cX4_divide 22 = .ok (.iload_n 1, 1) := by decide +kernel
theorem dX4_divide_23 : decode cX4_divide 23 = .ok (.istore_n 3, 1) := by decide +kernel
theorem dX4_divide_24 : decode cX4_divide 24 = .ok (.iconst 0, 1) := by decide +kernel
theorem dX4_divide_25 : decode cX4_divide 25 = .ok (.istore 4, 2) := by decide +kernel
theorem dX4_divide_27 : decode cX4_divide 27 = .ok (.iload 4, 2) := by decide +kernel
theorem dX4_divide_29 : decode cX4_divide 29 = .ok (.aload_n 0, 1) := by decide +kernel
theorem dX4_divide_30 : decode cX4_divide 30 = .ok (.getfield 15, 3) := by decide +kernel
theorem dX4_divide_33 : decode cX4_divide 33 = .ok (.getfield 36, 3) := by decide +kernel
theorem dX4_divide_36 : decode cX4_divide 36 = .ok (.if_icmp .ge 51, 3) := by decide +kernel
theorem dX4_divide_39 : decode cX4_divide 39 = .ok (.aload_n 0, 1) := by decide +kernel
theorem dX4_divide_40 : decode cX4_divide 40 = .ok (.getfield 15, 3) := by decide +kernel
theorem dX4_divide_43 : decode cX4_divide 43 = .ok (.getfield 40, 3) := by decide +kernel
theorem dX4_divide_46 : decode cX4_divide 46 = .ok (.iload 4, 2) := by decide +kernel
theorem dX4_divide_48 : decode cX4_divide 48 = .ok (.iaload, 1) := by decide +kernel
theorem dX4_divide_49 : decode cX4_divide 49 = .ok (.istore 5, 2) := by decide +kernel
theorem dX4_divide_51 : decode cX4_divide 51 = .ok (.aload_n 0, 1) := by decide +kernel
theorem dX4_divide_52 : decode cX4_divide 52 = .ok (.getfield 9, 3) := by decide +kernel
theorem dX4_divide_55 : decode cX4_divide 55 = .ok (.iload 5, 2) := by decide +kernel
theorem dX4_divide_57 : decode cX4_divide 57 = .ok (.iload_n 1, 1) := by decide +kernel
theorem dX4_divide_58 : decode cX4_divide 58 = .ok (.aload_n 0, 1) := by decide +kernel
theorem dX4_divide_59 : decode cX4_divide 59 = .ok (.getfield 25, 3) := by decide +kernel
theorem dX4_divide_62 : decode cX4_divide 62 = .ok (.iload 5, 2) := by decide +kernel
theorem dX4_divide_64 : decode cX4_divide 64 = .ok (.invokevirtual 43, 3) := by decide +kernel
theorem dX4_divide_67 : decode cX4_divide 67 = .ok (.imul, 1) := by decide +kernel
theorem dX4_divide_68 : decode cX4_divide 68 = .ok (.iload_n 2, 1) := by decide +kernel
theorem dX4_divide_69 : decode cX4_divide 69 = .ok (.idiv, 1) := by decide +kernel
theorem dX4_divide_70 : decode cX4_divide 70 = .ok (.iastore, 1) := by decide +kernel
theorem dX4_divide_71 : decode cX4_divide 71 = .ok (.iload_n 3, 1) := by decide +kernel
theorem dX4_divide_72 : decode cX4_divide 72 = .ok (.aload_n 0, 1) := by decide +kernel
theorem dX4_divide_73 : decode cX4_divide 73 = .ok (.getfield 9, 3) := by decide +kernel
theorem dX4_divide_76 : decode cX4_divide 76 = .ok (.iload 5, 2) := by decide +kernel
theorem dX4_divide_78 : decode cX4_divide 78 = .ok (.iaload, 1) := by decide +kernel
theorem dX4_divide_79 : decode cX4_divide 79 = .ok (.isub, 1) := by decide +kernel
theorem dX4_divide_80 : decode cX4_divide 80 = .ok (.istore_n 3, 1) := by decide +kernel
theorem dX4_divide_81 : decode cX4_divide 81 = .ok (.iinc 4 1, 3) := by decide +kernel
theorem dX4_divide_84 : decode cX4_divide 84 = .ok (.goto (-57), 3) := by decide +kernel
theorem dX4_divide_87 : decode cX4_divide 87 = .ok (.aload_n 0, 1) := by decide +kernel
theorem dX4_divide_88 : decode cX4_divide 88 = .ok (.iload_n 3, 1) := by decide +kernel
theorem dX4_divide_89 : decode cX4_divide 89 = .ok (.invokevirtual 49, 3) := by decide +kernel
theorem dX4_divide_92 : decode cX4_divide 92 = .ok (.iconst 1, 1) := by decide +kernel
theorem dX4_divide_93 : decode cX4_divide 93 = .ok (.ireturn, 1) := by decide +kernel
theorem dX4_giveRest_0 : decode cX4_giveRest 0 = .ok (.iload_n 1, 1) := by decide +kernel
theorem dX4_giveRest_1 : decode cX4_giveRest 1 = .ok (.istore_n 2, 1) := by decide +kernel
theorem dX4_giveRest_2 : decode cX4_giveRest 2 = .ok (.iconst 0, 1) := by decide +kernel
theorem dX4_giveRest_3 : decode cX4_giveRest 3 = .ok (.istore_n 3, 1) := by decide +kernel
theorem dX4_giveRest_4 : decode cX4_giveRest 4 = .ok (.iload_n 3, 1) := by decide +kernel
theorem dX4_giveRest_5 : decode cX4_giveRest 5 = .ok (.aload_n 0, 1) := by decide +kernel
theorem dX4_giveRest_6 : decode cX4_giveRest 6 = .ok (.getfield 25, 3) := by decide +kernel
theorem dX4_giveRest_9 : decode cX4_giveRest 9 = .ok (.getfield 53, 3) := by decide +kernel
theorem dX4_giveRest_12 : decode cX4_giveRest 12 = .ok (.if_icmp .ge 36, 3) := by decide +kernel
theorem dX4_giveRest_15 : decode cX4_giveRest 15 = .ok (.iload_n 2, 1) := by decide +kernel
theorem dX4_giveRest_16 : decode cX4_giveRest 16 = .ok (.ifCond .le 32, 3) := by decide +kernel
theorem dX4_giveRest_19 : decode cX4_giveRest 19 = .ok (.aload_n 0, 1) := by decide +kernel
theorem dX4_giveRest_20 : decode cX4_giveRest 20 = .ok (.getfield 9, 3) := by decide +kernel
theorem dX4_giveRest_23 : decode cX4_giveRest 23 = .ok (.iload_n 3, 1) := by decide +kernel
theorem dX4_giveRest_24 : decode cX4_giveRest 24 = .ok (.iaload, 1) := by decide +kernel
theorem dX4_giveRest_25 : decode cX4_giveRest 25 = .ok (.iconst (-1), 1) := by decide +kernel
theorem dX4_giveRest_26 : decode cX4_giveRest 26 = .ok (.if_icmp .eq 16, 3) := by decide +kernel
theorem dX4_giveRest_29 : decode cX4_giveRest 29 = .ok (.aload_n 0, 1) := by decide +kernel
theorem dX4_giveRest_30 : decode cX4_giveRest 30 = .ok (.getfield 9, 3) := by decide +kernel
theorem dX4_giveRest_33 : decode cX4_giveRest 33 = .ok (.iload_n 3, 1) := by decide +kernel
theorem dX4_giveRest_34 : decode cX4_giveRest 34 = .ok (.dup2, 1) := by decide +kernel
theorem dX4_giveRest_35 : decode cX4_giveRest 35 = .ok (.iaload, 1) := by decide +kernel
theorem dX4_giveRest_36 : decode cX4_giveRest 36 = .ok (.iconst 1, 1) := by decide +kernel
theorem dX4_giveRest_37 : decode cX4_giveRest 37 = .ok (.iadd, 1) := by decide +kernel
theorem dX4_giveRest_38 : decode cX4_giveRest 38 = .ok (.iastore, 1) := by decide +kernel
theorem dX4_giveRest_39 : decode cX4_giveRest 39 = .ok (.iinc 2 (-1), 3) := by decide +kernel
theorem dX4_giveRest_42 : decode cX4_giveRest 42 = .ok (.iinc 3 1, 3) := by decide +kernel
theorem dX4_giveRest_45 : decode cX4_giveRest 45 = .ok (.goto (-41), 3) := by decide +kernel
theorem dX4_giveRest_48 : decode cX4_giveRest 48 = .ok (.return_, 1) := by decide +kernel
set_option maxRecDepth 20000 in
theorem ggX4_changes_X1_width : GoodIn wsX4_changes wsX1_width := goodIn_r _ [7, 8, 9, 13, 14, 15, 16, 17, 18] (by decide +kernel) (by decide +kernel)
set_option maxRecDepth 20000 in
theorem gX4_changes_X1_width : GoodIn wsX4_changes (wsV RX4 43 RX1 yX1_width wsX1_width) := goodIn_app (goodIn_of _ (by decide +kernel)) ggX4_changes_X1_width
theorem dX4_changes_0 : decode cX4_changes 0 = .ok (.aload_n 0, 1) := by decide +kernel
theorem dX4_changes_1 : decode cX4_changes 1 = .ok (.getfield 9, 3) := by decide +kernel
theorem dX4_changes_4 : decode cX4_changes 4 = .ok (.iload_n 1, 1) := by decide +kernel
theorem dX4_changes_5 : decode cX4_changes 5 = .ok (.iaload, 1) := by decide +kernel
theorem dX4_changes_6 : decode cX4_changes 6 = .ok (.iconst (-1), 1) := by decide +kernel
theorem dX4_changes_7 : decode cX4_changes 7 = .ok (.if_icmp .eq 24, 3) := by decide +kernel
theorem dX4_changes_10 : decode cX4_changes 10 = .ok (.aload_n 0, 1) := by decide +kernel
theorem dX4_changes_11 : decode cX4_changes 11 = .ok (.getfield 9, 3) := by decide +kernel
theorem dX4_changes_14 : decode cX4_changes 14 = .ok (.iload_n 1, 1) := by decide +kernel
theorem dX4_changes_15 : decode cX4_changes 15 = .ok (.iaload, 1) := by decide +kernel
theorem dX4_changes_16 : decode cX4_changes 16 = .ok (.aload_n 0, 1) := by decide +kernel
theorem dX4_changes_17 : decode cX4_changes 17 = .ok (.getfield 25, 3) := by decide +kernel
theorem dX4_changes_20 : decode cX4_changes 20 = .ok (.iload_n 1, 1) := by decide +kernel
theorem dX4_changes_21 : decode cX4_changes 21 = .ok (.invokevirtual 43, 3) := by decide +kernel
theorem dX4_changes_24 : decode cX4_changes 24 = .ok (.if_icmp .eq 7, 3) := by decide +kernel
theorem dX4_changes_27 : decode cX4_changes 27 = .ok (.iconst 1, 1) := by decide +kernel
theorem dX4_changes_28 : decode cX4_changes 28 = .ok (.goto 4, 3) := by decide +kernel
theorem dX4_changes_31 : decode cX4_changes 31 = .ok (.iconst 0, 1) := by decide +kernel
theorem dX4_changes_32 : decode cX4_changes 32 = .ok (.ireturn, 1) := by decide +kernel
set_option maxRecDepth 20000 in
theorem ggX4_newLower_J9_floorDiv_7cf53 : GoodIn wsX4_newLower wsJ9_floorDiv_7cf53 := goodIn_r _ [8] (by decide +kernel) (by decide +kernel)
set_option maxRecDepth 20000 in
theorem gX4_newLower_J9_floorDiv_7cf53 : GoodIn wsX4_newLower (va_wsS RX4 62 yJ9_floorDiv_7cf53 wsJ9_floorDiv_7cf53) := goodIn_app (goodIn_of _ (by decide +kernel)) ggX4_newLower_J9_floorDiv_7cf53
theorem dX4_newLower_0 : decode cX4_newLower 0 = .ok (.aload_n 0, 1) := by decide +kernel
theorem dX4_newLower_1 : decode cX4_newLower 1 = .ok (.getfield 25, 3) := by decide +kernel
theorem dX4_newLower_4 : decode cX4_newLower 4 = .ok (.getfield 56, 3) := by decide +kernel
theorem dX4_newLower_7 : decode cX4_newLower 7 = .ok (.iload_n 1, 1) := by decide +kernel
theorem dX4_newLower_8 : decode cX4_newLower 8 = .ok (.iaload, 1) := by decide +kernel
theorem dX4_newLower_9 : decode cX4_newLower 9 = .ok (.aload_n 0, 1) := by decide +kernel
theorem dX4_newLower_10 : decode cX4_newLower 10 = .ok (.getfield 25, 3) := by decide +kernel
theorem dX4_newLower_13 : decode cX4_newLower 13 = .ok (.getfield 59, 3) := by decide +kernel
theorem dX4_newLower_16 : decode cX4_newLower 16 = .ok (.iload_n 1, 1) := by decide +kernel
theorem dX4_newLower_17 : decode cX4_newLower 17 = .ok (.iaload, 1) := by decide +kernel
theorem dX4_newLower_18 : decode cX4_newLower 18 = .ok (.iadd, 1) := by decide +kernel
theorem dX4_newLower_19 : decode cX4_newLower 19 = .ok (.aload_n 0, 1) := by decide +kernel
theorem dX4_newLower_20 : decode cX4_newLower 20 = .ok (.getfield 9, 3) := by decide +kernel
theorem dX4_newLower_23 : decode cX4_newLower 23 = .ok (.iload_n 1, 1) := by decide +kernel
theorem dX4_newLower_24 : decode cX4_newLower 24 = .ok (.iaload, 1) := by decide +kernel
theorem dX4_newLower_25 : decode cX4_newLower 25 = .ok (.isub, 1) := by decide +kernel
theorem dX4_newLower_26 : decode cX4_newLower 26 = .ok (.iconst 2, 1) := by decide +kernel
theorem dX4_newLower_27 : decode cX4_newLower 27 = .ok (.invokestatic 62, 3) := by decide +kernel
theorem dX4_newLower_30 : decode cX4_newLower 30 = .ok (.ireturn, 1) := by decide +kernel
set_option maxRecDepth 20000 in
theorem ggX4_fit_X4_changes : GoodIn wsX4_fit wsX4_changes := goodIn_r _ [8, 3, 1, 9, 10, 11, 12, 13, 14, 15, 29, 30, 31, 32, 33, 34, 35, 36, 37] (by decide +kernel) (by decide +kernel)
set_option maxRecDepth 20000 in
theorem gX4_fit_X4_changes : GoodIn wsX4_fit (wsV RX4 68 RX4 yX4_changes wsX4_changes) := goodIn_app (goodIn_of _ (by decide +kernel)) ggX4_fit_X4_changes
set_option maxRecDepth 20000 in
theorem ggX4_fit_X4_newLower : GoodIn wsX4_fit wsX4_newLower := goodIn_r _ [19, 1, 20, 21, 3, 22, 23, 24, 25, 29, 30, 31, 32, 33, 34, 35, 36, 37] (by decide +kernel) (by decide +kernel)
set_option maxRecDepth 20000 in
theorem gX4_fit_X4_newLower : GoodIn wsX4_fit (wsV RX4 72 RX4 yX4_newLower wsX4_newLower) := goodIn_app (goodIn_of _ (by decide +kernel)) ggX4_fit_X4_newLower
set_option maxRecDepth 20000 in
theorem ggX4_fit_X6_areDeviations : GoodIn wsX4_fit wsX6_areDeviations := goodIn_r _ [28] (by decide +kernel) (by decide +kernel)
set_option maxRecDepth 20000 in
theorem gX4_fit_X6_areDeviations_n75 : GoodIn wsX4_fit (wsX6_areDeviations) := ggX4_fit_X6_areDeviations
theorem dX4_fit_0 : decode cX4_fit 0 = .ok (.iconst 0, 1) := by decide +kernel
theorem dX4_fit_1 : decode cX4_fit 1 = .ok (.istore_n 1, 1) := by decide +kernel
theorem dX4_fit_2 : decode cX4_fit 2 = .ok (.iload_n 1, 1) := by decide +kernel
theorem dX4_fit_3 : decode cX4_fit 3 = .ok (.aload_n 0, 1) := by decide +kernel
theorem dX4_fit_4 : decode cX4_fit 4 = .ok (.getfield 25, 3) := by decide +kernel
theorem dX4_fit_7 : decode cX4_fit 7 = .ok (.getfield 53, 3) := by decide +kernel
theorem dX4_fit_10 : decode cX4_fit 10 = .ok (.if_icmp .ge 42, 3) := by decide +kernel
theorem dX4_fit_13 : decode cX4_fit 13 = .ok (.aload_n 0, 1) := by decide +kernel
theorem dX4_fit_14 : decode cX4_fit 14 = .ok (.iload_n 1, 1) := by decide +kernel
theorem dX4_fit_15 : decode cX4_fit 15 = .ok (.invokevirtual 68, 3) := by decide +kernel
theorem dX4_fit_18 : decode cX4_fit 18 = .ok (.ifCond .eq 28, 3) := by decide +kernel
theorem dX4_fit_21 : decode cX4_fit 21 = .ok (.aload_n 0, 1) := by decide +kernel
theorem dX4_fit_22 : decode cX4_fit 22 = .ok (.iload_n 1, 1) := by decide +kernel
theorem dX4_fit_23 : decode cX4_fit 23 = .ok (.invokevirtual 72, 3) := by decide +kernel
theorem dX4_fit_26 : decode cX4_fit 26 = .ok (.aload_n 0, 1) := by decide +kernel
theorem dX4_fit_27 : decode cX4_fit 27 = .ok (.iload_n 1, 1) := by decide +kernel
theorem dX4_fit_28 : decode cX4_fit 28 = .ok (.invokevirtual 72, 3) := by decide +kernel
theorem dX4_fit_31 : decode cX4_fit 31 = .ok (.aload_n 0, 1) := by decide +kernel
theorem dX4_fit_32 : decode cX4_fit 32 = .ok (.getfield 9, 3) := by decide +kernel
theorem dX4_fit_35 : decode cX4_fit 35 = .ok (.iload_n 1, 1) := by decide +kernel
theorem dX4_fit_36 : decode cX4_fit 36 = .ok (.iaload, 1) := by decide +kernel
theorem dX4_fit_37 : decode cX4_fit 37 = .ok (.iadd, 1) := by decide +kernel
theorem dX4_fit_38 : decode cX4_fit 38 = .ok (.invokestatic 75, 3) := by decide +kernel
theorem dX4_fit_41 : decode cX4_fit 41 = .ok (.ifCond .ne 5, 3) := by decide +kernel
theorem dX4_fit_44 : decode cX4_fit 44 = .ok (.iconst 0, 1) := by decide +kernel
theorem dX4_fit_45 : decode cX4_fit 45 = .ok (.ireturn, 1) := by decide +kernel
theorem dX4_fit_46 : decode cX4_fit 46 = .ok (.iinc 1 1, 3) := by decide +kernel
theorem dX4_fit_49 : decode cX4_fit 49 = .ok (.goto (-47), 3) := by decide +kernel
theorem dX4_fit_52 : decode cX4_fit 52 = .ok (.iconst 1, 1) := by decide +kernel
theorem dX4_fit_53 : decode cX4_fit 53 = .ok (.ireturn, 1) := by decide +kernel
set_option maxRecDepth 20000 in
theorem ggX4_apply_X4_changes : GoodIn wsX4_apply wsX4_changes := goodIn_r _ [10, 5, 1, 11, 12, 13, 14, 15, 16, 17, 26, 27, 28, 29, 30, 31, 32, 33, 34] (by decide +kernel) (by decide +kernel)
set_option maxRecDepth 20000 in
theorem gX4_apply_X4_changes : GoodIn wsX4_apply (wsV RX4 68 RX4 yX4_changes wsX4_changes) := goodIn_app (goodIn_of _ (by decide +kernel)) ggX4_apply_X4_changes
set_option maxRecDepth 20000 in
theorem ggX4_apply_X4_newLower : GoodIn wsX4_apply wsX4_newLower := goodIn_r _ [21, 1, 3, 4, 5, 22, 23, 24, 25, 26, 27, 28, 29, 30, 31, 32, 33, 34] (by decide +kernel) (by decide +kernel)
set_option maxRecDepth 20000 in
theorem gX4_apply_X4_newLower : GoodIn wsX4_apply (wsV RX4 72 RX4 yX4_newLower wsX4_newLower) := goodIn_app (goodIn_of _ (by decide +kernel)) ggX4_apply_X4_newLower
theorem dX4_apply_0 : decode cX4_apply 0 = .ok (.iconst 0, 1) := by decide +kernel
theorem dX4_apply_1 : decode cX4_apply 1 = .ok (.istore_n 1, 1) := by decide +kernel
theorem dX4_apply_2 : decode cX4_apply 2 = .ok (.iconst 0, 1) := by decide +kernel
theorem dX4_apply_3 : decode cX4_apply 3 = .ok (.istore_n 2, 1) := by decide +kernel
theorem dX4_apply_4 : decode cX4_apply 4 = .ok (.iload_n 2, 1) := by decide +kernel
theorem dX4_apply_5 : decode cX4_apply 5 = .ok (.aload_n 0, 1) := by decide +kernel
theorem dX4_apply_6 : decode cX4_apply 6 = .ok (.getfield 25, 3) := by decide +kernel
theorem dX4_apply_9 : decode cX4_apply 9 = .ok (.getfield 53, 3) := by decide +kernel
theorem dX4_apply_12 : decode cX4_apply 12 = .ok (.if_icmp .ge 53, 3) := by decide +kernel
theorem dX4_apply_15 : decode cX4_apply 15 = .ok (.aload_n 0, 1) := by decide +kernel
theorem dX4_apply_16 : decode cX4_apply 16 = .ok (.iload_n 2, 1) := by decide +kernel
theorem dX4_apply_17 : decode cX4_apply 17 = .ok (.invokevirtual 68, 3) := by decide +kernel
theorem dX4_apply_20 : decode cX4_apply 20 = .ok (.ifCond .eq 39, 3) := by decide +kernel
theorem dX4_apply_23 : decode cX4_apply 23 = .ok (.aload_n 0, 1) := by decide +kernel
theorem dX4_apply_24 : decode cX4_apply 24 = .ok (.iload_n 2, 1) := by decide +kernel
theorem dX4_apply_25 : decode cX4_apply 25 = .ok (.invokevirtual 72, 3) := by decide +kernel
theorem dX4_apply_28 : decode cX4_apply 28 = .ok (.istore_n 3, 1) := by decide +kernel
theorem dX4_apply_29 : decode cX4_apply 29 = .ok (.aload_n 0, 1) := by decide +kernel
theorem dX4_apply_30 : decode cX4_apply 30 = .ok (.getfield 25, 3) := by decide +kernel
theorem dX4_apply_33 : decode cX4_apply 33 = .ok (.getfield 56, 3) := by decide +kernel
theorem dX4_apply_36 : decode cX4_apply 36 = .ok (.iload_n 2, 1) := by decide +kernel
theorem dX4_apply_37 : decode cX4_apply 37 = .ok (.iload_n 3, 1) := by decide +kernel
theorem dX4_apply_38 : decode cX4_apply 38 = .ok (.iastore, 1) := by decide +kernel
theorem dX4_apply_39 : decode cX4_apply 39 = .ok (.aload_n 0, 1) := by decide +kernel
theorem dX4_apply_40 : decode cX4_apply 40 = .ok (.getfield 25, 3) := by decide +kernel
theorem dX4_apply_43 : decode cX4_apply 43 = .ok (.getfield 59, 3) := by decide +kernel
theorem dX4_apply_46 : decode cX4_apply 46 = .ok (.iload_n 2, 1) := by decide +kernel
theorem dX4_apply_47 : decode cX4_apply 47 = .ok (.iload_n 3, 1) := by decide +kernel
theorem dX4_apply_48 : decode cX4_apply 48 = .ok (.aload_n 0, 1) := by decide +kernel
theorem dX4_apply_49 : decode cX4_apply 49 = .ok (.getfield 9, 3) := by decide +kernel
theorem dX4_apply_52 : decode cX4_apply 52 = .ok (.iload_n 2, 1) := by decide +kernel
theorem dX4_apply_53 : decode cX4_apply 53 = .ok (.iaload, 1) := by decide +kernel
theorem dX4_apply_54 : decode cX4_apply 54 = .ok (.iadd, 1) := by decide +kernel
theorem dX4_apply_55 : decode cX4_apply 55 = .ok (.iastore, 1) := by decide +kernel
theorem dX4_apply_56 : decode cX4_apply 56 = .ok (.iinc 1 1, 3) := by decide +kernel
theorem dX4_apply_59 : decode cX4_apply 59 = .ok (.iinc 2 1, 3) := by decide +kernel
theorem dX4_apply_62 : decode cX4_apply 62 = .ok (.goto (-58), 3) := by decide +kernel
theorem dX4_apply_65 : decode cX4_apply 65 = .ok (.iload_n 1, 1) := by decide +kernel
theorem dX4_apply_66 : decode cX4_apply 66 = .ok (.ireturn, 1) := by decide +kernel
theorem dX5_init_0 : decode cX5_init 0 = .ok (.aload_n 0, 1) := by decide +kernel
theorem dX5_init_1 : decode cX5_init 1 = .ok (.invokespecial 3, 3) := by decide +kernel
theorem dX5_init_4 : decode cX5_init 4 = .ok (.aload_n 0, 1) := by decide +kernel
theorem dX5_init_5 : decode cX5_init 5 = .ok (.sipush 144, 3) := by decide +kernel
theorem dX5_init_8 : decode cX5_init 8 = .ok (.newarray .int, 2) := by decide +kernel
theorem dX5_init_10 : decode cX5_init 10 = .ok (.putfield 9, 3) := by decide +kernel
theorem dX5_init_13 : decode cX5_init 13 = .ok (.aload_n 0, 1) := by decide +kernel
theorem dX5_init_14 : decode cX5_init 14 = .ok (.aload_n 1, 1) := by decide +kernel
theorem dX5_init_15 : decode cX5_init 15 = .ok (.putfield 15, 3) := by decide +kernel
theorem dX5_init_18 : decode cX5_init 18 = .ok (.return_, 1) := by decide +kernel
set_option maxRecDepth 20000 in
theorem ggX5_settle_X5_takeDimensions : GoodIn wsX5_settle wsX5_takeDimensions := goodIn_r _ [7, 8, 9, 1, 2, 10, 11, 12, 13, 14, 15, 16, 17, 18, 19, 6, 20, 21, 22, 23, 24, 25, 26, 27, 28, 29, 30, 31, 32, 33, 34, 35, 36, 37, 38, 39, 40, 49, 50, 51, 52, 53, 54, 55, 56, 57, 58, 59, 60] (by decide +kernel) (by decide +kernel)
set_option maxRecDepth 20000 in
theorem gX5_settle_X5_takeDimensions : GoodIn wsX5_settle (wsV RX5 19 RX5 yX5_takeDimensions wsX5_takeDimensions) := goodIn_app (goodIn_of _ (by decide +kernel)) ggX5_settle_X5_takeDimensions
set_option maxRecDepth 20000 in
theorem ggX5_settle_X5_narrowThrough : GoodIn wsX5_settle wsX5_narrowThrough := goodIn_r _ [44, 1, 2, 8, 9, 18, 19, 6, 20, 28, 29, 30, 31, 32, 33, 34, 35, 49, 50, 51, 52, 53, 54] (by decide +kernel) (by decide +kernel)
set_option maxRecDepth 20000 in
theorem gX5_settle_X5_narrowThrough : GoodIn wsX5_settle (wsV RX5 28 RX5 yX5_narrowThrough wsX5_narrowThrough) := goodIn_app (goodIn_of _ (by decide +kernel)) ggX5_settle_X5_narrowThrough
set_option maxRecDepth 20000 in
theorem ggX5_settle_X5_ringsClose : GoodIn wsX5_settle wsX5_ringsClose := goodIn_r _ [48, 1, 2, 8, 18, 19, 6, 20, 49, 50, 51, 52, 53, 54] (by decide +kernel) (by decide +kernel)
set_option maxRecDepth 20000 in
theorem gX5_settle_X5_ringsClose : GoodIn wsX5_settle (wsV RX5 32 RX5 yX5_ringsClose wsX5_ringsClose) := goodIn_app (goodIn_of _ (by decide +kernel)) ggX5_settle_X5_ringsClose
theorem dX5_settle_0 : decode cX5_settle 0 = .ok (.aload_n 0, 1) := by decide +kernel
theorem dX5_settle_1 : decode cX5_settle 1 = .ok (.invokevirtual 19, 3) := by decide +kernel
theorem dX5_settle_4 : decode cX5_settle 4 = .ok (.iconst 0, 1) := by decide +kernel
theorem dX5_settle_5 : decode cX5_settle 5 = .ok (.istore_n 1, 1) := by decide +kernel
theorem dX5_settle_6 : decode cX5_settle 6 = .ok (.iload_n 1, 1) := by decide +kernel
theorem dX5_settle_7 : decode cX5_settle 7 = .ok (.aload_n 0, 1) := by decide +kernel
theorem dX5_settle_8 : decode cX5_settle 8 = .ok (.getfield 15, 3) := by decide +kernel
theorem dX5_settle_11 : decode cX5_settle 11 = .ok (.getfield 22, 3) := by decide +kernel
theorem dX5_settle_14 : decode cX5_settle 14 = .ok (.if_icmp .ge 23, 3) := by decide +kernel
theorem dX5_settle_17 : decode cX5_settle 17 = .ok (.aload_n 0, 1) := by decide +kernel
theorem dX5_settle_18 : decode cX5_settle 18 = .ok (.iload_n 1, 1) := by decide +kernel
theorem dX5_settle_19 : decode cX5_settle 19 = .ok (.invokevirtual 28, 3) := by decide +kernel
theorem dX5_settle_22 : decode cX5_settle 22 = .ok (.aload_n 0, 1) := by decide +kernel
theorem dX5_settle_23 : decode cX5_settle 23 = .ok (.invokevirtual 32, 3) := by decide +kernel
theorem dX5_settle_26 : decode cX5_settle 26 = .ok (.ifCond .ne 5, 3) := by decide +kernel
theorem dX5_settle_29 : decode cX5_settle 29 = .ok (.iconst 0, 1) := by decide +kernel
theorem dX5_settle_30 : decode cX5_settle 30 = .ok (.ireturn, 1) := by decide +kernel
theorem dX5_settle_31 : decode cX5_settle 31 = .ok (.iinc 1 1, 3) := by decide +kernel
theorem dX5_settle_34 : decode cX5_settle 34 = .ok (.goto (-28), 3) := by decide +kernel
theorem dX5_settle_37 : decode cX5_settle 37 = .ok (.iconst 1, 1) := by decide +kernel
theorem dX5_settle_38 : decode cX5_settle 38 = .ok (.ireturn, 1) := by decide +kernel
set_option maxRecDepth 20000 in
theorem ggX5_greatestGap_X5_cell : GoodIn wsX5_greatestGap wsX5_cell := goodIn_r _ [5] (by decide +kernel) (by decide +kernel)
set_option maxRecDepth 20000 in
theorem gX5_greatestGap_X5_cell : GoodIn wsX5_greatestGap (va_wsS RX5 36 yX5_cell wsX5_cell) := goodIn_app (goodIn_of _ (by decide +kernel)) ggX5_greatestGap_X5_cell
theorem dX5_greatestGap_0 : decode cX5_greatestGap 0 = .ok (.aload_n 0, 1) := by decide +kernel
theorem dX5_greatestGap_1 : decode cX5_greatestGap 1 = .ok (.getfield 9, 3) := by decide +kernel
theorem dX5_greatestGap_4 : decode cX5_greatestGap 4 = .ok (.iload_n 1, 1) := by decide +kernel
theorem dX5_greatestGap_5 : decode cX5_greatestGap 5 = .ok (.iload_n 2, 1) := by decide +kernel
theorem dX5_greatestGap_6 : decode cX5_greatestGap 6 = .ok (.invokestatic 36, 3) := by decide +kernel
theorem dX5_greatestGap_9 : decode cX5_greatestGap 9 = .ok (.iaload, 1) := by decide +kernel
theorem dX5_greatestGap_10 : decode cX5_greatestGap 10 = .ok (.ireturn, 1) := by decide +kernel
set_option maxRecDepth 20000 in
theorem ggX5_leastGap_X5_cell : GoodIn wsX5_leastGap wsX5_cell := goodIn_r _ [5] (by decide +kernel) (by decide +kernel)
set_option maxRecDepth 20000 in
theorem gX5_leastGap_X5_cell : GoodIn wsX5_leastGap (va_wsS RX5 36 yX5_cell wsX5_cell) := goodIn_app (goodIn_of _ (by decide +kernel)) ggX5_leastGap_X5_cell
theorem dX5_leastGap_0 : decode cX5_leastGap 0 = .ok (.aload_n 0, 1) := by decide +kernel
theorem dX5_leastGap_1 : decode cX5_leastGap 1 = .ok (.getfield 9, 3) := by decide +kernel
theorem dX5_leastGap_4 : decode cX5_leastGap 4 = .ok (.iload_n 2, 1) := by decide +kernel
theorem dX5_leastGap_5 : decode cX5_leastGap 5 = .ok (.iload_n 1, 1) := by decide +kernel
theorem dX5_leastGap_6 : decode cX5_leastGap 6 = .ok (.invokestatic 36, 3) := by decide +kernel
theorem dX5_leastGap_9 : decode cX5_leastGap 9 = .ok (.iaload, 1) := by decide +kernel
theorem dX5_leastGap_10 : decode cX5_leastGap 10 = .ok (.ineg, 1) := by decide +kernel
theorem dX5_leastGap_11 : decode cX5_leastGap 11 = .ok (.ireturn, 1) := by decide +kernel
theorem dX5_cell_0 : decode cX5_cell 0 = .ok (.iload_n 0, 1) := by decide +kernel
theorem dX5_cell_1 : decode cX5_cell 1 = .ok (.bipush 12, 2) := by decide +kernel
theorem dX5_cell_3 : decode cX5_cell 3 = .ok (.imul, 1) := by decide +kernel
theorem dX5_cell_4 : decode cX5_cell 4 = .ok (.iload_n 1, 1) := by decide +kernel
theorem dX5_cell_5 : decode cX5_cell 5 = .ok (.iadd, 1) := by decide +kernel
theorem dX5_cell_6 : decode cX5_cell 6 = .ok (.ireturn, 1) := by decide +kernel
set_option maxRecDepth 20000 in
theorem ggX5_takeDimensions_J7_fill_53178 : GoodIn wsX5_takeDimensions wsJ7_fill_53178 := goodIn_r _ [12] (by decide +kernel) (by decide +kernel)
set_option maxRecDepth 20000 in
theorem gX5_takeDimensions_J7_fill_53178 : GoodIn wsX5_takeDimensions (va_wsS RX5 41 yJ7_fill_53178 wsJ7_fill_53178) := goodIn_app (goodIn_of _ (by decide +kernel)) ggX5_takeDimensions_J7_fill_53178
set_option maxRecDepth 20000 in
theorem ggX5_takeDimensions_X5_cell : GoodIn wsX5_takeDimensions wsX5_cell := goodIn_r _ [16] (by decide +kernel) (by decide +kernel)
set_option maxRecDepth 20000 in
theorem gX5_takeDimensions_X5_cell : GoodIn wsX5_takeDimensions (va_wsS RX5 36 yX5_cell wsX5_cell) := goodIn_app (goodIn_of _ (by decide +kernel)) ggX5_takeDimensions_X5_cell
set_option maxRecDepth 20000 in
theorem ggX5_takeDimensions_X1_greatestLimit : GoodIn wsX5_takeDimensions wsX1_greatestLimit := goodIn_r _ [21, 22, 23, 43, 44, 45, 46, 47, 48] (by decide +kernel) (by decide +kernel)
set_option maxRecDepth 20000 in
theorem gX5_takeDimensions_X1_greatestLimit : GoodIn wsX5_takeDimensions (wsV RX5 62 RX1 yX1_greatestLimit wsX1_greatestLimit) := goodIn_app (goodIn_of _ (by decide +kernel)) ggX5_takeDimensions_X1_greatestLimit
set_option maxRecDepth 20000 in
theorem ggX5_takeDimensions_X5_narrow : GoodIn wsX5_takeDimensions wsX5_narrow := goodIn_r _ [27, 1, 28, 29, 30, 31, 13, 14, 15, 16, 37, 38] (by decide +kernel) (by decide +kernel)
set_option maxRecDepth 20000 in
theorem gX5_takeDimensions_X5_narrow : GoodIn wsX5_takeDimensions (wsV RX5 66 RX5 yX5_narrow wsX5_narrow) := goodIn_app (goodIn_of _ (by decide +kernel)) ggX5_takeDimensions_X5_narrow
set_option maxRecDepth 20000 in
theorem ggX5_takeDimensions_X1_leastLimit : GoodIn wsX5_takeDimensions wsX1_leastLimit := goodIn_r _ [35, 22, 36, 43, 44, 45, 46, 47, 48] (by decide +kernel) (by decide +kernel)
set_option maxRecDepth 20000 in
theorem gX5_takeDimensions_X1_leastLimit : GoodIn wsX5_takeDimensions (wsV RX5 70 RX1 yX1_leastLimit wsX1_leastLimit) := goodIn_app (goodIn_of _ (by decide +kernel)) ggX5_takeDimensions_X1_leastLimit
theorem dX5_takeDimensions_0 : decode cX5_takeDimensions 0 = .ok (.aload_n 0, 1) := by decide +kernel
theorem dX5_takeDimensions_1 : decode cX5_takeDimensions 1 = .ok (.getfield 9, 3) := by decide +kernel
theorem dX5_takeDimensions_4 : decode cX5_takeDimensions 4 = .ok (.ldc 40, 2) := by decide +kernel
theorem dX5_takeDimensions_6 : decode cX5_takeDimensions 6 = .ok (.invokestatic 41, 3) := by decide +kernel
theorem dX5_takeDimensions_9 : decode cX5_takeDimensions 9 = .ok (.iconst 0, 1) := by decide +kernel
theorem dX5_takeDimensions_10 : decode cX5_takeDimensions 10 = .ok (.istore_n 1, 1) := by decide +kernel
theorem dX5_takeDimensions_11 : decode cX5_takeDimensions 11 = .ok (.iload_n 1, 1) := by decide +kernel
theorem dX5_takeDimensions_12 : decode cX5_takeDimensions 12 = .ok (.aload_n 0, 1) := by decide +kernel
theorem dX5_takeDimensions_13 : decode cX5_takeDimensions 13 = .ok (.getfield 15, 3) := by decide +kernel
theorem dX5_takeDimensions_16 : decode cX5_takeDimensions 16 = .ok (.getfield 22, 3) := by decide +kernel
theorem dX5_takeDimensions_19 : decode cX5_takeDimensions 19 = .ok (.if_icmp .ge 20, 3) := by decide +kernel
theorem dX5_takeDimensions_22 : decode cX5_takeDimensions 22 = .ok (.aload_n 0, 1) := by decide +kernel
theorem dX5_takeDimensions_23 : decode cX5_takeDimensions 23 = .ok (.getfield 9, 3) := by decide +kernel
theorem dX5_takeDimensions_26 : decode cX5_takeDimensions 26 = .ok (.iload_n 1, 1) := by decide +kernel
theorem dX5_takeDimensions_27 : decode cX5_takeDimensions 27 = .ok (.iload_n 1, 1) := by decide +kernel
theorem dX5_takeDimensions_28 : decode cX5_takeDimensions 28 = .ok (.invokestatic 36, 3) := by decide +kernel
theorem dX5_takeDimensions_31 : decode cX5_takeDimensions 31 = .ok (.iconst 0, 1) := by decide +kernel
theorem dX5_takeDimensions_32 : decode cX5_takeDimensions 32 = .ok (.iastore, 1) := by decide +kernel
theorem dX5_takeDimensions_33 : decode cX5_takeDimensions 33 = .ok (.iinc 1 1, 3) := by decide +kernel
theorem dX5_takeDimensions_36 : decode cX5_takeDimensions 36 = .ok (.goto (-25), 3) := by decide +kernel
theorem dX5_takeDimensions_39 : decode cX5_takeDimensions 39 = .ok (.aload_n 0, 1) := by decide +kernel
theorem dX5_takeDimensions_40 : decode cX5_takeDimensions 40 = .ok (.getfield 15, 3) := by decide +kernel
theorem dX5_takeDimensions_43 : decode cX5_takeDimensions 43 = .ok (.getfield 47, 3) := by decide +kernel
theorem dX5_takeDimensions_46 : decode cX5_takeDimensions 46 = .ok (.astore_n 1, 1) := by decide +kernel
theorem dX5_takeDimensions_47 : decode cX5_takeDimensions 47 = .ok (.iconst 0, 1) := by decide +kernel
theorem dX5_takeDimensions_48 : decode cX5_takeDimensions 48 = .ok (.istore_n 2, 1) := by decide +kernel
theorem dX5_takeDimensions_49 : decode cX5_takeDimensions 49 = .ok (.iload_n 2, 1) := by decide +kernel
theorem dX5_takeDimensions_50 : decode cX5_takeDimensions 50 = .ok (.aload_n 1, 1) := by decide +kernel
theorem dX5_takeDimensions_51 : decode cX5_takeDimensions 51 = .ok (.getfield 51, 3) := by decide +kernel
theorem dX5_takeDimensions_54 : decode cX5_takeDimensions 54 = .ok (.if_icmp .ge 52, 3) := by decide +kernel
theorem dX5_takeDimensions_57 : decode cX5_takeDimensions 57 = .ok (.aload_n 0, 1) := by decide +kernel
theorem dX5_takeDimensions_58 : decode cX5_takeDimensions 58 = .ok (.aload_n 1, 1) := by decide +kernel
theorem dX5_takeDimensions_59 : decode cX5_takeDimensions 59 = .ok (.getfield 56, 3) := by decide +kernel
theorem dX5_takeDimensions_62 : decode cX5_takeDimensions 62 = .ok (.iload_n 2, 1) := by decide +kernel
theorem dX5_takeDimensions_63 : decode cX5_takeDimensions 63 = .ok (.iaload, 1) := by decide +kernel
theorem dX5_takeDimensions_64 : decode cX5_takeDimensions 64 = .ok (.aload_n 1, 1) := by decide +kernel
theorem dX5_takeDimensions_65 : decode cX5_takeDimensions 65 = .ok (.getfield 59, 3) := by decide +kernel
theorem dX5_takeDimensions_68 : decode cX5_takeDimensions 68 = .ok (.iload_n 2, 1) := by decide +kernel
theorem dX5_takeDimensions_69 : decode cX5_takeDimensions 69 = .ok (.iaload, 1) := by decide +kernel
theorem dX5_takeDimensions_70 : decode cX5_takeDimensions 70 = .ok (.aload_n 1, 1) := by decide +kernel
theorem dX5_takeDimensions_71 : decode cX5_takeDimensions 71 = .ok (.iload_n 2, 1) := by decide +kernel
theorem dX5_takeDimensions_72 : decode cX5_takeDimensions 72 = .ok (.invokevirtual 62, 3) := by decide +kernel
theorem dX5_takeDimensions_75 : decode cX5_takeDimensions 75 = .ok (.invokevirtual 66, 3) := by decide +kernel
theorem dX5_takeDimensions_78 : decode cX5_takeDimensions 78 = .ok (.aload_n 0, 1) := by decide +kernel
theorem dX5_takeDimensions_79 : decode cX5_takeDimensions 79 = .ok (.aload_n 1, 1) := by decide +kernel
theorem dX5_takeDimensions_80 : decode cX5_takeDimensions 80 = .ok (.getfield 59, 3) := by decide +kernel
theorem dX5_takeDimensions_83 : decode cX5_takeDimensions 83 = .ok (.iload_n 2, 1) := by decide +kernel
theorem dX5_takeDimensions_84 : decode cX5_takeDimensions 84 = .ok (.iaload, 1) := by decide +kernel
theorem dX5_takeDimensions_85 : decode cX5_takeDimensions 85 = .ok (.aload_n 1, 1) := by decide +kernel
theorem dX5_takeDimensions_86 : decode cX5_takeDimensions 86 = .ok (.getfield 56, 3) := by decide +kernel
theorem dX5_takeDimensions_89 : decode cX5_takeDimensions 89 = .ok (.iload_n 2, 1) := by decide +kernel
theorem dX5_takeDimensions_90 : decode cX5_takeDimensions 90 = .ok (.iaload, 1) := by decide +kernel
theorem dX5_takeDimensions_91 : decode cX5_takeDimensions 91 = .ok (.aload_n 1, 1) := by decide +kernel
theorem dX5_takeDimensions_92 : decode cX5_takeDimensions 92 = .ok (.iload_n 2, 1) := by decide +kernel
theorem dX5_takeDimensions_93 : decode cX5_takeDimensions 93 = .ok (.invokevirtual 70, 3) := by decide +kernel
theorem dX5_takeDimensions_96 : decode cX5_takeDimensions 96 = .ok (.ineg, 1) := by decide +kernel
theorem dX5_takeDimensions_97 : decode cX5_takeDimensions 97 = .ok (.invokevirtual 66, 3) := by decide +kernel
theorem dX5_takeDimensions_100 : decode cX5_takeDimensions 100 = .ok (.iinc 2 1, 3) := by decide +kernel
theorem dX5_takeDimensions_103 : decode cX5_takeDimensions 103 = .ok (.goto (-54), 3) := by decide +kernel
theorem dX5_takeDimensions_106 : decode cX5_takeDimensions 106 = .ok (.return_, 1) := by decide +kernel
set_option maxRecDepth 20000 in
theorem ggX5_narrow_X5_cell : GoodIn wsX5_narrow wsX5_cell := goodIn_r _ [9] (by decide +kernel) (by decide +kernel)
set_option maxRecDepth 20000 in
theorem gX5_narrow_X5_cell : GoodIn wsX5_narrow (va_wsS RX5 36 yX5_cell wsX5_cell) := goodIn_app (goodIn_of _ (by decide +kernel)) ggX5_narrow_X5_cell
theorem dX5_narrow_0 : decode cX5_narrow 0 = .ok (.iload_n 1, 1) := by decide +kernel
theorem dX5_narrow_1 : decode cX5_narrow 1 = .ok (.iload_n 2, 1) := by decide +kernel
theorem dX5_narrow_2 : decode cX5_narrow 2 = .ok (.invokestatic 36, 3) := by decide +kernel
theorem dX5_narrow_5 : decode cX5_narrow 5 = .ok (.istore 4, 2) := by decide +kernel
theorem dX5_narrow_7 : decode cX5_narrow 7 = .ok (.aload_n 0, 1) := by decide +kernel
theorem dX5_narrow_8 : decode cX5_narrow 8 = .ok (.getfield 9, 3) := by decide +kernel
theorem dX5_narrow_11 : decode cX5_narrow 11 = .ok (.iload 4, 2) := by decide +kernel
theorem dX5_narrow_13 : decode cX5_narrow 13 = .ok (.aload_n 0, 1) := by decide +kernel
theorem dX5_narrow_14 : decode cX5_narrow 14 = .ok (.getfield 9, 3) := by decide +kernel
theorem dX5_narrow_17 : decode cX5_narrow 17 = .ok (.iload 4, 2) := by decide +kernel
theorem dX5_narrow_19 : decode cX5_narrow 19 = .ok (.iaload, 1) := by decide +kernel
theorem dX5_narrow_20 : decode cX5_narrow 20 = .ok (.iload_n 3, 1) := by decide +kernel
theorem dX5_narrow_21 : decode cX5_narrow 21 = .ok (.invokestatic 73, 3) := by decide +kernel
theorem dX5_narrow_24 : decode cX5_narrow 24 = .ok (.iastore, 1) := by decide +kernel
theorem dX5_narrow_25 : decode cX5_narrow 25 = .ok (.return_, 1) := by decide +kernel
set_option maxRecDepth 20000 in
theorem ggX5_narrowThrough_X5_cell : GoodIn wsX5_narrowThrough wsX5_cell := goodIn_r _ [8] (by decide +kernel) (by decide +kernel)
set_option maxRecDepth 20000 in
theorem gX5_narrowThrough_X5_cell : GoodIn wsX5_narrowThrough (va_wsS RX5 36 yX5_cell wsX5_cell) := goodIn_app (goodIn_of _ (by decide +kernel)) ggX5_narrowThrough_X5_cell
set_option maxRecDepth 20000 in
theorem ggX5_narrowThrough_X5_narrow : GoodIn wsX5_narrowThrough wsX5_narrow := goodIn_r _ [12, 3, 13, 14, 15, 16, 5, 6, 7, 8, 17, 18] (by decide +kernel) (by decide +kernel)
set_option maxRecDepth 20000 in
theorem gX5_narrowThrough_X5_narrow : GoodIn wsX5_narrowThrough (wsV RX5 66 RX5 yX5_narrow wsX5_narrow) := goodIn_app (goodIn_of _ (by decide +kernel)) ggX5_narrowThrough_X5_narrow
theorem dX5_narrowThrough_0 : decode cX5_narrowThrough 0 = .ok (.iconst 0, 1) := by decide +kernel
theorem dX5_narrowThrough_1 : decode cX5_narrowThrough 1 = .ok (.istore_n 2, 1) := by decide +kernel
theorem dX5_narrowThrough_2 : decode cX5_narrowThrough 2 = .ok (.iload_n 2, 1) := by decide +kernel
theorem dX5_narrowThrough_3 : decode cX5_narrowThrough 3 = .ok (.aload_n 0, 1) := by decide +kernel
theorem dX5_narrowThrough_4 : decode cX5_narrowThrough 4 = .ok (.getfield 15, 3) := by decide +kernel
theorem dX5_narrowThrough_7 : decode cX5_narrowThrough 7 = .ok (.getfield 22, 3) := by decide +kernel
theorem dX5_narrowThrough_10 : decode cX5_narrowThrough 10 = .ok (.if_icmp .ge 77, 3) := by decide +kernel
theorem dX5_narrowThrough_13 : decode cX5_narrowThrough 13 = .ok (.iconst 0, 1) := by decide +kernel
theorem dX5_narrowThrough_14 : decode cX5_narrowThrough 14 = .ok (.istore_n 3, 1) := by decide +kernel
theorem dX5_narrowThrough_15 : decode cX5_narrowThrough 15 = .ok (.iload_n 3, 1) := by decide +kernel
theorem dX5_narrowThrough_16 : decode cX5_narrowThrough 16 = .ok (.aload_n 0, 1) := by decide +kernel
theorem dX5_narrowThrough_17 : decode cX5_narrowThrough 17 = .ok (.getfield 15, 3) := by decide +kernel
theorem dX5_narrowThrough_20 : decode cX5_narrowThrough 20 = .ok (.getfield 22, 3) := by decide +kernel
theorem dX5_narrowThrough_23 : decode cX5_narrowThrough 23 = .ok (.if_icmp .ge 58, 3) := by decide +kernel
theorem dX5_narrowThrough_26 : decode cX5_narrowThrough 26 = .ok (.aload_n 0, 1) := by decide +kernel
theorem dX5_narrowThrough_27 : decode cX5_narrowThrough 27 = .ok (.getfield 9, 3) := by decide +kernel
theorem dX5_narrowThrough_30 : decode cX5_narrowThrough 30 = .ok (.iload_n 2, 1) := by decide +kernel
theorem dX5_narrowThrough_31 : decode cX5_narrowThrough 31 = .ok (.iload_n 1, 1) := by decide +kernel
theorem dX5_narrowThrough_32 : decode cX5_narrowThrough 32 = .ok (.invokestatic 36, 3) := by decide +kernel
theorem dX5_narrowThrough_35 : decode cX5_narrowThrough 35 = .ok (.iaload, 1) := by decide +kernel
theorem dX5_narrowThrough_36 : decode cX5_narrowThrough 36 = .ok (.istore 4, 2) := by decide +kernel
theorem dX5_narrowThrough_38 : decode cX5_narrowThrough 38 = .ok (.aload_n 0, 1) := by decide +kernel
theorem dX5_narrowThrough_39 : decode cX5_narrowThrough 39 = .ok (.getfield 9, 3) := by decide +kernel
theorem dX5_narrowThrough_42 : decode cX5_narrowThrough 42 = .ok (.iload_n 1, 1) := by decide +kernel
theorem dX5_narrowThrough_43 : decode cX5_narrowThrough 43 = .ok (.iload_n 3, 1) := by decide +kernel
theorem dX5_narrowThrough_44 : decode cX5_narrowThrough 44 = .ok (.invokestatic 36, 3) := by decide +kernel
theorem dX5_narrowThrough_47 : decode cX5_narrowThrough 47 = .ok (.iaload, 1) := by decide +kernel
theorem dX5_narrowThrough_48 : decode cX5_narrowThrough 48 = .ok (.istore 5, 2) := by decide +kernel
theorem dX5_narrowThrough_50 : decode cX5_narrowThrough 50 = .ok (.iload 4, 2) := by decide +kernel
theorem dX5_narrowThrough_52 : decode cX5_narrowThrough 52 = .ok (.ldc 40, 2) := by decide +kernel
theorem dX5_narrowThrough_54 : decode cX5_narrowThrough 54 = .ok (.if_icmp .eq 21, 3) := by decide +kernel
theorem dX5_narrowThrough_57 : decode cX5_narrowThrough 57 = .ok (.iload 5, 2) := by decide +kernel
theorem dX5_narrowThrough_59 : decode cX5_narrowThrough 59 = .ok (.ldc 40, 2) := by decide +kernel
theorem dX5_narrowThrough_61 : decode cX5_narrowThrough 61 = .ok (.if_icmp .eq 14, 3) := by decide +kernel
theorem dX5_narrowThrough_64 : decode cX5_narrowThrough 64 = .ok (.aload_n 0, 1) := by decide +kernel
theorem dX5_narrowThrough_65 : decode cX5_narrowThrough 65 = .ok (.iload_n 2, 1) := by decide +kernel
theorem dX5_narrowThrough_66 : decode cX5_narrowThrough 66 = .ok (.iload_n 3, 1) := by decide +kernel
theorem dX5_narrowThrough_67 : decode cX5_narrowThrough 67 = .ok (.iload 4, 2) := by decide +kernel
theorem dX5_narrowThrough_69 : decode cX5_narrowThrough 69 = .ok (.iload 5, 2) := by decide +kernel
theorem dX5_narrowThrough_71 : decode cX5_narrowThrough 71 = .ok (.iadd, 1) := by decide +kernel
theorem dX5_narrowThrough_72 : decode cX5_narrowThrough 72 = .ok (.invokevirtual 66, 3) := by decide +kernel
theorem dX5_narrowThrough_75 : decode cX5_narrowThrough 75 = .ok (.iinc 3 1, 3) := by decide +kernel
theorem dX5_narrowThrough_78 : decode cX5_narrowThrough 78 = .ok (.goto (-63), 3) := by decide +kernel
theorem dX5_narrowThrough_81 : decode cX5_narrowThrough 81 = .ok (.iinc 2 1, 3) := by decide +kernel
theorem dX5_narrowThrough_84 : decode cX5_narrowThrough 84 = .ok (.goto (-82), 3) := by decide +kernel
theorem dX5_narrowThrough_87 : decode cX5_narrowThrough 87 = .ok (.return_, 1) := by decide +kernel
set_option maxRecDepth 20000 in
theorem ggX5_ringsClose_X5_cell : GoodIn wsX5_ringsClose wsX5_cell := goodIn_r _ [7] (by decide +kernel) (by decide +kernel)
set_option maxRecDepth 20000 in
theorem gX5_ringsClose_X5_cell : GoodIn wsX5_ringsClose (va_wsS RX5 36 yX5_cell wsX5_cell) := goodIn_app (goodIn_of _ (by decide +kernel)) ggX5_ringsClose_X5_cell
theorem dX5_ringsClose_0 : decode cX5_ringsClose 0 = .ok (.iconst 0, 1) := by decide +kernel
theorem dX5_ringsClose_1 : decode cX5_ringsClose 1 = .ok (.istore_n 1, 1) := by decide +kernel
theorem dX5_ringsClose_2 : decode cX5_ringsClose 2 = .ok (.iload_n 1, 1) := by decide +kernel
theorem dX5_ringsClose_3 : decode cX5_ringsClose 3 = .ok (.aload_n 0, 1) := by decide +kernel
theorem dX5_ringsClose_4 : decode cX5_ringsClose 4 = .ok (.getfield 15, 3) := by decide +kernel
theorem dX5_ringsClose_7 : decode cX5_ringsClose 7 = .ok (.getfield 22, 3) := by decide +kernel
theorem dX5_ringsClose_10 : decode cX5_ringsClose 10 = .ok (.if_icmp .ge 24, 3) := by decide +kernel
theorem dX5_ringsClose_13 : decode cX5_ringsClose 13 = .ok (.aload_n 0, 1) := by decide +kernel
theorem dX5_ringsClose_14 : decode cX5_ringsClose 14 = .ok (.getfield 9, 3) := by decide +kernel
theorem dX5_ringsClose_17 : decode cX5_ringsClose 17 = .ok (.iload_n 1, 1) := by decide +kernel
theorem dX5_ringsClose_18 : decode cX5_ringsClose 18 = .ok (.iload_n 1, 1) := by decide +kernel
theorem dX5_ringsClose_19 : decode cX5_ringsClose 19 = .ok (.invokestatic 36, 3) := by decide +kernel
theorem dX5_ringsClose_22 : decode cX5_ringsClose 22 = .ok (.iaload, 1) := by decide +kernel
theorem dX5_ringsClose_23 : decode cX5_ringsClose 23 = .ok (.ifCond .ge 5, 3) := by decide +kernel
theorem dX5_ringsClose_26 : decode cX5_ringsClose 26 = .ok (.iconst 0, 1) := by decide +kernel
theorem dX5_ringsClose_27 : decode cX5_ringsClose 27 = .ok (.ireturn, 1) := by decide +kernel
theorem dX5_ringsClose_28 : decode cX5_ringsClose 28 = .ok (.iinc 1 1, 3) := by decide +kernel
theorem dX5_ringsClose_31 : decode cX5_ringsClose 31 = .ok (.goto (-29), 3) := by decide +kernel
theorem dX5_ringsClose_34 : decode cX5_ringsClose 34 = .ok (.iconst 1, 1) := by decide +kernel
theorem dX5_ringsClose_35 : decode cX5_ringsClose 35 = .ok (.ireturn, 1) := by decide +kernel
set_option maxRecDepth 20000 in
theorem ggX6_init_X2_init : GoodIn wsX6_init wsX2_init := goodIn_r _ [31, 32, 2, 3, 33, 34, 35, 36, 26, 37, 38, 39, 40, 41, 42, 43, 44, 45, 46, 47, 48, 49, 50, 51, 6, 52, 53, 54, 55, 56, 57, 58, 59, 60, 61, 62, 63, 64, 65, 66, 67, 68, 69, 70, 71, 142, 143, 144, 145, 146, 147, 110, 111, 112, 113] (by decide +kernel) (by decide +kernel)
set_option maxRecDepth 20000 in
theorem gX6_init_X2_init : GoodIn wsX6_init (wsX2_init) := ggX6_init_X2_init
set_option maxRecDepth 20000 in
theorem ggX6_init_X0_init : GoodIn wsX6_init wsX0_init := goodIn_r _ [74, 75, 2, 3, 26, 76, 77, 78, 79, 80, 81, 82, 83, 84, 122, 123, 124, 125, 126, 127, 128, 129, 110, 111, 112, 113] (by decide +kernel) (by decide +kernel)
set_option maxRecDepth 20000 in
theorem gX6_init_X0_init : GoodIn wsX6_init (wsX0_init) := ggX6_init_X0_init
set_option maxRecDepth 20000 in
theorem ggX6_init_X4_init : GoodIn wsX6_init wsX4_init := goodIn_r _ [87, 88, 2, 3, 26, 89, 90, 91, 92, 130, 131, 132, 122, 123, 124, 125, 126, 127, 128, 129] (by decide +kernel) (by decide +kernel)
set_option maxRecDepth 20000 in
theorem gX6_init_X4_init : GoodIn wsX6_init (wsX4_init) := ggX6_init_X4_init
set_option maxRecDepth 20000 in
theorem ggX6_init_X5_init : GoodIn wsX6_init wsX5_init := goodIn_r _ [95, 96, 2, 3, 26, 97, 98, 133, 134] (by decide +kernel) (by decide +kernel)
set_option maxRecDepth 20000 in
theorem gX6_init_X5_init : GoodIn wsX6_init (wsX5_init) := ggX6_init_X5_init
set_option maxRecDepth 20000 in
theorem ggX6_init_X3_init : GoodIn wsX6_init wsX3_init := goodIn_r _ [100, 101, 2, 3, 102, 34, 35, 103, 104, 105, 106, 107, 108, 109, 40, 41, 42, 26, 43, 44, 45, 46, 47, 48, 142, 143, 144, 145, 146, 147, 135, 136, 137, 138, 139, 140, 141] (by decide +kernel) (by decide +kernel)
set_option maxRecDepth 20000 in
theorem gX6_init_X3_init_n50 : GoodIn wsX6_init (wsX3_init) := ggX6_init_X3_init
theorem dX6_init_0 : decode cX6_init 0 = .ok (.aload_n 0, 1) := by decide +kernel
theorem dX6_init_1 : decode cX6_init 1 = .ok (.invokespecial 1, 3) := by decide +kernel
theorem dX6_init_4 : decode cX6_init 4 = .ok (.aload_n 0, 1) := by decide +kernel
theorem dX6_init_5 : decode cX6_init 5 = .ok (.new 7, 3) := by decide +kernel
theorem dX6_init_8 : decode cX6_init 8 = .ok (.dup, 1) := by decide +kernel
theorem dX6_init_9 : decode cX6_init 9 = .ok (.iconst 2, 1) := by decide +kernel
theorem dX6_init_10 : decode cX6_init 10 = .ok (.invokespecial 11, 3) := by decide +kernel
theorem dX6_init_13 : decode cX6_init 13 = .ok (.putfield 14, 3) := by decide +kernel
theorem dX6_init_16 : decode cX6_init 16 = .ok (.aload_n 0, 1) := by decide +kernel
theorem dX6_init_17 : decode cX6_init 17 = .ok (.aload_n 0, 1) := by decide +kernel
theorem dX6_init_18 : decode cX6_init 18 = .ok (.getfield 14, 3) := by decide +kernel
theorem dX6_init_21 : decode cX6_init 21 = .ok (.getfield 18, 3) := by decide +kernel
theorem dX6_init_24 : decode cX6_init 24 = .ok (.putfield 22, 3) := by decide +kernel
theorem dX6_init_27 : decode cX6_init 27 = .ok (.aload_n 0, 1) := by decide +kernel
theorem dX6_init_28 : decode cX6_init 28 = .ok (.new 23, 3) := by decide +kernel
theorem dX6_init_31 : decode cX6_init 31 = .ok (.dup, 1) := by decide +kernel
theorem dX6_init_32 : decode cX6_init 32 = .ok (.aload_n 0, 1) := by decide +kernel
theorem dX6_init_33 : decode cX6_init 33 = .ok (.getfield 14, 3) := by decide +kernel
theorem dX6_init_36 : decode cX6_init 36 = .ok (.invokespecial 25, 3) := by decide +kernel
theorem dX6_init_39 : decode cX6_init 39 = .ok (.putfield 28, 3) := by decide +kernel
theorem dX6_init_42 : decode cX6_init 42 = .ok (.aload_n 0, 1) := by decide +kernel
theorem dX6_init_43 : decode cX6_init 43 = .ok (.new 32, 3) := by decide +kernel
theorem dX6_init_46 : decode cX6_init 46 = .ok (.dup, 1) := by decide +kernel
theorem dX6_init_47 : decode cX6_init 47 = .ok (.aload_n 0, 1) := by decide +kernel
theorem dX6_init_48 : decode cX6_init 48 = .ok (.getfield 28, 3) := by decide +kernel
theorem dX6_init_51 : decode cX6_init 51 = .ok (.invokespecial 34, 3) := by decide +kernel
theorem dX6_init_54 : decode cX6_init 54 = .ok (.putfield 37, 3) := by decide +kernel
theorem dX6_init_57 : decode cX6_init 57 = .ok (.aload_n 0, 1) := by decide +kernel
theorem dX6_init_58 : decode cX6_init 58 = .ok (.new 41, 3) := by decide +kernel
theorem dX6_init_61 : decode cX6_init 61 = .ok (.dup, 1) := by decide +kernel
theorem dX6_init_62 : decode cX6_init 62 = .ok (.aload_n 0, 1) := by decide +kernel
theorem dX6_init_63 : decode cX6_init 63 = .ok (.getfield 14, 3) := by decide +kernel
theorem dX6_init_66 : decode cX6_init 66 = .ok (.invokespecial 43, 3) := by decide +kernel
theorem dX6_init_69 : decode cX6_init 69 = .ok (.putfield 44, 3) := by decide +kernel
theorem dX6_init_72 : decode cX6_init 72 = .ok (.aload_n 0, 1) := by decide +kernel
theorem dX6_init_73 : decode cX6_init 73 = .ok (.new 48, 3) := by decide +kernel
theorem dX6_init_76 : decode cX6_init 76 = .ok (.dup, 1) := by decide +kernel
theorem dX6_init_77 : decode cX6_init 77 = .ok (.invokespecial 50, 3) := by decide +kernel
theorem dX6_init_80 : decode cX6_init 80 = .ok (.putfield 51, 3) := by decide +kernel
theorem dX6_init_83 : decode cX6_init 83 = .ok (.aload_n 0, 1) := by decide +kernel
theorem dX6_init_84 : decode cX6_init 84 = .ok (.bipush 60, 2) := by decide +kernel
theorem dX6_init_86 : decode cX6_init 86 = .ok (.newarray .int, 2) := by decide +kernel
theorem dX6_init_88 : decode cX6_init 88 = .ok (.putfield 55, 3) := by decide +kernel
theorem dX6_init_91 : decode cX6_init 91 = .ok (.aload_n 0, 1) := by decide +kernel
theorem dX6_init_92 : decode cX6_init 92 = .ok (.iconst 0, 1) := by decide +kernel
theorem dX6_init_93 : decode cX6_init 93 = .ok (.putfield 59, 3) := by decide +kernel
theorem dX6_init_96 : decode cX6_init 96 = .ok (.return_, 1) := by decide +kernel
set_option maxRecDepth 20000 in
theorem ggX6_setFaces_X2_begin : GoodIn wsX6_setFaces wsX2_begin := goodIn_r _ [10, 11, 12, 13, 14, 15, 16, 9, 17, 18, 19, 20, 21, 22, 23, 24, 25, 26, 27, 28, 29, 30, 31, 32, 47, 48, 49, 50, 41, 42, 43, 44, 45, 46] (by decide +kernel) (by decide +kernel)
set_option maxRecDepth 20000 in
theorem gX6_setFaces_X2_begin : GoodIn wsX6_setFaces (wsV RX6 75 RX2 yX2_begin wsX2_begin) := goodIn_app (goodIn_of _ (by decide +kernel)) ggX6_setFaces_X2_begin
theorem dX6_setFaces_0 : decode cX6_setFaces 0 = .ok (.iload_n 1, 1) := by decide +kernel
theorem dX6_setFaces_1 : decode cX6_setFaces 1 = .ok (.iconst 2, 1) := by decide +kernel
theorem dX6_setFaces_2 : decode cX6_setFaces 2 = .ok (.if_icmp .lt 9, 3) := by decide +kernel
theorem dX6_setFaces_5 : decode cX6_setFaces 5 = .ok (.iload_n 1, 1) := by decide +kernel
theorem dX6_setFaces_6 : decode cX6_setFaces 6 = .ok (.bipush 12, 2) := by decide +kernel
theorem dX6_setFaces_8 : decode cX6_setFaces 8 = .ok (.if_icmp .le 13, 3) := by decide +kernel
theorem dX6_setFaces_11 : decode cX6_setFaces 11 = .ok (.new 63, 3) := by decide +kernel
theorem dX6_setFaces_14 : decode cX6_setFaces 14 = .ok (.dup, 1) := by decide +kernel
theorem dX6_setFaces_15 : decode cX6_setFaces 15 = .ok (.ldc 65, 2) := by decide +kernel
theorem dX6_setFaces_17 : decode cX6_setFaces 17 = .ok (.invokespecial 67, 3) := by decide +kernel
theorem dX6_setFaces_20 : decode cX6_setFaces 20 = .ok (.athrow, 1) := by decide +kernel
theorem dX6_setFaces_21 : decode cX6_setFaces 21 = .ok (.aload_n 0, 1) := by decide +kernel
theorem dX6_setFaces_22 : decode cX6_setFaces 22 = .ok (.getfield 22, 3) := by decide +kernel
theorem dX6_setFaces_25 : decode cX6_setFaces 25 = .ok (.getfield 70, 3) := by decide +kernel
theorem dX6_setFaces_28 : decode cX6_setFaces 28 = .ok (.istore_n 2, 1) := by decide +kernel
theorem dX6_setFaces_29 : decode cX6_setFaces 29 = .ok (.aload_n 0, 1) := by decide +kernel
theorem dX6_setFaces_30 : decode cX6_setFaces 30 = .ok (.getfield 14, 3) := by decide +kernel
theorem dX6_setFaces_33 : decode cX6_setFaces 33 = .ok (.iload_n 1, 1) := by decide +kernel
theorem dX6_setFaces_34 : decode cX6_setFaces 34 = .ok (.invokevirtual 75, 3) := by decide +kernel
theorem dX6_setFaces_37 : decode cX6_setFaces 37 = .ok (.iload_n 2, 1) := by decide +kernel
theorem dX6_setFaces_38 : decode cX6_setFaces 38 = .ok (.ireturn, 1) := by decide +kernel
set_option maxRecDepth 20000 in
theorem ggX6_addDimension_X6_needFaces : GoodIn wsX6_addDimension wsX6_needFaces := goodIn_ca (goodIn_r _ [12, 13, 14, 15, 11, 16, 17, 18, 7, 19, 61, 62, 63, 64, 65, 66, 67, 68, 75, 76, 77, 78] (by decide +kernel) (by decide +kernel)) (goodIn_sub (fun _ h => List.mem_cons_of_mem _ (List.mem_append_right _ h)) (by decide +kernel))
set_option maxRecDepth 20000 in
theorem gX6_addDimension_X6_needFaces : GoodIn wsX6_addDimension (wsV RX6 78 RX6 yX6_needFaces wsX6_needFaces) := goodIn_app (goodIn_of _ (by decide +kernel)) ggX6_addDimension_X6_needFaces
set_option maxRecDepth 20000 in
theorem ggX6_addDimension_X6_isNominal : GoodIn wsX6_addDimension wsX6_isNominal := goodIn_r _ [22, 23, 24] (by decide +kernel) (by decide +kernel)
set_option maxRecDepth 20000 in
theorem gX6_addDimension_X6_isNominal : GoodIn wsX6_addDimension (va_wsS RX6 82 yX6_isNominal wsX6_isNominal) := goodIn_app (goodIn_of _ (by decide +kernel)) ggX6_addDimension_X6_isNominal
set_option maxRecDepth 20000 in
theorem ggX6_addDimension_X6_areDeviations : GoodIn wsX6_addDimension wsX6_areDeviations := goodIn_r _ [27] (by decide +kernel) (by decide +kernel)
set_option maxRecDepth 20000 in
theorem gX6_addDimension_X6_areDeviations : GoodIn wsX6_addDimension (va_wsS RX6 86 yX6_areDeviations wsX6_areDeviations) := goodIn_app (goodIn_of _ (by decide +kernel)) ggX6_addDimension_X6_areDeviations
set_option maxRecDepth 20000 in
theorem ggX6_addDimension_X1_put : GoodIn wsX6_addDimension wsX1_put := goodIn_r _ [32, 33, 34, 35, 36, 37, 69, 70, 71, 72, 73, 74] (by decide +kernel) (by decide +kernel)
set_option maxRecDepth 20000 in
theorem gX6_addDimension_X1_put : GoodIn wsX6_addDimension (wsV RX6 97 RX1 yX1_put wsX1_put) := goodIn_app (goodIn_of _ (by decide +kernel)) ggX6_addDimension_X1_put
set_option maxRecDepth 20000 in
theorem ggX6_addDimension_X2_findParts : GoodIn wsX6_addDimension wsX2_findParts := goodIn_r _ [42, 43, 44, 45, 46, 47, 48, 49, 50, 51, 52, 53, 54, 55, 56, 57, 58, 59, 41, 60, 75, 76, 77, 78, 69, 70, 71, 72, 73, 74] (by decide +kernel) (by decide +kernel)
set_option maxRecDepth 20000 in
theorem gX6_addDimension_X2_findParts : GoodIn wsX6_addDimension (wsV RX6 101 RX2 yX2_findParts wsX2_findParts) := goodIn_app (goodIn_of _ (by decide +kernel)) ggX6_addDimension_X2_findParts
theorem dX6_addDimension_0 : decode cX6_addDimension 0 = .ok (.aload_n 0, 1) := by decide +kernel
theorem dX6_addDimension_1 : decode cX6_addDimension 1 = .ok (.iload_n 1, 1) := by decide +kernel
theorem dX6_addDimension_2 : decode cX6_addDimension 2 = .ok (.iload_n 2, 1) := by decide +kernel
theorem dX6_addDimension_3 : decode cX6_addDimension 3 = .ok (.invokevirtual 78, 3) := by decide +kernel
theorem dX6_addDimension_6 : decode cX6_addDimension 6 = .ok (.iload_n 1, 1) := by decide +kernel
theorem dX6_addDimension_7 : decode cX6_addDimension 7 = .ok (.iload_n 2, 1) := by decide +kernel
theorem dX6_addDimension_8 : decode cX6_addDimension 8 = .ok (.if_icmp .eq 20, 3) := by decide +kernel
theorem dX6_addDimension_11 : decode cX6_addDimension 11 = .ok (.iload_n 3, 1) := by decide +kernel
theorem dX6_addDimension_12 : decode cX6_addDimension 12 = .ok (.invokestatic 82, 3) := by decide +kernel
theorem dX6_addDimension_15 : decode cX6_addDimension 15 = .ok (.ifCond .eq 13, 3) := by decide +kernel
theorem dX6_addDimension_18 : decode cX6_addDimension 18 = .ok (.iload 4, 2) := by decide +kernel
theorem dX6_addDimension_20 : decode cX6_addDimension 20 = .ok (.iload 5, 2) := by decide +kernel
theorem dX6_addDimension_22 : decode cX6_addDimension 22 = .ok (.invokestatic 86, 3) := by decide +kernel
theorem dX6_addDimension_25 : decode cX6_addDimension 25 = .ok (.ifCond .ne 13, 3) := by decide +kernel
theorem dX6_addDimension_28 : decode cX6_addDimension 28 = .ok (.new 63, 3) := by decide +kernel
theorem dX6_addDimension_31 : decode cX6_addDimension 31 = .ok (.dup, 1) := by decide +kernel
theorem dX6_addDimension_32 : decode cX6_addDimension 32 = .ok (.ldc 90, 2) := by decide +kernel
theorem dX6_addDimension_34 : decode cX6_addDimension 34 = .ok (.invokespecial 67, 3) := by decide +kernel
theorem dX6_addDimension_37 : decode cX6_addDimension 37 = .ok (.athrow, 1) := by decide +kernel
theorem dX6_addDimension_38 : decode cX6_addDimension 38 = .ok (.aload_n 0, 1) := by decide +kernel
theorem dX6_addDimension_39 : decode cX6_addDimension 39 = .ok (.getfield 22, 3) := by decide +kernel
theorem dX6_addDimension_42 : decode cX6_addDimension 42 = .ok (.getfield 70, 3) := by decide +kernel
theorem dX6_addDimension_45 : decode cX6_addDimension 45 = .ok (.bipush 20, 2) := by decide +kernel
theorem dX6_addDimension_47 : decode cX6_addDimension 47 = .ok (.if_icmp .lt 13, 3) := by decide +kernel
theorem dX6_addDimension_50 : decode cX6_addDimension 50 = .ok (.new 92, 3) := by decide +kernel
theorem dX6_addDimension_53 : decode cX6_addDimension 53 = .ok (.dup, 1) := by decide +kernel
theorem dX6_addDimension_54 : decode cX6_addDimension 54 = .ok (.ldc 94, 2) := by decide +kernel
theorem dX6_addDimension_56 : decode cX6_addDimension 56 = .ok (.invokespecial 96, 3) := by decide +kernel
theorem dX6_addDimension_59 : decode cX6_addDimension 59 = .ok (.athrow, 1) := by decide +kernel
theorem dX6_addDimension_60 : decode cX6_addDimension 60 = .ok (.aload_n 0, 1) := by decide +kernel
theorem dX6_addDimension_61 : decode cX6_addDimension 61 = .ok (.getfield 22, 3) := by decide +kernel
theorem dX6_addDimension_64 : decode cX6_addDimension 64 = .ok (.getfield 70, 3) := by decide +kernel
theorem dX6_addDimension_67 : decode cX6_addDimension 67 = .ok (.istore 6, 2) := by decide +kernel
theorem dX6_addDimension_69 : decode cX6_addDimension 69 = .ok (.aload_n 0, 1) := by decide +kernel
theorem dX6_addDimension_70 : decode cX6_addDimension 70 = .ok (.getfield 22, 3) := by decide +kernel
theorem dX6_addDimension_73 : decode cX6_addDimension 73 = .ok (.iload 6, 2) := by decide +kernel
theorem dX6_addDimension_75 : decode cX6_addDimension 75 = .ok (.iconst 1, 1) := by decide +kernel
theorem dX6_addDimension_76 : decode cX6_addDimension 76 = .ok (.iadd, 1) := by decide +kernel
theorem dX6_addDimension_77 : decode cX6_addDimension 77 = .ok (.putfield 70, 3) := by decide +kernel
theorem dX6_addDimension_80 : decode cX6_addDimension 80 = .ok (.aload_n 0, 1) := by decide +kernel
theorem dX6_addDimension_81 : decode cX6_addDimension 81 = .ok (.getfield 22, 3) := by decide +kernel
theorem dX6_addDimension_84 : decode cX6_addDimension 84 = .ok (.iload 6, 2) := by decide +kernel
theorem dX6_addDimension_86 : decode cX6_addDimension 86 = .ok (.iload_n 1, 1) := by decide +kernel
theorem dX6_addDimension_87 : decode cX6_addDimension 87 = .ok (.iload_n 2, 1) := by decide +kernel
theorem dX6_addDimension_88 : decode cX6_addDimension 88 = .ok (.iload_n 3, 1) := by decide +kernel
theorem dX6_addDimension_89 : decode cX6_addDimension 89 = .ok (.iload 4, 2) := by decide +kernel
theorem dX6_addDimension_91 : decode cX6_addDimension 91 = .ok (.iload 5, 2) := by decide +kernel
theorem dX6_addDimension_93 : decode cX6_addDimension 93 = .ok (.invokevirtual 97, 3) := by decide +kernel
theorem dX6_addDimension_96 : decode cX6_addDimension 96 = .ok (.aload_n 0, 1) := by decide +kernel
theorem dX6_addDimension_97 : decode cX6_addDimension 97 = .ok (.getfield 14, 3) := by decide +kernel
theorem dX6_addDimension_100 : decode cX6_addDimension 100 = .ok (.invokevirtual 101, 3) := by decide +kernel
theorem dX6_addDimension_103 : decode cX6_addDimension 103 = .ok (.iload 6, 2) := by decide +kernel
theorem dX6_addDimension_105 : decode cX6_addDimension 105 = .ok (.ireturn, 1) := by decide +kernel
set_option maxRecDepth 20000 in
theorem ggX6_removeDimension_X6_needDimension : GoodIn wsX6_removeDimension wsX6_needDimension := goodIn_ca (goodIn_r _ [8, 9, 10, 1, 3, 53, 54, 55, 56, 57, 58, 59, 60, 61, 62, 63, 64, 65, 66] (by decide +kernel) (by decide +kernel)) (goodIn_sub (fun _ h => List.mem_cons_of_mem _ (List.mem_append_right _ h)) (by decide +kernel))
set_option maxRecDepth 20000 in
theorem gX6_removeDimension_X6_needDimension : GoodIn wsX6_removeDimension (wsV RX6 104 RX6 yX6_needDimension wsX6_needDimension) := goodIn_app (goodIn_of _ (by decide +kernel)) ggX6_removeDimension_X6_needDimension
set_option maxRecDepth 20000 in
theorem ggX6_removeDimension_X1_removeAt : GoodIn wsX6_removeDimension wsX1_removeAt := goodIn_r _ [15, 16, 17, 18, 19, 14, 20, 21, 22, 23, 24, 25, 26, 27, 28, 29, 61, 62, 63, 64, 65, 66] (by decide +kernel) (by decide +kernel)
set_option maxRecDepth 20000 in
theorem gX6_removeDimension_X1_removeAt : GoodIn wsX6_removeDimension (wsV RX6 107 RX1 yX1_removeAt wsX1_removeAt) := goodIn_app (goodIn_of _ (by decide +kernel)) ggX6_removeDimension_X1_removeAt
set_option maxRecDepth 20000 in
theorem ggX6_removeDimension_X2_findParts : GoodIn wsX6_removeDimension wsX2_findParts := goodIn_r _ [34, 35, 36, 37, 38, 39, 40, 41, 42, 43, 44, 45, 46, 47, 48, 49, 50, 51, 33, 52, 67, 68, 69, 70, 61, 62, 63, 64, 65, 66] (by decide +kernel) (by decide +kernel)
set_option maxRecDepth 20000 in
theorem gX6_removeDimension_X2_findParts : GoodIn wsX6_removeDimension (wsV RX6 101 RX2 yX2_findParts wsX2_findParts) := goodIn_app (goodIn_of _ (by decide +kernel)) ggX6_removeDimension_X2_findParts
theorem dX6_removeDimension_0 : decode cX6_removeDimension 0 = .ok (.aload_n 0, 1) := by decide +kernel
theorem dX6_removeDimension_1 : decode cX6_removeDimension 1 = .ok (.iload_n 1, 1) := by decide +kernel
theorem dX6_removeDimension_2 : decode cX6_removeDimension 2 = .ok (.invokevirtual 104, 3) := by decide +kernel
theorem dX6_removeDimension_5 : decode cX6_removeDimension 5 = .ok (.aload_n 0, 1) := by decide +kernel
theorem dX6_removeDimension_6 : decode cX6_removeDimension 6 = .ok (.getfield 22, 3) := by decide +kernel
theorem dX6_removeDimension_9 : decode cX6_removeDimension 9 = .ok (.iload_n 1, 1) := by decide +kernel
theorem dX6_removeDimension_10 : decode cX6_removeDimension 10 = .ok (.invokevirtual 107, 3) := by decide +kernel
theorem dX6_removeDimension_13 : decode cX6_removeDimension 13 = .ok (.aload_n 0, 1) := by decide +kernel
theorem dX6_removeDimension_14 : decode cX6_removeDimension 14 = .ok (.getfield 14, 3) := by decide +kernel
theorem dX6_removeDimension_17 : decode cX6_removeDimension 17 = .ok (.invokevirtual 101, 3) := by decide +kernel
theorem dX6_removeDimension_20 : decode cX6_removeDimension 20 = .ok (.aload_n 0, 1) := by decide +kernel
theorem dX6_removeDimension_21 : decode cX6_removeDimension 21 = .ok (.getfield 22, 3) := by decide +kernel
theorem dX6_removeDimension_24 : decode cX6_removeDimension 24 = .ok (.getfield 70, 3) := by decide +kernel
theorem dX6_removeDimension_27 : decode cX6_removeDimension 27 = .ok (.ireturn, 1) := by decide +kernel
set_option maxRecDepth 20000 in
theorem ggX6_setDeviations_X6_needDimension : GoodIn wsX6_setDeviations wsX6_needDimension := goodIn_ca (goodIn_r _ [10, 11, 12, 3, 13, 24, 25, 26, 27, 28, 29, 30, 31, 32, 33, 34, 35, 36, 37] (by decide +kernel) (by decide +kernel)) (goodIn_sub (fun _ h => List.mem_cons_of_mem _ (List.mem_append_right _ h)) (by decide +kernel))
set_option maxRecDepth 20000 in
theorem gX6_setDeviations_X6_needDimension : GoodIn wsX6_setDeviations (wsV RX6 104 RX6 yX6_needDimension wsX6_needDimension) := goodIn_app (goodIn_of _ (by decide +kernel)) ggX6_setDeviations_X6_needDimension
set_option maxRecDepth 20000 in
theorem ggX6_setDeviations_X6_areDeviations : GoodIn wsX6_setDeviations wsX6_areDeviations := goodIn_r _ [16] (by decide +kernel) (by decide +kernel)
set_option maxRecDepth 20000 in
theorem gX6_setDeviations_X6_areDeviations : GoodIn wsX6_setDeviations (va_wsS RX6 86 yX6_areDeviations wsX6_areDeviations) := goodIn_app (goodIn_of _ (by decide +kernel)) ggX6_setDeviations_X6_areDeviations
set_option maxRecDepth 20000 in
theorem ggX6_setDeviations_X1_width : GoodIn wsX6_setDeviations wsX1_width := goodIn_r _ [21, 22, 23, 32, 33, 34, 35, 36, 37] (by decide +kernel) (by decide +kernel)
set_option maxRecDepth 20000 in
theorem gX6_setDeviations_X1_width : GoodIn wsX6_setDeviations (wsV RX6 112 RX1 yX1_width wsX1_width) := goodIn_app (goodIn_of _ (by decide +kernel)) ggX6_setDeviations_X1_width
theorem dX6_setDeviations_0 : decode cX6_setDeviations 0 = .ok (.aload_n 0, 1) := by decide +kernel
theorem dX6_setDeviations_1 : decode cX6_setDeviations 1 = .ok (.iload_n 1, 1) := by decide +kernel
theorem dX6_setDeviations_2 : decode cX6_setDeviations 2 = .ok (.invokevirtual 104, 3) := by decide +kernel
theorem dX6_setDeviations_5 : decode cX6_setDeviations 5 = .ok (.iload_n 2, 1) := by decide +kernel
theorem dX6_setDeviations_6 : decode cX6_setDeviations 6 = .ok (.iload_n 3, 1) := by decide +kernel
theorem dX6_setDeviations_7 : decode cX6_setDeviations 7 = .ok (.invokestatic 86, 3) := by decide +kernel
theorem dX6_setDeviations_10 : decode cX6_setDeviations 10 = .ok (.ifCond .ne 13, 3) := by decide +kernel
theorem dX6_setDeviations_13 : decode cX6_setDeviations 13 = .ok (.new 63, 3) := by decide +kernel
theorem dX6_setDeviations_16 : decode cX6_setDeviations 16 = .ok (.dup, 1) := by decide +kernel
theorem dX6_setDeviations_17 : decode cX6_setDeviations 17 = .ok (.ldc 110, 2) := by decide +kernel
theorem dX6_setDeviations_19 : decode cX6_setDeviations 19 = .ok (.invokespecial 67, 3) := by decide +kernel
theorem dX6_setDeviations_22 : decode cX6_setDeviations 22 = .ok (.athrow, 1) := by decide +kernel
theorem dX6_setDeviations_23 : decode cX6_setDeviations 23 = .ok (.aload_n 0, 1) := by decide +kernel
theorem dX6_setDeviations_24 : decode cX6_setDeviations 24 = .ok (.getfield 22, 3) := by decide +kernel
theorem dX6_setDeviations_27 : decode cX6_setDeviations 27 = .ok (.iload_n 1, 1) := by decide +kernel
theorem dX6_setDeviations_28 : decode cX6_setDeviations 28 = .ok (.invokevirtual 112, 3) := by decide +kernel
theorem dX6_setDeviations_31 : decode cX6_setDeviations 31 = .ok (.istore 4, 2) := by decide +kernel
theorem dX6_setDeviations_33 : decode cX6_setDeviations 33 = .ok (.aload_n 0, 1) := by decide +kernel
theorem dX6_setDeviations_34 : decode cX6_setDeviations 34 = .ok (.getfield 22, 3) := by decide +kernel
theorem dX6_setDeviations_37 : decode cX6_setDeviations 37 = .ok (.getfield 116, 3) := by decide +kernel
theorem dX6_setDeviations_40 : decode cX6_setDeviations 40 = .ok (.iload_n 1, 1) := by decide +kernel
theorem dX6_setDeviations_41 : decode cX6_setDeviations 41 = .ok (.iload_n 2, 1) := by decide +kernel
theorem dX6_setDeviations_42 : decode cX6_setDeviations 42 = .ok (.iastore, 1) := by decide +kernel
theorem dX6_setDeviations_43 : decode cX6_setDeviations 43 = .ok (.aload_n 0, 1) := by decide +kernel
theorem dX6_setDeviations_44 : decode cX6_setDeviations 44 = .ok (.getfield 22, 3) := by decide +kernel
theorem dX6_setDeviations_47 : decode cX6_setDeviations 47 = .ok (.getfield 119, 3) := by decide +kernel
theorem dX6_setDeviations_50 : decode cX6_setDeviations 50 = .ok (.iload_n 1, 1) := by decide +kernel
theorem dX6_setDeviations_51 : decode cX6_setDeviations 51 = .ok (.iload_n 3, 1) := by decide +kernel
theorem dX6_setDeviations_52 : decode cX6_setDeviations 52 = .ok (.iastore, 1) := by decide +kernel
