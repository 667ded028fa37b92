theorem dX6_setDeviations_53 : decode cX6_setDeviations 53 = .ok (.iload 4, 2) := by decide +kernel
theorem dX6_setDeviations_55 : decode cX6_setDeviations 55 = .ok (.ireturn, 1) := by decide +kernel
set_option maxRecDepth 20000 in
theorem ggX6_general_X6_applyTolerances : GoodIn wsX6_general wsX6_applyTolerances := goodIn_r _ [11, 12, 13, 14, 15, 16, 17, 18, 10, 19, 20, 21, 22, 23, 24, 25, 26, 27, 28, 29, 30, 31, 32, 33, 34, 35, 36, 37, 38] (by decide +kernel) (by decide +kernel)
set_option maxRecDepth 20000 in
theorem gX6_general_X6_applyTolerances : GoodIn wsX6_general (wsV RX6 125 RX6 yX6_applyTolerances wsX6_applyTolerances) := goodIn_app (goodIn_of _ (by decide +kernel)) ggX6_general_X6_applyTolerances
theorem dX6_general_0 : decode cX6_general 0 = .ok (.iload_n 1, 1) := by decide +kernel
theorem dX6_general_1 : decode cX6_general 1 = .ok (.lookupswitch 75 #[(99, 59), (102, 43), (109, 51), (118, 67)], 43) := by decide +kernel
theorem dX6_general_44 : decode cX6_general 44 = .ok (.aload_n 0, 1) := by decide +kernel
theorem dX6_general_45 : decode cX6_general 45 = .ok (.getstatic 122, 3) := by decide +kernel
theorem dX6_general_48 : decode cX6_general 48 = .ok (.invokevirtual 125, 3) := by decide +kernel
theorem dX6_general_51 : decode cX6_general 51 = .ok (.ireturn, 1) := by decide +kernel
theorem dX6_general_52 : decode cX6_general 52 = .ok (.aload_n 0, 1) := by decide +kernel
theorem dX6_general_53 : decode cX6_general 53 = .ok (.getstatic 129, 3) := by decide +kernel
theorem dX6_general_56 : decode cX6_general 56 = .ok (.invokevirtual 125, 3) := by decide +kernel
theorem dX6_general_59 : decode cX6_general 59 = .ok (.ireturn, 1) := by decide +kernel
theorem dX6_general_60 : decode cX6_general 60 = .ok (.aload_n 0, 1) := by decide +kernel
theorem dX6_general_61 : decode cX6_general 61 = .ok (.getstatic 132, 3) := by decide +kernel
theorem dX6_general_64 : decode cX6_general 64 = .ok (.invokevirtual 125, 3) := by decide +kernel
theorem dX6_general_67 : decode cX6_general 67 = .ok (.ireturn, 1) := by decide +kernel
theorem dX6_general_68 : decode cX6_general 68 = .ok (.aload_n 0, 1) := by decide +kernel
theorem dX6_general_69 : decode cX6_general 69 = .ok (.getstatic 135, 3) := by decide +kernel
theorem dX6_general_72 : decode cX6_general 72 = .ok (.invokevirtual 125, 3) := by decide +kernel
theorem dX6_general_75 : decode cX6_general 75 = .ok (.ireturn, 1) := by decide +kernel
theorem dX6_general_76 : decode cX6_general 76 = .ok (.new 63, 3) := by decide +kernel
theorem dX6_general_79 : decode cX6_general 79 = .ok (.dup, 1) := by decide +kernel
theorem dX6_general_80 : decode cX6_general 80 = .ok (.ldc 138, 2) := by decide +kernel
theorem dX6_general_82 : decode cX6_general 82 = .ok (.invokespecial 67, 3) := by decide +kernel
theorem dX6_general_85 : decode cX6_general 85 = .ok (.athrow, 1) := by decide +kernel
set_option maxRecDepth 20000 in
theorem ggX6_property_X6_needDimension : GoodIn wsX6_property wsX6_needDimension := goodIn_ca (goodIn_r _ [13, 14, 15, 3, 16, 17, 18, 19, 20, 21, 22, 23, 24, 25, 26, 27, 28, 29, 30] (by decide +kernel) (by decide +kernel)) (goodIn_sub (fun _ h => List.mem_cons_of_mem _ (List.mem_append_right _ h)) (by decide +kernel))
set_option maxRecDepth 20000 in
theorem gX6_property_X6_needDimension : GoodIn wsX6_property (wsV RX6 104 RX6 yX6_needDimension wsX6_needDimension) := goodIn_app (goodIn_of _ (by decide +kernel)) ggX6_property_X6_needDimension
theorem dX6_property_0 : decode cX6_property 0 = .ok (.aload_n 0, 1) := by decide +kernel
theorem dX6_property_1 : decode cX6_property 1 = .ok (.iload_n 1, 1) := by decide +kernel
theorem dX6_property_2 : decode cX6_property 2 = .ok (.invokevirtual 104, 3) := by decide +kernel
theorem dX6_property_5 : decode cX6_property 5 = .ok (.iload_n 2, 1) := by decide +kernel
theorem dX6_property_6 : decode cX6_property 6 = .ok (.tableswitch 84 0 4 #[34, 44, 54, 64, 74], 34) := by decide +kernel
theorem dX6_property_40 : decode cX6_property 40 = .ok (.aload_n 0, 1) := by decide +kernel
theorem dX6_property_41 : decode cX6_property 41 = .ok (.getfield 22, 3) := by decide +kernel
theorem dX6_property_44 : decode cX6_property 44 = .ok (.getfield 140, 3) := by decide +kernel
theorem dX6_property_47 : decode cX6_property 47 = .ok (.iload_n 1, 1) := by decide +kernel
theorem dX6_property_48 : decode cX6_property 48 = .ok (.iaload, 1) := by decide +kernel
theorem dX6_property_49 : decode cX6_property 49 = .ok (.ireturn, 1) := by decide +kernel
theorem dX6_property_50 : decode cX6_property 50 = .ok (.aload_n 0, 1) := by decide +kernel
theorem dX6_property_51 : decode cX6_property 51 = .ok (.getfield 22, 3) := by decide +kernel
theorem dX6_property_54 : decode cX6_property 54 = .ok (.getfield 143, 3) := by decide +kernel
theorem dX6_property_57 : decode cX6_property 57 = .ok (.iload_n 1, 1) := by decide +kernel
theorem dX6_property_58 : decode cX6_property 58 = .ok (.iaload, 1) := by decide +kernel
theorem dX6_property_59 : decode cX6_property 59 = .ok (.ireturn, 1) := by decide +kernel
theorem dX6_property_60 : decode cX6_property 60 = .ok (.aload_n 0, 1) := by decide +kernel
theorem dX6_property_61 : decode cX6_property 61 = .ok (.getfield 22, 3) := by decide +kernel
theorem dX6_property_64 : decode cX6_property 64 = .ok (.getfield 146, 3) := by decide +kernel
theorem dX6_property_67 : decode cX6_property 67 = .ok (.iload_n 1, 1) := by decide +kernel
theorem dX6_property_68 : decode cX6_property 68 = .ok (.iaload, 1) := by decide +kernel
theorem dX6_property_69 : decode cX6_property 69 = .ok (.ireturn, 1) := by decide +kernel
theorem dX6_property_70 : decode cX6_property 70 = .ok (.aload_n 0, 1) := by decide +kernel
theorem dX6_property_71 : decode cX6_property 71 = .ok (.getfield 22, 3) := by decide +kernel
theorem dX6_property_74 : decode cX6_property 74 = .ok (.getfield 116, 3) := by decide +kernel
theorem dX6_property_77 : decode cX6_property 77 = .ok (.iload_n 1, 1) := by decide +kernel
theorem dX6_property_78 : decode cX6_property 78 = .ok (.iaload, 1) := by decide +kernel
theorem dX6_property_79 : decode cX6_property 79 = .ok (.ireturn, 1) := by decide +kernel
theorem dX6_property_80 : decode cX6_property 80 = .ok (.aload_n 0, 1) := by decide +kernel
theorem dX6_property_81 : decode cX6_property 81 = .ok (.getfield 22, 3) := by decide +kernel
theorem dX6_property_84 : decode cX6_property 84 = .ok (.getfield 119, 3) := by decide +kernel
theorem dX6_property_87 : decode cX6_property 87 = .ok (.iload_n 1, 1) := by decide +kernel
theorem dX6_property_88 : decode cX6_property 88 = .ok (.iaload, 1) := by decide +kernel
theorem dX6_property_89 : decode cX6_property 89 = .ok (.ireturn, 1) := by decide +kernel
theorem dX6_property_90 : decode cX6_property 90 = .ok (.new 63, 3) := by decide +kernel
theorem dX6_property_93 : decode cX6_property 93 = .ok (.dup, 1) := by decide +kernel
theorem dX6_property_94 : decode cX6_property 94 = .ok (.ldc 149, 2) := by decide +kernel
theorem dX6_property_96 : decode cX6_property 96 = .ok (.invokespecial 67, 3) := by decide +kernel
theorem dX6_property_99 : decode cX6_property 99 = .ok (.athrow, 1) := by decide +kernel
theorem dX6_dimensionCount_0 : decode cX6_dimensionCount 0 = .ok (.aload_n 0, 1) := by decide +kernel
theorem dX6_dimensionCount_1 : decode cX6_dimensionCount 1 = .ok (.getfield 22, 3) := by decide +kernel
theorem dX6_dimensionCount_4 : decode cX6_dimensionCount 4 = .ok (.getfield 70, 3) := by decide +kernel
theorem dX6_dimensionCount_7 : decode cX6_dimensionCount 7 = .ok (.ireturn, 1) := by decide +kernel
theorem dX6_append_0 : decode cX6_append 0 = .ok (.iload_n 1, 1) := by decide +kernel
theorem dX6_append_1 : decode cX6_append 1 = .ok (.bipush 32, 2) := by decide +kernel
theorem dX6_append_3 : decode cX6_append 3 = .ok (.if_icmp .lt 9, 3) := by decide +kernel
theorem dX6_append_6 : decode cX6_append 6 = .ok (.iload_n 1, 1) := by decide +kernel
theorem dX6_append_7 : decode cX6_append 7 = .ok (.bipush 126, 2) := by decide +kernel
theorem dX6_append_9 : decode cX6_append 9 = .ok (.if_icmp .le 13, 3) := by decide +kernel
theorem dX6_append_12 : decode cX6_append 12 = .ok (.new 63, 3) := by decide +kernel
theorem dX6_append_15 : decode cX6_append 15 = .ok (.dup, 1) := by decide +kernel
theorem dX6_append_16 : decode cX6_append 16 = .ok (.ldc 151, 2) := by decide +kernel
theorem dX6_append_18 : decode cX6_append 18 = .ok (.invokespecial 67, 3) := by decide +kernel
theorem dX6_append_21 : decode cX6_append 21 = .ok (.athrow, 1) := by decide +kernel
theorem dX6_append_22 : decode cX6_append 22 = .ok (.aload_n 0, 1) := by decide +kernel
theorem dX6_append_23 : decode cX6_append 23 = .ok (.getfield 59, 3) := by decide +kernel
theorem dX6_append_26 : decode cX6_append 26 = .ok (.bipush 60, 2) := by decide +kernel
theorem dX6_append_28 : decode cX6_append 28 = .ok (.if_icmp .lt 13, 3) := by decide +kernel
theorem dX6_append_31 : decode cX6_append 31 = .ok (.new 92, 3) := by decide +kernel
theorem dX6_append_34 : decode cX6_append 34 = .ok (.dup, 1) := by decide +kernel
theorem dX6_append_35 : decode cX6_append 35 = .ok (.ldc 153, 2) := by decide +kernel
theorem dX6_append_37 : decode cX6_append 37 = .ok (.invokespecial 96, 3) := by decide +kernel
theorem dX6_append_40 : decode cX6_append 40 = .ok (.athrow, 1) := by decide +kernel
theorem dX6_append_41 : decode cX6_append 41 = .ok (.aload_n 0, 1) := by decide +kernel
theorem dX6_append_42 : decode cX6_append 42 = .ok (.getfield 55, 3) := by decide +kernel
theorem dX6_append_45 : decode cX6_append 45 = .ok (.aload_n 0, 1) := by decide +kernel
theorem dX6_append_46 : decode cX6_append 46 = .ok (.getfield 59, 3) := by decide +kernel
theorem dX6_append_49 : decode cX6_append 49 = .ok (.iload_n 1, 1) := by decide +kernel
theorem dX6_append_50 : decode cX6_append 50 = .ok (.iastore, 1) := by decide +kernel
theorem dX6_append_51 : decode cX6_append 51 = .ok (.aload_n 0, 1) := by decide +kernel
theorem dX6_append_52 : decode cX6_append 52 = .ok (.dup, 1) := by decide +kernel
theorem dX6_append_53 : decode cX6_append 53 = .ok (.getfield 59, 3) := by decide +kernel
theorem dX6_append_56 : decode cX6_append 56 = .ok (.iconst 1, 1) := by decide +kernel
theorem dX6_append_57 : decode cX6_append 57 = .ok (.iadd, 1) := by decide +kernel
theorem dX6_append_58 : decode cX6_append 58 = .ok (.putfield 59, 3) := by decide +kernel
theorem dX6_append_61 : decode cX6_append 61 = .ok (.aload_n 0, 1) := by decide +kernel
theorem dX6_append_62 : decode cX6_append 62 = .ok (.getfield 59, 3) := by decide +kernel
theorem dX6_append_65 : decode cX6_append 65 = .ok (.ireturn, 1) := by decide +kernel
theorem dX6_clearInput_0 : decode cX6_clearInput 0 = .ok (.aload_n 0, 1) := by decide +kernel
theorem dX6_clearInput_1 : decode cX6_clearInput 1 = .ok (.getfield 59, 3) := by decide +kernel
theorem dX6_clearInput_4 : decode cX6_clearInput 4 = .ok (.istore_n 1, 1) := by decide +kernel
theorem dX6_clearInput_5 : decode cX6_clearInput 5 = .ok (.aload_n 0, 1) := by decide +kernel
theorem dX6_clearInput_6 : decode cX6_clearInput 6 = .ok (.iconst 0, 1) := by decide +kernel
theorem dX6_clearInput_7 : decode cX6_clearInput 7 = .ok (.putfield 59, 3) := by decide +kernel
theorem dX6_clearInput_10 : decode cX6_clearInput 10 = .ok (.iload_n 1, 1) := by decide +kernel
theorem dX6_clearInput_11 : decode cX6_clearInput 11 = .ok (.ireturn, 1) := by decide +kernel
set_option maxRecDepth 20000 in
theorem ggX6_firstError_X3_read : GoodIn wsX6_firstError wsX3_read := goodIn_r _ [10, 11, 12, 13, 14, 15, 16, 17, 9, 18, 19, 20, 21, 22, 23, 24, 25, 26, 27, 28, 29, 30, 31, 32, 33, 34, 35, 36, 37, 38, 39, 40, 41, 42, 43, 44, 45, 46, 47, 48, 49, 50, 51, 52, 53, 54, 55, 56, 57, 58, 59, 60, 61, 62, 63, 64, 65, 66, 67, 68, 69, 70, 71, 72, 73, 74, 75, 76, 77, 78, 79, 80, 81, 82, 83, 84, 85, 86, 87, 88, 89, 102, 103, 104, 105, 106, 107, 108, 109, 110, 111, 112, 113, 114] (by decide +kernel) (by decide +kernel)
set_option maxRecDepth 20000 in
theorem gX6_firstError_X3_read : GoodIn wsX6_firstError (wsV RX6 158 RX3 yX3_read wsX3_read) := goodIn_app (goodIn_of _ (by decide +kernel)) ggX6_firstError_X3_read
theorem dX6_firstError_0 : decode cX6_firstError 0 = .ok (.aload_n 0, 1) := by decide +kernel
theorem dX6_firstError_1 : decode cX6_firstError 1 = .ok (.getfield 51, 3) := by decide +kernel
theorem dX6_firstError_4 : decode cX6_firstError 4 = .ok (.aload_n 0, 1) := by decide +kernel
theorem dX6_firstError_5 : decode cX6_firstError 5 = .ok (.getfield 55, 3) := by decide +kernel
theorem dX6_firstError_8 : decode cX6_firstError 8 = .ok (.aload_n 0, 1) := by decide +kernel
theorem dX6_firstError_9 : decode cX6_firstError 9 = .ok (.getfield 59, 3) := by decide +kernel
theorem dX6_firstError_12 : decode cX6_firstError 12 = .ok (.aload_n 0, 1) := by decide +kernel
theorem dX6_firstError_13 : decode cX6_firstError 13 = .ok (.getfield 14, 3) := by decide +kernel
theorem dX6_firstError_16 : decode cX6_firstError 16 = .ok (.getfield 155, 3) := by decide +kernel
theorem dX6_firstError_19 : decode cX6_firstError 19 = .ok (.invokevirtual 158, 3) := by decide +kernel
theorem dX6_firstError_22 : decode cX6_firstError 22 = .ok (.ireturn, 1) := by decide +kernel
set_option maxRecDepth 20000 in
theorem ggX6_load_X3_read : GoodIn wsX6_load wsX3_read := goodIn_r _ [15, 16, 17, 18, 19, 20, 21, 22, 14, 23, 24, 25, 26, 27, 28, 29, 30, 31, 32, 33, 34, 35, 36, 37, 38, 39, 40, 41, 42, 43, 44, 45, 46, 47, 48, 49, 50, 51, 52, 53, 54, 55, 56, 57, 58, 59, 60, 61, 62, 63, 64, 65, 66, 67, 68, 69, 70, 71, 72, 73, 74, 75, 76, 77, 78, 79, 80, 81, 82, 83, 84, 85, 86, 87, 88, 89, 90, 91, 92, 93, 94, 144, 145, 146, 147, 148, 149, 150, 151, 152, 153, 154, 155, 156] (by decide +kernel) (by decide +kernel)
set_option maxRecDepth 20000 in
theorem gX6_load_X3_read : GoodIn wsX6_load (wsV RX6 158 RX3 yX3_read wsX3_read) := goodIn_app (goodIn_of _ (by decide +kernel)) ggX6_load_X3_read
set_option maxRecDepth 20000 in
theorem ggX6_load_X3_endsList : GoodIn wsX6_load wsX3_endsList := goodIn_r _ [98, 19, 58, 144, 145, 146, 147, 148, 149, 150] (by decide +kernel) (by decide +kernel)
set_option maxRecDepth 20000 in
theorem gX6_load_X3_endsList : GoodIn wsX6_load (wsV RX6 162 RX3 yX3_endsList wsX3_endsList) := goodIn_app (goodIn_of _ (by decide +kernel)) ggX6_load_X3_endsList
set_option maxRecDepth 20000 in
theorem ggX6_load_X1_copyAll : GoodIn wsX6_load wsX1_copyAll := goodIn_r _ [102, 103, 104, 105, 106, 32, 107, 34, 35, 36, 37, 38, 108, 30, 31, 33, 151, 152, 153, 154, 155, 156] (by decide +kernel) (by decide +kernel)
set_option maxRecDepth 20000 in
theorem gX6_load_X1_copyAll : GoodIn wsX6_load (wsV RX6 169 RX1 yX1_copyAll wsX1_copyAll) := goodIn_app (goodIn_of _ (by decide +kernel)) ggX6_load_X1_copyAll
set_option maxRecDepth 20000 in
theorem ggX6_load_X2_findParts : GoodIn wsX6_load wsX2_findParts := goodIn_r _ [113, 114, 115, 116, 117, 118, 119, 120, 121, 122, 123, 124, 125, 126, 127, 128, 129, 130, 112, 131, 140, 141, 142, 143, 151, 152, 153, 154, 155, 156] (by decide +kernel) (by decide +kernel)
set_option maxRecDepth 20000 in
theorem gX6_load_X2_findParts : GoodIn wsX6_load (wsV RX6 101 RX2 yX2_findParts wsX2_findParts) := goodIn_app (goodIn_of _ (by decide +kernel)) ggX6_load_X2_findParts
theorem dX6_load_0 : decode cX6_load 0 = .ok (.aload_n 0, 1) := by decide +kernel
theorem dX6_load_1 : decode cX6_load 1 = .ok (.getfield 51, 3) := by decide +kernel
theorem dX6_load_4 : decode cX6_load 4 = .ok (.aload_n 0, 1) := by decide +kernel
theorem dX6_load_5 : decode cX6_load 5 = .ok (.getfield 55, 3) := by decide +kernel
theorem dX6_load_8 : decode cX6_load 8 = .ok (.aload_n 0, 1) := by decide +kernel
theorem dX6_load_9 : decode cX6_load 9 = .ok (.getfield 59, 3) := by decide +kernel
theorem dX6_load_12 : decode cX6_load 12 = .ok (.aload_n 0, 1) := by decide +kernel
theorem dX6_load_13 : decode cX6_load 13 = .ok (.getfield 14, 3) := by decide +kernel
theorem dX6_load_16 : decode cX6_load 16 = .ok (.getfield 155, 3) := by decide +kernel
theorem dX6_load_19 : decode cX6_load 19 = .ok (.invokevirtual 158, 3) := by decide +kernel
theorem dX6_load_22 : decode cX6_load 22 = .ok (.istore_n 1, 1) := by decide +kernel
theorem dX6_load_23 : decode cX6_load 23 = .ok (.iload_n 1, 1) := by decide +kernel
theorem dX6_load_24 : decode cX6_load 24 = .ok (.aload_n 0, 1) := by decide +kernel
theorem dX6_load_25 : decode cX6_load 25 = .ok (.getfield 59, 3) := by decide +kernel
theorem dX6_load_28 : decode cX6_load 28 = .ok (.if_icmp .lt 13, 3) := by decide +kernel
theorem dX6_load_31 : decode cX6_load 31 = .ok (.aload_n 0, 1) := by decide +kernel
theorem dX6_load_32 : decode cX6_load 32 = .ok (.getfield 51, 3) := by decide +kernel
theorem dX6_load_35 : decode cX6_load 35 = .ok (.invokevirtual 162, 3) := by decide +kernel
theorem dX6_load_38 : decode cX6_load 38 = .ok (.ifCond .ne 13, 3) := by decide +kernel
theorem dX6_load_41 : decode cX6_load 41 = .ok (.new 92, 3) := by decide +kernel
theorem dX6_load_44 : decode cX6_load 44 = .ok (.dup, 1) := by decide +kernel
theorem dX6_load_45 : decode cX6_load 45 = .ok (.ldc 166, 2) := by decide +kernel
theorem dX6_load_47 : decode cX6_load 47 = .ok (.invokespecial 96, 3) := by decide +kernel
theorem dX6_load_50 : decode cX6_load 50 = .ok (.athrow, 1) := by decide +kernel
theorem dX6_load_51 : decode cX6_load 51 = .ok (.aload_n 0, 1) := by decide +kernel
theorem dX6_load_52 : decode cX6_load 52 = .ok (.getfield 22, 3) := by decide +kernel
theorem dX6_load_55 : decode cX6_load 55 = .ok (.aload_n 0, 1) := by decide +kernel
theorem dX6_load_56 : decode cX6_load 56 = .ok (.getfield 51, 3) := by decide +kernel
theorem dX6_load_59 : decode cX6_load 59 = .ok (.getfield 168, 3) := by decide +kernel
theorem dX6_load_62 : decode cX6_load 62 = .ok (.invokevirtual 169, 3) := by decide +kernel
theorem dX6_load_65 : decode cX6_load 65 = .ok (.aload_n 0, 1) := by decide +kernel
theorem dX6_load_66 : decode cX6_load 66 = .ok (.getfield 14, 3) := by decide +kernel
theorem dX6_load_69 : decode cX6_load 69 = .ok (.invokevirtual 101, 3) := by decide +kernel
theorem dX6_load_72 : decode cX6_load 72 = .ok (.aload_n 0, 1) := by decide +kernel
theorem dX6_load_73 : decode cX6_load 73 = .ok (.iconst 0, 1) := by decide +kernel
theorem dX6_load_74 : decode cX6_load 74 = .ok (.putfield 59, 3) := by decide +kernel
theorem dX6_load_77 : decode cX6_load 77 = .ok (.aload_n 0, 1) := by decide +kernel
theorem dX6_load_78 : decode cX6_load 78 = .ok (.getfield 22, 3) := by decide +kernel
theorem dX6_load_81 : decode cX6_load 81 = .ok (.getfield 70, 3) := by decide +kernel
theorem dX6_load_84 : decode cX6_load 84 = .ok (.ireturn, 1) := by decide +kernel
set_option maxRecDepth 20000 in
theorem ggX6_isDoubled_X6_needDimension : GoodIn wsX6_isDoubled wsX6_needDimension := goodIn_ca (goodIn_r _ [7, 8, 9, 10, 11, 12, 13, 14, 15, 16, 17, 18, 19, 24, 25, 26, 27, 28, 29] (by decide +kernel) (by decide +kernel)) (goodIn_sub (fun _ h => List.mem_cons_of_mem _ (List.mem_append_right _ h)) (by decide +kernel))
set_option maxRecDepth 20000 in
theorem gX6_isDoubled_X6_needDimension : GoodIn wsX6_isDoubled (wsV RX6 104 RX6 yX6_needDimension wsX6_needDimension) := goodIn_app (goodIn_of _ (by decide +kernel)) ggX6_isDoubled_X6_needDimension
theorem dX6_isDoubled_0 : decode cX6_isDoubled 0 = .ok (.aload_n 0, 1) := by decide +kernel
theorem dX6_isDoubled_1 : decode cX6_isDoubled 1 = .ok (.iload_n 1, 1) := by decide +kernel
theorem dX6_isDoubled_2 : decode cX6_isDoubled 2 = .ok (.invokevirtual 104, 3) := by decide +kernel
theorem dX6_isDoubled_5 : decode cX6_isDoubled 5 = .ok (.aload_n 0, 1) := by decide +kernel
theorem dX6_isDoubled_6 : decode cX6_isDoubled 6 = .ok (.getfield 14, 3) := by decide +kernel
theorem dX6_isDoubled_9 : decode cX6_isDoubled 9 = .ok (.getfield 173, 3) := by decide +kernel
theorem dX6_isDoubled_12 : decode cX6_isDoubled 12 = .ok (.iload_n 1, 1) := by decide +kernel
theorem dX6_isDoubled_13 : decode cX6_isDoubled 13 = .ok (.baload, 1) := by decide +kernel
theorem dX6_isDoubled_14 : decode cX6_isDoubled 14 = .ok (.ireturn, 1) := by decide +kernel
set_option maxRecDepth 20000 in
theorem ggX6_missing_X2_partCount : GoodIn wsX6_missing wsX2_partCount := goodIn_r _ [6, 7, 8, 17, 18, 19, 20] (by decide +kernel) (by decide +kernel)
set_option maxRecDepth 20000 in
theorem gX6_missing_X2_partCount : GoodIn wsX6_missing (wsV RX6 177 RX2 yX2_partCount wsX2_partCount) := goodIn_app (goodIn_of _ (by decide +kernel)) ggX6_missing_X2_partCount
theorem dX6_missing_0 : decode cX6_missing 0 = .ok (.aload_n 0, 1) := by decide +kernel
theorem dX6_missing_1 : decode cX6_missing 1 = .ok (.getfield 14, 3) := by decide +kernel
theorem dX6_missing_4 : decode cX6_missing 4 = .ok (.invokevirtual 177, 3) := by decide +kernel
theorem dX6_missing_7 : decode cX6_missing 7 = .ok (.iconst 1, 1) := by decide +kernel
theorem dX6_missing_8 : decode cX6_missing 8 = .ok (.isub, 1) := by decide +kernel
theorem dX6_missing_9 : decode cX6_missing 9 = .ok (.ireturn, 1) := by decide +kernel
set_option maxRecDepth 20000 in
theorem ggX6_partOf_X6_needFace : GoodIn wsX6_partOf wsX6_needFace := goodIn_ca (goodIn_r _ [7, 8, 9, 1, 10, 11, 12, 13, 14, 15, 16, 17, 18, 19, 20, 21, 22] (by decide +kernel) (by decide +kernel)) (goodIn_sub (fun _ h => List.mem_cons_of_mem _ (List.mem_append_right _ h)) (by decide +kernel))
set_option maxRecDepth 20000 in
theorem gX6_partOf_X6_needFace : GoodIn wsX6_partOf (wsV RX6 181 RX6 yX6_needFace wsX6_needFace) := goodIn_app (goodIn_of _ (by decide +kernel)) ggX6_partOf_X6_needFace
theorem dX6_partOf_0 : decode cX6_partOf 0 = .ok (.aload_n 0, 1) := by decide +kernel
theorem dX6_partOf_1 : decode cX6_partOf 1 = .ok (.iload_n 1, 1) := by decide +kernel
theorem dX6_partOf_2 : decode cX6_partOf 2 = .ok (.invokevirtual 181, 3) := by decide +kernel
theorem dX6_partOf_5 : decode cX6_partOf 5 = .ok (.aload_n 0, 1) := by decide +kernel
theorem dX6_partOf_6 : decode cX6_partOf 6 = .ok (.getfield 14, 3) := by decide +kernel
theorem dX6_partOf_9 : decode cX6_partOf 9 = .ok (.getfield 184, 3) := by decide +kernel
theorem dX6_partOf_12 : decode cX6_partOf 12 = .ok (.iload_n 1, 1) := by decide +kernel
theorem dX6_partOf_13 : decode cX6_partOf 13 = .ok (.iaload, 1) := by decide +kernel
theorem dX6_partOf_14 : decode cX6_partOf 14 = .ok (.ireturn, 1) := by decide +kernel
set_option maxRecDepth 20000 in
theorem ggX6_chainLength_X6_needFaces : GoodIn wsX6_chainLength wsX6_needFaces := goodIn_ca (goodIn_r _ [7, 8, 9, 10, 6, 11, 12, 13, 14, 15, 63, 64, 65, 66, 67, 68, 69, 70, 79, 80, 81, 82] (by decide +kernel) (by decide +kernel)) (goodIn_sub (fun _ h => List.mem_cons_of_mem _ (List.mem_append_right _ h)) (by decide +kernel))
set_option maxRecDepth 20000 in
theorem gX6_chainLength_X6_needFaces : GoodIn wsX6_chainLength (wsV RX6 78 RX6 yX6_needFaces wsX6_needFaces) := goodIn_app (goodIn_of _ (by decide +kernel)) ggX6_chainLength_X6_needFaces
set_option maxRecDepth 20000 in
theorem ggX6_chainLength_X0_find : GoodIn wsX6_chainLength wsX0_find := goodIn_r _ [20, 21, 22, 23, 24, 25, 26, 27, 28, 29, 30, 19, 31, 32, 33, 34, 35, 36, 37, 38, 39, 40, 41, 42, 43, 44, 45, 46, 47, 48, 49, 50, 51, 52, 53, 54, 55, 56, 57, 58, 59, 60, 61, 62, 71, 72, 73, 74, 75, 76, 77, 78, 79, 80, 81, 82, 83, 84, 85, 86, 87, 88] (by decide +kernel) (by decide +kernel)
set_option maxRecDepth 20000 in
theorem gX6_chainLength_X0_find : GoodIn wsX6_chainLength (wsV RX6 187 RX0 yX0_find wsX0_find) := goodIn_app (goodIn_of _ (by decide +kernel)) ggX6_chainLength_X0_find
theorem dX6_chainLength_0 : decode cX6_chainLength 0 = .ok (.aload_n 0, 1) := by decide +kernel
theorem dX6_chainLength_1 : decode cX6_chainLength 1 = .ok (.iload_n 1, 1) := by decide +kernel
theorem dX6_chainLength_2 : decode cX6_chainLength 2 = .ok (.iload_n 2, 1) := by decide +kernel
theorem dX6_chainLength_3 : decode cX6_chainLength 3 = .ok (.invokevirtual 78, 3) := by decide +kernel
theorem dX6_chainLength_6 : decode cX6_chainLength 6 = .ok (.aload_n 0, 1) := by decide +kernel
theorem dX6_chainLength_7 : decode cX6_chainLength 7 = .ok (.getfield 28, 3) := by decide +kernel
theorem dX6_chainLength_10 : decode cX6_chainLength 10 = .ok (.iload_n 1, 1) := by decide +kernel
theorem dX6_chainLength_11 : decode cX6_chainLength 11 = .ok (.iload_n 2, 1) := by decide +kernel
theorem dX6_chainLength_12 : decode cX6_chainLength 12 = .ok (.invokevirtual 187, 3) := by decide +kernel
theorem dX6_chainLength_15 : decode cX6_chainLength 15 = .ok (.ifCond .eq 13, 3) := by decide +kernel
theorem dX6_chainLength_18 : decode cX6_chainLength 18 = .ok (.aload_n 0, 1) := by decide +kernel
theorem dX6_chainLength_19 : decode cX6_chainLength 19 = .ok (.getfield 28, 3) := by decide +kernel
theorem dX6_chainLength_22 : decode cX6_chainLength 22 = .ok (.getfield 190, 3) := by decide +kernel
theorem dX6_chainLength_25 : decode cX6_chainLength 25 = .ok (.goto 4, 3) := by decide +kernel
theorem dX6_chainLength_28 : decode cX6_chainLength 28 = .ok (.iconst (-1), 1) := by decide +kernel
theorem dX6_chainLength_29 : decode cX6_chainLength 29 = .ok (.ireturn, 1) := by decide +kernel
set_option maxRecDepth 20000 in
theorem ggX6_chainDimension_X6_needFaces : GoodIn wsX6_chainDimension wsX6_needFaces := goodIn_ca (goodIn_r _ [10, 11, 12, 13, 9, 14, 1, 2, 15, 16, 64, 65, 66, 67, 68, 69, 70, 71, 80, 81, 82, 83] (by decide +kernel) (by decide +kernel)) (goodIn_sub (fun _ h => List.mem_cons_of_mem _ (List.mem_append_right _ h)) (by decide +kernel))
set_option maxRecDepth 20000 in
theorem gX6_chainDimension_X6_needFaces : GoodIn wsX6_chainDimension (wsV RX6 78 RX6 yX6_needFaces wsX6_needFaces) := goodIn_app (goodIn_of _ (by decide +kernel)) ggX6_chainDimension_X6_needFaces
set_option maxRecDepth 20000 in
theorem ggX6_chainDimension_X0_find : GoodIn wsX6_chainDimension wsX0_find := goodIn_r _ [21, 22, 23, 24, 25, 26, 27, 28, 29, 30, 31, 20, 32, 33, 34, 35, 36, 37, 38, 39, 40, 41, 42, 43, 44, 45, 46, 47, 48, 49, 50, 51, 52, 53, 54, 55, 56, 57, 58, 59, 60, 61, 62, 63, 72, 73, 74, 75, 76, 77, 78, 79, 80, 81, 82, 83, 84, 85, 86, 87, 88, 89] (by decide +kernel) (by decide +kernel)
set_option maxRecDepth 20000 in
theorem gX6_chainDimension_X0_find : GoodIn wsX6_chainDimension (wsV RX6 187 RX0 yX0_find wsX0_find) := goodIn_app (goodIn_of _ (by decide +kernel)) ggX6_chainDimension_X0_find
theorem dX6_chainDimension_0 : decode cX6_chainDimension 0 = .ok (.aload_n 0, 1) := by decide +kernel
theorem dX6_chainDimension_1 : decode cX6_chainDimension 1 = .ok (.iload_n 1, 1) := by decide +kernel
theorem dX6_chainDimension_2 : decode cX6_chainDimension 2 = .ok (.iload_n 2, 1) := by decide +kernel
theorem dX6_chainDimension_3 : decode cX6_chainDimension 3 = .ok (.invokevirtual 78, 3) := by decide +kernel
theorem dX6_chainDimension_6 : decode cX6_chainDimension 6 = .ok (.aload_n 0, 1) := by decide +kernel
theorem dX6_chainDimension_7 : decode cX6_chainDimension 7 = .ok (.getfield 28, 3) := by decide +kernel
theorem dX6_chainDimension_10 : decode cX6_chainDimension 10 = .ok (.iload_n 1, 1) := by decide +kernel
theorem dX6_chainDimension_11 : decode cX6_chainDimension 11 = .ok (.iload_n 2, 1) := by decide +kernel
theorem dX6_chainDimension_12 : decode cX6_chainDimension 12 = .ok (.invokevirtual 187, 3) := by decide +kernel
theorem dX6_chainDimension_15 : decode cX6_chainDimension 15 = .ok (.ifCond .eq 18, 3) := by decide +kernel
theorem dX6_chainDimension_18 : decode cX6_chainDimension 18 = .ok (.iload_n 3, 1) := by decide +kernel
theorem dX6_chainDimension_19 : decode cX6_chainDimension 19 = .ok (.ifCond .lt 14, 3) := by decide +kernel
theorem dX6_chainDimension_22 : decode cX6_chainDimension 22 = .ok (.iload_n 3, 1) := by decide +kernel
theorem dX6_chainDimension_23 : decode cX6_chainDimension 23 = .ok (.aload_n 0, 1) := by decide +kernel
theorem dX6_chainDimension_24 : decode cX6_chainDimension 24 = .ok (.getfield 28, 3) := by decide +kernel
theorem dX6_chainDimension_27 : decode cX6_chainDimension 27 = .ok (.getfield 190, 3) := by decide +kernel
theorem dX6_chainDimension_30 : decode cX6_chainDimension 30 = .ok (.if_icmp .lt 13, 3) := by decide +kernel
theorem dX6_chainDimension_33 : decode cX6_chainDimension 33 = .ok (.new 193, 3) := by decide +kernel
theorem dX6_chainDimension_36 : decode cX6_chainDimension 36 = .ok (.dup, 1) := by decide +kernel
theorem dX6_chainDimension_37 : decode cX6_chainDimension 37 = .ok (.ldc 195, 2) := by decide +kernel
theorem dX6_chainDimension_39 : decode cX6_chainDimension 39 = .ok (.invokespecial 197, 3) := by decide +kernel
theorem dX6_chainDimension_42 : decode cX6_chainDimension 42 = .ok (.athrow, 1) := by decide +kernel
theorem dX6_chainDimension_43 : decode cX6_chainDimension 43 = .ok (.aload_n 0, 1) := by decide +kernel
theorem dX6_chainDimension_44 : decode cX6_chainDimension 44 = .ok (.getfield 28, 3) := by decide +kernel
theorem dX6_chainDimension_47 : decode cX6_chainDimension 47 = .ok (.getfield 198, 3) := by decide +kernel
theorem dX6_chainDimension_50 : decode cX6_chainDimension 50 = .ok (.iload_n 3, 1) := by decide +kernel
theorem dX6_chainDimension_51 : decode cX6_chainDimension 51 = .ok (.iaload, 1) := by decide +kernel
theorem dX6_chainDimension_52 : decode cX6_chainDimension 52 = .ok (.ireturn, 1) := by decide +kernel
set_option maxRecDepth 20000 in
theorem ggX6_gap_X6_needFaces : GoodIn wsX6_gap wsX6_needFaces := goodIn_ca (goodIn_r _ [11, 12, 13, 14, 10, 15, 16, 17, 18, 19, 73, 74, 75, 76, 77, 78, 79, 80, 89, 90, 91, 92] (by decide +kernel) (by decide +kernel)) (goodIn_sub (fun _ h => List.mem_cons_of_mem _ (List.mem_append_left _ (List.mem_append_right _ h))) (by decide +kernel))
set_option maxRecDepth 20000 in
theorem gX6_gap_X6_needFaces : GoodIn wsX6_gap (wsV RX6 78 RX6 yX6_needFaces wsX6_needFaces) := goodIn_app (goodIn_of _ (by decide +kernel)) ggX6_gap_X6_needFaces
set_option maxRecDepth 20000 in
theorem ggX6_gap_X6_needChain : GoodIn wsX6_gap wsX6_needChain := goodIn_ca (goodIn_r _ [23, 24, 25, 3, 26, 27, 28, 29, 30, 31, 32, 33, 34, 35, 36, 37, 38, 39, 40, 41, 42, 43, 44, 45, 46, 47, 48, 49, 50, 51, 52, 53, 54, 55, 56, 57, 58, 59, 60, 61, 62, 63, 64, 65, 66, 67, 68, 69, 70, 71, 72, 73, 74, 75, 76, 77, 78, 79, 80, 81, 82, 83, 84, 85, 86, 87, 88, 89, 90, 91, 92, 93, 94, 95, 96, 97, 98] (by decide +kernel) (by decide +kernel)) (goodIn_sub (fun _ h => List.mem_cons_of_mem _ (List.mem_append_right _ h)) (by decide +kernel))
set_option maxRecDepth 20000 in
theorem gX6_gap_X6_needChain : GoodIn wsX6_gap (wsV RX6 203 RX6 yX6_needChain wsX6_needChain) := goodIn_app (goodIn_of _ (by decide +kernel)) ggX6_gap_X6_needChain
theorem dX6_gap_0 : decode cX6_gap 0 = .ok (.aload_n 0, 1) := by decide +kernel
theorem dX6_gap_1 : decode cX6_gap 1 = .ok (.iload_n 1, 1) := by decide +kernel
theorem dX6_gap_2 : decode cX6_gap 2 = .ok (.iload_n 2, 1) := by decide +kernel
theorem dX6_gap_3 : decode cX6_gap 3 = .ok (.invokevirtual 78, 3) := by decide +kernel
theorem dX6_gap_6 : decode cX6_gap 6 = .ok (.iload_n 3, 1) := by decide +kernel
theorem dX6_gap_7 : decode cX6_gap 7 = .ok (.ifCond .lt 8, 3) := by decide +kernel
theorem dX6_gap_10 : decode cX6_gap 10 = .ok (.iload_n 3, 1) := by decide +kernel
theorem dX6_gap_11 : decode cX6_gap 11 = .ok (.iconst 2, 1) := by decide +kernel
theorem dX6_gap_12 : decode cX6_gap 12 = .ok (.if_icmp .le 13, 3) := by decide +kernel
theorem dX6_gap_15 : decode cX6_gap 15 = .ok (.new 63, 3) := by decide +kernel
theorem dX6_gap_18 : decode cX6_gap 18 = .ok (.dup, 1) := by decide +kernel
theorem dX6_gap_19 : decode cX6_gap 19 = .ok (.ldc 201, 2) := by decide +kernel
theorem dX6_gap_21 : decode cX6_gap 21 = .ok (.invokespecial 67, 3) := by decide +kernel
theorem dX6_gap_24 : decode cX6_gap 24 = .ok (.athrow, 1) := by decide +kernel
theorem dX6_gap_25 : decode cX6_gap 25 = .ok (.aload_n 0, 1) := by decide +kernel
theorem dX6_gap_26 : decode cX6_gap 26 = .ok (.iload_n 1, 1) := by decide +kernel
theorem dX6_gap_27 : decode cX6_gap 27 = .ok (.iload_n 2, 1) := by decide +kernel
theorem dX6_gap_28 : decode cX6_gap 28 = .ok (.invokevirtual 203, 3) := by decide +kernel
theorem dX6_gap_31 : decode cX6_gap 31 = .ok (.iload_n 3, 1) := by decide +kernel
theorem dX6_gap_32 : decode cX6_gap 32 = .ok (.ifCond .ne 11, 3) := by decide +kernel
theorem dX6_gap_35 : decode cX6_gap 35 = .ok (.aload_n 0, 1) := by decide +kernel
theorem dX6_gap_36 : decode cX6_gap 36 = .ok (.getfield 28, 3) := by decide +kernel
theorem dX6_gap_39 : decode cX6_gap 39 = .ok (.getfield 206, 3) := by decide +kernel
theorem dX6_gap_42 : decode cX6_gap 42 = .ok (.ireturn, 1) := by decide +kernel
theorem dX6_gap_43 : decode cX6_gap 43 = .ok (.iload_n 3, 1) := by decide +kernel
theorem dX6_gap_44 : decode cX6_gap 44 = .ok (.iconst 1, 1) := by decide +kernel
theorem dX6_gap_45 : decode cX6_gap 45 = .ok (.if_icmp .ne 13, 3) := by decide +kernel
theorem dX6_gap_48 : decode cX6_gap 48 = .ok (.aload_n 0, 1) := by decide +kernel
theorem dX6_gap_49 : decode cX6_gap 49 = .ok (.getfield 28, 3) := by decide +kernel
theorem dX6_gap_52 : decode cX6_gap 52 = .ok (.getfield 208, 3) := by decide +kernel
theorem dX6_gap_55 : decode cX6_gap 55 = .ok (.goto 10, 3) := by decide +kernel
theorem dX6_gap_58 : decode cX6_gap 58 = .ok (.aload_n 0, 1) := by decide +kernel
theorem dX6_gap_59 : decode cX6_gap 59 = .ok (.getfield 28, 3) := by decide +kernel
theorem dX6_gap_62 : decode cX6_gap 62 = .ok (.getfield 211, 3) := by decide +kernel
theorem dX6_gap_65 : decode cX6_gap 65 = .ok (.ireturn, 1) := by decide +kernel
set_option maxRecDepth 20000 in
theorem ggX6_spread_X6_needFaces : GoodIn wsX6_spread wsX6_needFaces := goodIn_ca (goodIn_r _ [6, 7, 8, 9, 5, 10, 11, 12, 13, 14, 76, 77, 78, 79, 80, 81, 82, 83, 84, 85, 86, 87] (by decide +kernel) (by decide +kernel)) (goodIn_sub (fun _ h => List.mem_cons_of_mem _ (List.mem_append_left _ (List.mem_append_right _ h))) (by decide +kernel))
set_option maxRecDepth 20000 in
theorem gX6_spread_X6_needFaces : GoodIn wsX6_spread (wsV RX6 78 RX6 yX6_needFaces wsX6_needFaces) := goodIn_app (goodIn_of _ (by decide +kernel)) ggX6_spread_X6_needFaces
set_option maxRecDepth 20000 in
theorem ggX6_spread_X6_needChain : GoodIn wsX6_spread wsX6_needChain := goodIn_ca (goodIn_r _ [18, 19, 20, 1, 21, 22, 23, 24, 25, 26, 27, 28, 29, 30, 31, 32, 33, 34, 35, 36, 37, 38, 39, 40, 41, 42, 43, 44, 45, 46, 47, 48, 49, 50, 51, 52, 53, 54, 55, 56, 57, 58, 59, 60, 61, 62, 63, 64, 65, 66, 67, 76, 77, 78, 79, 80, 81, 82, 83, 88, 89, 90, 91, 92, 93, 94, 95, 84, 85, 86, 87, 96, 97, 98, 99, 100, 101] (by decide +kernel) (by decide +kernel)) (goodIn_sub (fun _ h => List.mem_cons_of_mem _ (List.mem_append_right _ h)) (by decide +kernel))
set_option maxRecDepth 20000 in
theorem gX6_spread_X6_needChain : GoodIn wsX6_spread (wsV RX6 203 RX6 yX6_needChain wsX6_needChain) := goodIn_app (goodIn_of _ (by decide +kernel)) ggX6_spread_X6_needChain
set_option maxRecDepth 20000 in
theorem ggX6_spread_X0_rootOfSquares : GoodIn wsX6_spread wsX0_rootOfSquares := goodIn_r _ [71, 26, 37, 54, 72, 73, 74, 59, 75, 67, 62, 88, 89, 90, 91, 92, 93, 94, 95, 96, 97, 98, 99, 100, 101] (by decide +kernel) (by decide +kernel)
set_option maxRecDepth 20000 in
theorem gX6_spread_X0_rootOfSquares : GoodIn wsX6_spread (wsV RX6 214 RX0 yX0_rootOfSquares wsX0_rootOfSquares) := goodIn_app (goodIn_of _ (by decide +kernel)) ggX6_spread_X0_rootOfSquares
theorem dX6_spread_0 : decode cX6_spread 0 = .ok (.aload_n 0, 1) := by decide +kernel
theorem dX6_spread_1 : decode cX6_spread 1 = .ok (.iload_n 1, 1) := by decide +kernel
theorem dX6_spread_2 : decode cX6_spread 2 = .ok (.iload_n 2, 1) := by decide +kernel
theorem dX6_spread_3 : decode cX6_spread 3 = .ok (.invokevirtual 78, 3) := by decide +kernel
theorem dX6_spread_6 : decode cX6_spread 6 = .ok (.aload_n 0, 1) := by decide +kernel
theorem dX6_spread_7 : decode cX6_spread 7 = .ok (.iload_n 1, 1) := by decide +kernel
theorem dX6_spread_8 : decode cX6_spread 8 = .ok (.iload_n 2, 1) := by decide +kernel
theorem dX6_spread_9 : decode cX6_spread 9 = .ok (.invokevirtual 203, 3) := by decide +kernel
theorem dX6_spread_12 : decode cX6_spread 12 = .ok (.aload_n 0, 1) := by decide +kernel
theorem dX6_spread_13 : decode cX6_spread 13 = .ok (.getfield 28, 3) := by decide +kernel
theorem dX6_spread_16 : decode cX6_spread 16 = .ok (.invokevirtual 214, 3) := by decide +kernel
theorem dX6_spread_19 : decode cX6_spread 19 = .ok (.ireturn, 1) := by decide +kernel
set_option maxRecDepth 20000 in
theorem ggX6_contributor_X6_needFaces : GoodIn wsX6_contributor wsX6_needFaces := goodIn_ca (goodIn_r _ [6, 7, 8, 9, 5, 10, 11, 12, 13, 14, 80, 81, 82, 83, 84, 85, 86, 87, 88, 89, 90, 91] (by decide +kernel) (by decide +kernel)) (goodIn_sub (fun _ h => List.mem_cons_of_mem _ (List.mem_append_left _ (List.mem_append_right _ h))) (by decide +kernel))
set_option maxRecDepth 20000 in
theorem gX6_contributor_X6_needFaces : GoodIn wsX6_contributor (wsV RX6 78 RX6 yX6_needFaces wsX6_needFaces) := goodIn_app (goodIn_of _ (by decide +kernel)) ggX6_contributor_X6_needFaces
set_option maxRecDepth 20000 in
theorem ggX6_contributor_X6_needChain : GoodIn wsX6_contributor wsX6_needChain := goodIn_ca (goodIn_r _ [18, 19, 20, 1, 21, 22, 23, 24, 25, 26, 27, 28, 29, 30, 31, 32, 33, 34, 35, 36, 37, 38, 39, 40, 41, 42, 43, 44, 45, 46, 47, 48, 49, 50, 51, 52, 53, 54, 55, 56, 57, 58, 59, 60, 61, 62, 63, 64, 65, 66, 67, 80, 81, 82, 83, 84, 85, 86, 87, 92, 93, 94, 95, 96, 97, 98, 99, 88, 89, 90, 91, 100, 101, 102, 103, 104, 105] (by decide +kernel) (by decide +kernel)) (goodIn_sub (fun _ h => List.mem_cons_of_mem _ (List.mem_append_right _ h)) (by decide +kernel))
set_option maxRecDepth 20000 in
theorem gX6_contributor_X6_needChain : GoodIn wsX6_contributor (wsV RX6 203 RX6 yX6_needChain wsX6_needChain) := goodIn_app (goodIn_of _ (by decide +kernel)) ggX6_contributor_X6_needChain
set_option maxRecDepth 20000 in
theorem ggX6_contributor_X0_widest : GoodIn wsX6_contributor wsX0_widest := goodIn_r _ [71, 26, 54, 72, 73, 74, 24, 75, 37, 76, 77, 78, 59, 79, 67, 62, 92, 93, 94, 95, 96, 97, 98, 99, 100, 101, 102, 103, 104, 105] (by decide +kernel) (by decide +kernel)
set_option maxRecDepth 20000 in
theorem gX6_contributor_X0_widest : GoodIn wsX6_contributor (wsV RX6 217 RX0 yX0_widest wsX0_widest) := goodIn_app (goodIn_of _ (by decide +kernel)) ggX6_contributor_X0_widest
theorem dX6_contributor_0 : decode cX6_contributor 0 = .ok (.aload_n 0, 1) := by decide +kernel
theorem dX6_contributor_1 : decode cX6_contributor 1 = .ok (.iload_n 1, 1) := by decide +kernel
theorem dX6_contributor_2 : decode cX6_contributor 2 = .ok (.iload_n 2, 1) := by decide +kernel
theorem dX6_contributor_3 : decode cX6_contributor 3 = .ok (.invokevirtual 78, 3) := by decide +kernel
theorem dX6_contributor_6 : decode cX6_contributor 6 = .ok (.aload_n 0, 1) := by decide +kernel
theorem dX6_contributor_7 : decode cX6_contributor 7 = .ok (.iload_n 1, 1) := by decide +kernel
theorem dX6_contributor_8 : decode cX6_contributor 8 = .ok (.iload_n 2, 1) := by decide +kernel
theorem dX6_contributor_9 : decode cX6_contributor 9 = .ok (.invokevirtual 203, 3) := by decide +kernel
theorem dX6_contributor_12 : decode cX6_contributor 12 = .ok (.aload_n 0, 1) := by decide +kernel
theorem dX6_contributor_13 : decode cX6_contributor 13 = .ok (.getfield 28, 3) := by decide +kernel
theorem dX6_contributor_16 : decode cX6_contributor 16 = .ok (.invokevirtual 217, 3) := by decide +kernel
theorem dX6_contributor_19 : decode cX6_contributor 19 = .ok (.ireturn, 1) := by decide +kernel
set_option maxRecDepth 20000 in
theorem ggX6_part_X6_needFaces : GoodIn wsX6_part wsX6_needFaces := goodIn_ca (goodIn_r _ [7, 8, 9, 10, 6, 11, 12, 13, 14, 15, 87, 88, 89, 90, 91, 92, 93, 94, 95, 96, 97, 98] (by decide +kernel) (by decide +kernel)) (goodIn_sub (fun _ h => List.mem_cons_of_mem _ (List.mem_append_left _ (List.mem_append_right _ h))) (by decide +kernel))
set_option maxRecDepth 20000 in
theorem gX6_part_X6_needFaces : GoodIn wsX6_part (wsV RX6 78 RX6 yX6_needFaces wsX6_needFaces) := goodIn_app (goodIn_of _ (by decide +kernel)) ggX6_part_X6_needFaces
set_option maxRecDepth 20000 in
theorem ggX6_part_X6_needDimension : GoodIn wsX6_part wsX6_needDimension := goodIn_ca (goodIn_r _ [19, 12, 13, 2, 20, 87, 88, 89, 90, 91, 92, 93, 94, 99, 100, 101, 102, 103, 104] (by decide +kernel) (by decide +kernel)) (goodIn_sub (fun _ h => List.mem_cons_of_mem _ (List.mem_append_left _ (List.mem_append_right _ h))) (by decide +kernel))
set_option maxRecDepth 20000 in
theorem gX6_part_X6_needDimension : GoodIn wsX6_part (wsV RX6 104 RX6 yX6_needDimension wsX6_needDimension) := goodIn_app (goodIn_of _ (by decide +kernel)) ggX6_part_X6_needDimension
set_option maxRecDepth 20000 in
theorem ggX6_part_X6_needChain : GoodIn wsX6_part wsX6_needChain := goodIn_ca (goodIn_r _ [24, 25, 26, 1, 27, 28, 29, 30, 31, 32, 33, 34, 35, 36, 37, 38, 39, 40, 41, 42, 43, 44, 45, 46, 47, 48, 49, 50, 51, 52, 53, 54, 55, 56, 57, 58, 59, 60, 61, 62, 63, 64, 65, 66, 67, 68, 69, 70, 71, 72, 73, 87, 88, 89, 90, 91, 92, 93, 94, 105, 106, 107, 108, 109, 110, 111, 112, 95, 96, 97, 98, 99, 100, 101, 102, 103, 104] (by decide +kernel) (by decide +kernel)) (goodIn_sub (fun _ h => List.mem_cons_of_mem _ (List.mem_append_right _ h)) (by decide +kernel))
set_option maxRecDepth 20000 in
theorem gX6_part_X6_needChain : GoodIn wsX6_part (wsV RX6 203 RX6 yX6_needChain wsX6_needChain) := goodIn_app (goodIn_of _ (by decide +kernel)) ggX6_part_X6_needChain
set_option maxRecDepth 20000 in
theorem ggX6_part_X0_widthSum : GoodIn wsX6_part wsX0_widthSum := goodIn_r _ [77, 32, 43, 60, 78, 79, 80, 65, 81, 73, 68, 105, 106, 107, 108, 109, 110, 111, 112, 99, 100, 101, 102, 103, 104] (by decide +kernel) (by decide +kernel)
set_option maxRecDepth 20000 in
theorem gX6_part_X0_widthSum : GoodIn wsX6_part (wsV RX6 220 RX0 yX0_widthSum wsX0_widthSum) := goodIn_app (goodIn_of _ (by decide +kernel)) ggX6_part_X0_widthSum
set_option maxRecDepth 20000 in
theorem ggX6_part_X0_holds : GoodIn wsX6_part wsX0_holds := goodIn_r _ [85, 32, 60, 105, 106, 107, 108, 109, 110, 111, 112] (by decide +kernel) (by decide +kernel)
set_option maxRecDepth 20000 in
theorem gX6_part_X0_holds : GoodIn wsX6_part (wsV RX6 223 RX0 yX0_holds wsX0_holds) := goodIn_app (goodIn_of _ (by decide +kernel)) ggX6_part_X0_holds
set_option maxRecDepth 20000 in
theorem ggX6_part_X1_width : GoodIn wsX6_part wsX1_width := goodIn_r _ [81, 73, 68, 99, 100, 101, 102, 103, 104] (by decide +kernel) (by decide +kernel)
set_option maxRecDepth 20000 in
theorem gX6_part_X1_width : GoodIn wsX6_part (wsV RX6 112 RX1 yX1_width wsX1_width) := goodIn_app (goodIn_of _ (by decide +kernel)) ggX6_part_X1_width
theorem dX6_part_0 : decode cX6_part 0 = .ok (.aload_n 0, 1) := by decide +kernel
theorem dX6_part_1 : decode cX6_part 1 = .ok (.iload_n 1, 1) := by decide +kernel
theorem dX6_part_2 : decode cX6_part 2 = .ok (.iload_n 2, 1) := by decide +kernel
theorem dX6_part_3 : decode cX6_part 3 = .ok (.invokevirtual 78, 3) := by decide +kernel
theorem dX6_part_6 : decode cX6_part 6 = .ok (.aload_n 0, 1) := by decide +kernel
theorem dX6_part_7 : decode cX6_part 7 = .ok (.iload_n 3, 1) := by decide +kernel
theorem dX6_part_8 : decode cX6_part 8 = .ok (.invokevirtual 104, 3) := by decide +kernel
theorem dX6_part_11 : decode cX6_part 11 = .ok (.aload_n 0, 1) := by decide +kernel
theorem dX6_part_12 : decode cX6_part 12 = .ok (.iload_n 1, 1) := by decide +kernel
theorem dX6_part_13 : decode cX6_part 13 = .ok (.iload_n 2, 1) := by decide +kernel
theorem dX6_part_14 : decode cX6_part 14 = .ok (.invokevirtual 203, 3) := by decide +kernel
theorem dX6_part_17 : decode cX6_part 17 = .ok (.aload_n 0, 1) := by decide +kernel
theorem dX6_part_18 : decode cX6_part 18 = .ok (.getfield 28, 3) := by decide +kernel
theorem dX6_part_21 : decode cX6_part 21 = .ok (.invokevirtual 220, 3) := by decide +kernel
theorem dX6_part_24 : decode cX6_part 24 = .ok (.istore 4, 2) := by decide +kernel
theorem dX6_part_26 : decode cX6_part 26 = .ok (.iload 4, 2) := by decide +kernel
theorem dX6_part_28 : decode cX6_part 28 = .ok (.ifCond .eq 14, 3) := by decide +kernel
theorem dX6_part_31 : decode cX6_part 31 = .ok (.aload_n 0, 1) := by decide +kernel
theorem dX6_part_32 : decode cX6_part 32 = .ok (.getfield 28, 3) := by decide +kernel
theorem dX6_part_35 : decode cX6_part 35 = .ok (.iload_n 3, 1) := by decide +kernel
theorem dX6_part_36 : decode cX6_part 36 = .ok (.invokevirtual 223, 3) := by decide +kernel
theorem dX6_part_39 : decode cX6_part 39 = .ok (.ifCond .ne 5, 3) := by decide +kernel
theorem dX6_part_42 : decode cX6_part 42 = .ok (.dconst 0, 1) := by decide +kernel
theorem dX6_part_43 : decode cX6_part 43 = .ok (.dreturn, 1) := by decide +kernel
theorem dX6_part_44 : decode cX6_part 44 = .ok (.aload_n 0, 1) := by decide +kernel
theorem dX6_part_45 : decode cX6_part 45 = .ok (.getfield 22, 3) := by decide +kernel
theorem dX6_part_48 : decode cX6_part 48 = .ok (.iload_n 3, 1) := by decide +kernel
theorem dX6_part_49 : decode cX6_part 49 = .ok (.invokevirtual 112, 3) := by decide +kernel
theorem dX6_part_52 : decode cX6_part 52 = .ok (.i2d, 1) := by decide +kernel
theorem dX6_part_53 : decode cX6_part 53 = .ok (.iload 4, 2) := by decide +kernel
theorem dX6_part_55 : decode cX6_part 55 = .ok (.i2d, 1) := by decide +kernel
theorem dX6_part_56 : decode cX6_part 56 = .ok (.ddiv, 1) := by decide +kernel
theorem dX6_part_57 : decode cX6_part 57 = .ok (.dreturn, 1) := by decide +kernel
set_option maxRecDepth 20000 in
theorem ggX6_misfit_X6_needDimension : GoodIn wsX6_misfit wsX6_needDimension := goodIn_ca (goodIn_r _ [15, 16, 17, 6, 18, 66, 67, 68, 69, 70, 71, 72, 73, 78, 79, 80, 81, 82, 83] (by decide +kernel) (by decide +kernel)) (goodIn_sub (fun _ h => List.mem_cons_of_mem _ (List.mem_append_right _ h)) (by decide +kernel))
set_option maxRecDepth 20000 in
theorem gX6_misfit_X6_needDimension : GoodIn wsX6_misfit (wsV RX6 104 RX6 yX6_needDimension wsX6_needDimension) := goodIn_app (goodIn_of _ (by decide +kernel)) ggX6_misfit_X6_needDimension
set_option maxRecDepth 20000 in
theorem ggX6_misfit_X0_find : GoodIn wsX6_misfit wsX0_find := goodIn_r _ [23, 24, 25, 26, 27, 28, 29, 30, 31, 32, 33, 22, 34, 35, 36, 37, 38, 39, 40, 41, 42, 43, 44, 45, 46, 47, 48, 49, 50, 51, 52, 53, 54, 55, 56, 57, 58, 59, 60, 61, 62, 63, 64, 65, 84, 85, 86, 87, 88, 89, 90, 91, 74, 75, 76, 77, 78, 79, 80, 81, 82, 83] (by decide +kernel) (by decide +kernel)
set_option maxRecDepth 20000 in
theorem gX6_misfit_X0_find : GoodIn wsX6_misfit (wsV RX6 187 RX0 yX0_find wsX0_find) := goodIn_app (goodIn_of _ (by decide +kernel)) ggX6_misfit_X0_find
theorem dX6_misfit_0 : decode cX6_misfit 0 = .ok (.aload_n 0, 1) := by decide +kernel
theorem dX6_misfit_1 : decode cX6_misfit 1 = .ok (.iload_n 1, 1) := by decide +kernel
theorem dX6_misfit_2 : decode cX6_misfit 2 = .ok (.invokevirtual 104, 3) := by decide +kernel
theorem dX6_misfit_5 : decode cX6_misfit 5 = .ok (.aload_n 0, 1) := by decide +kernel
theorem dX6_misfit_6 : decode cX6_misfit 6 = .ok (.getfield 14, 3) := by decide +kernel
theorem dX6_misfit_9 : decode cX6_misfit 9 = .ok (.getfield 173, 3) := by decide +kernel
theorem dX6_misfit_12 : decode cX6_misfit 12 = .ok (.iload_n 1, 1) := by decide +kernel
theorem dX6_misfit_13 : decode cX6_misfit 13 = .ok (.baload, 1) := by decide +kernel
theorem dX6_misfit_14 : decode cX6_misfit 14 = .ok (.ifCond .ne 13, 3) := by decide +kernel
theorem dX6_misfit_17 : decode cX6_misfit 17 = .ok (.new 92, 3) := by decide +kernel
theorem dX6_misfit_20 : decode cX6_misfit 20 = .ok (.dup, 1) := by decide +kernel
theorem dX6_misfit_21 : decode cX6_misfit 21 = .ok (.ldc 226, 2) := by decide +kernel
theorem dX6_misfit_23 : decode cX6_misfit 23 = .ok (.invokespecial 96, 3) := by decide +kernel
theorem dX6_misfit_26 : decode cX6_misfit 26 = .ok (.athrow, 1) := by decide +kernel
theorem dX6_misfit_27 : decode cX6_misfit 27 = .ok (.aload_n 0, 1) := by decide +kernel
theorem dX6_misfit_28 : decode cX6_misfit 28 = .ok (.getfield 28, 3) := by decide +kernel
theorem dX6_misfit_31 : decode cX6_misfit 31 = .ok (.aload_n 0, 1) := by decide +kernel
theorem dX6_misfit_32 : decode cX6_misfit 32 = .ok (.getfield 22, 3) := by decide +kernel
theorem dX6_misfit_35 : decode cX6_misfit 35 = .ok (.getfield 140, 3) := by decide +kernel
theorem dX6_misfit_38 : decode cX6_misfit 38 = .ok (.iload_n 1, 1) := by decide +kernel
theorem dX6_misfit_39 : decode cX6_misfit 39 = .ok (.iaload, 1) := by decide +kernel
theorem dX6_misfit_40 : decode cX6_misfit 40 = .ok (.aload_n 0, 1) := by decide +kernel
theorem dX6_misfit_41 : decode cX6_misfit 41 = .ok (.getfield 22, 3) := by decide +kernel
theorem dX6_misfit_44 : decode cX6_misfit 44 = .ok (.getfield 143, 3) := by decide +kernel
theorem dX6_misfit_47 : decode cX6_misfit 47 = .ok (.iload_n 1, 1) := by decide +kernel
theorem dX6_misfit_48 : decode cX6_misfit 48 = .ok (.iaload, 1) := by decide +kernel
theorem dX6_misfit_49 : decode cX6_misfit 49 = .ok (.invokevirtual 187, 3) := by decide +kernel
theorem dX6_misfit_52 : decode cX6_misfit 52 = .ok (.pop, 1) := by decide +kernel
theorem dX6_misfit_53 : decode cX6_misfit 53 = .ok (.aload_n 0, 1) := by decide +kernel
theorem dX6_misfit_54 : decode cX6_misfit 54 = .ok (.getfield 22, 3) := by decide +kernel
theorem dX6_misfit_57 : decode cX6_misfit 57 = .ok (.getfield 146, 3) := by decide +kernel
theorem dX6_misfit_60 : decode cX6_misfit 60 = .ok (.iload_n 1, 1) := by decide +kernel
theorem dX6_misfit_61 : decode cX6_misfit 61 = .ok (.iaload, 1) := by decide +kernel
theorem dX6_misfit_62 : decode cX6_misfit 62 = .ok (.aload_n 0, 1) := by decide +kernel
theorem dX6_misfit_63 : decode cX6_misfit 63 = .ok (.getfield 28, 3) := by decide +kernel
theorem dX6_misfit_66 : decode cX6_misfit 66 = .ok (.getfield 206, 3) := by decide +kernel
theorem dX6_misfit_69 : decode cX6_misfit 69 = .ok (.isub, 1) := by decide +kernel
theorem dX6_misfit_70 : decode cX6_misfit 70 = .ok (.ireturn, 1) := by decide +kernel
set_option maxRecDepth 20000 in
theorem ggX6_contradictions_X6_contradictsChain : GoodIn wsX6_contradictions wsX6_contradictsChain := goodIn_r _ [9, 10, 1, 11, 12, 13, 14, 15, 16, 17, 18, 19, 20, 21, 22, 23, 24, 25, 26, 27, 28, 29, 30, 31, 32, 33, 34, 35, 36, 37, 38, 39, 40, 41, 42, 43, 44, 45, 46, 47, 48, 49, 50, 51, 52, 53, 54, 55, 56, 57, 58, 59, 60, 61, 62, 63, 64, 65, 66, 67, 68, 69, 70, 71, 72, 73, 74, 75, 76, 77, 82, 83, 84, 85, 86, 87, 88, 89, 78, 79, 80, 81] (by decide +kernel) (by decide +kernel)
set_option maxRecDepth 20000 in
theorem gX6_contradictions_X6_contradictsChain : GoodIn wsX6_contradictions (wsV RX6 228 RX6 yX6_contradictsChain wsX6_contradictsChain) := goodIn_app (goodIn_of _ (by decide +kernel)) ggX6_contradictions_X6_contradictsChain
theorem dX6_contradictions_0 : decode cX6_contradictions 0 = .ok (.iconst 0, 1) := by decide +kernel
theorem dX6_contradictions_1 : decode cX6_contradictions 1 = .ok (.istore_n 1, 1) := by decide +kernel
theorem dX6_contradictions_2 : decode cX6_contradictions 2 = .ok (.iconst 0, 1) := by decide +kernel
theorem dX6_contradictions_3 : decode cX6_contradictions 3 = .ok (.istore_n 2, 1) := by decide +kernel
theorem dX6_contradictions_4 : decode cX6_contradictions 4 = .ok (.iload_n 2, 1) := by decide +kernel
theorem dX6_contradictions_5 : decode cX6_contradictions 5 = .ok (.aload_n 0, 1) := by decide +kernel
theorem dX6_contradictions_6 : decode cX6_contradictions 6 = .ok (.getfield 22, 3) := by decide +kernel
theorem dX6_contradictions_9 : decode cX6_contradictions 9 = .ok (.getfield 70, 3) := by decide +kernel
theorem dX6_contradictions_12 : decode cX6_contradictions 12 = .ok (.if_icmp .ge 32, 3) := by decide +kernel
theorem dX6_contradictions_15 : decode cX6_contradictions 15 = .ok (.aload_n 0, 1) := by decide +kernel
theorem dX6_contradictions_16 : decode cX6_contradictions 16 = .ok (.getfield 14, 3) := by decide +kernel
theorem dX6_contradictions_19 : decode cX6_contradictions 19 = .ok (.getfield 173, 3) := by decide +kernel
theorem dX6_contradictions_22 : decode cX6_contradictions 22 = .ok (.iload_n 2, 1) := by decide +kernel
theorem dX6_contradictions_23 : decode cX6_contradictions 23 = .ok (.baload, 1) := by decide +kernel
theorem dX6_contradictions_24 : decode cX6_contradictions 24 = .ok (.ifCond .eq 14, 3) := by decide +kernel
theorem dX6_contradictions_27 : decode cX6_contradictions 27 = .ok (.aload_n 0, 1) := by decide +kernel
theorem dX6_contradictions_28 : decode cX6_contradictions 28 = .ok (.iload_n 2, 1) := by decide +kernel
theorem dX6_contradictions_29 : decode cX6_contradictions 29 = .ok (.invokevirtual 228, 3) := by decide +kernel
theorem dX6_contradictions_32 : decode cX6_contradictions 32 = .ok (.ifCond .eq 6, 3) := by decide +kernel
theorem dX6_contradictions_35 : decode cX6_contradictions 35 = .ok (.iinc 1 1, 3) := by decide +kernel
theorem dX6_contradictions_38 : decode cX6_contradictions 38 = .ok (.iinc 2 1, 3) := by decide +kernel
theorem dX6_contradictions_41 : decode cX6_contradictions 41 = .ok (.goto (-37), 3) := by decide +kernel
theorem dX6_contradictions_44 : decode cX6_contradictions 44 = .ok (.iload_n 1, 1) := by decide +kernel
theorem dX6_contradictions_45 : decode cX6_contradictions 45 = .ok (.ireturn, 1) := by decide +kernel
set_option maxRecDepth 20000 in
theorem ggX6_isConsistent_X5_settle : GoodIn wsX6_isConsistent wsX5_settle := goodIn_r _ [6, 7, 8, 9, 10, 11, 5, 12, 13, 14, 15, 16, 17, 18, 19, 20, 21, 22, 23, 24, 25, 26, 27, 28, 29, 30, 31, 32, 33, 34, 35, 36, 37, 38, 39, 40, 41, 42, 43, 44, 45, 46, 47, 48, 49, 50, 51, 52, 53, 62, 63, 64, 65, 66, 67, 68, 69, 70, 71, 72, 73] (by decide +kernel) (by decide +kernel)
set_option maxRecDepth 20000 in
theorem gX6_isConsistent_X5_settle : GoodIn wsX6_isConsistent (wsV RX6 231 RX5 yX5_settle wsX5_settle) := goodIn_app (goodIn_of _ (by decide +kernel)) ggX6_isConsistent_X5_settle
theorem dX6_isConsistent_0 : decode cX6_isConsistent 0 = .ok (.aload_n 0, 1) := by decide +kernel
theorem dX6_isConsistent_1 : decode cX6_isConsistent 1 = .ok (.getfield 44, 3) := by decide +kernel
theorem dX6_isConsistent_4 : decode cX6_isConsistent 4 = .ok (.invokevirtual 231, 3) := by decide +kernel
theorem dX6_isConsistent_7 : decode cX6_isConsistent 7 = .ok (.ireturn, 1) := by decide +kernel
set_option maxRecDepth 20000 in
theorem ggX6_tight_X6_needFaces : GoodIn wsX6_tight wsX6_needFaces := goodIn_ca (goodIn_r _ [10, 11, 12, 13, 9, 14, 15, 16, 3, 17, 78, 79, 80, 81, 82, 83, 84, 85, 86, 87, 88, 89] (by decide +kernel) (by decide +kernel)) (goodIn_sub (fun _ h => List.mem_cons_of_mem _ (List.mem_append_right _ h)) (by decide +kernel))
set_option maxRecDepth 20000 in
theorem gX6_tight_X6_needFaces : GoodIn wsX6_tight (wsV RX6 78 RX6 yX6_needFaces wsX6_needFaces) := goodIn_app (goodIn_of _ (by decide +kernel)) ggX6_tight_X6_needFaces
set_option maxRecDepth 20000 in
theorem ggX6_tight_X5_settle : GoodIn wsX6_tight wsX5_settle := goodIn_r _ [22, 23, 24, 25, 26, 27, 21, 28, 29, 30, 31, 32, 33, 34, 35, 36, 37, 38, 39, 40, 41, 42, 43, 44, 45, 46, 47, 48, 49, 50, 51, 52, 53, 54, 55, 56, 57, 58, 59, 60, 61, 62, 63, 64, 65, 66, 67, 68, 69, 90, 91, 86, 87, 88, 89, 92, 93, 94, 95, 96, 97] (by decide +kernel) (by decide +kernel)
set_option maxRecDepth 20000 in
theorem gX6_tight_X5_settle : GoodIn wsX6_tight (wsV RX6 231 RX5 yX5_settle wsX5_settle) := goodIn_app (goodIn_of _ (by decide +kernel)) ggX6_tight_X5_settle
set_option maxRecDepth 20000 in
theorem ggX6_tight_X5_greatestGap : GoodIn wsX6_tight wsX5_greatestGap := goodIn_r _ [73, 29, 39, 40, 21, 41, 90, 91] (by decide +kernel) (by decide +kernel)
set_option maxRecDepth 20000 in
theorem gX6_tight_X5_greatestGap : GoodIn wsX6_tight (wsV RX6 238 RX5 yX5_greatestGap wsX5_greatestGap) := goodIn_app (goodIn_of _ (by decide +kernel)) ggX6_tight_X5_greatestGap
set_option maxRecDepth 20000 in
theorem ggX6_tight_X5_leastGap : GoodIn wsX6_tight wsX5_leastGap := goodIn_r _ [77, 29, 39, 40, 21, 41, 90, 91] (by decide +kernel) (by decide +kernel)
set_option maxRecDepth 20000 in
theorem gX6_tight_X5_leastGap : GoodIn wsX6_tight (wsV RX6 242 RX5 yX5_leastGap wsX5_leastGap) := goodIn_app (goodIn_of _ (by decide +kernel)) ggX6_tight_X5_leastGap
theorem dX6_tight_0 : decode cX6_tight 0 = .ok (.aload_n 0, 1) := by decide +kernel
theorem dX6_tight_1 : decode cX6_tight 1 = .ok (.iload_n 1, 1) := by decide +kernel
theorem dX6_tight_2 : decode cX6_tight 2 = .ok (.iload_n 2, 1) := by decide +kernel
theorem dX6_tight_3 : decode cX6_tight 3 = .ok (.invokevirtual 78, 3) := by decide +kernel
theorem dX6_tight_6 : decode cX6_tight 6 = .ok (.aload_n 0, 1) := by decide +kernel
theorem dX6_tight_7 : decode cX6_tight 7 = .ok (.getfield 14, 3) := by decide +kernel
theorem dX6_tight_10 : decode cX6_tight 10 = .ok (.getfield 184, 3) := by decide +kernel
theorem dX6_tight_13 : decode cX6_tight 13 = .ok (.iload_n 1, 1) := by decide +kernel
theorem dX6_tight_14 : decode cX6_tight 14 = .ok (.iaload, 1) := by decide +kernel
theorem dX6_tight_15 : decode cX6_tight 15 = .ok (.aload_n 0, 1) := by decide +kernel
theorem dX6_tight_16 : decode cX6_tight 16 = .ok (.getfield 14, 3) := by decide +kernel
theorem dX6_tight_19 : decode cX6_tight 19 = .ok (.getfield 184, 3) := by decide +kernel
theorem dX6_tight_22 : decode cX6_tight 22 = .ok (.iload_n 2, 1) := by decide +kernel
theorem dX6_tight_23 : decode cX6_tight 23 = .ok (.iaload, 1) := by decide +kernel
theorem dX6_tight_24 : decode cX6_tight 24 = .ok (.if_icmp .eq 13, 3) := by decide +kernel
theorem dX6_tight_27 : decode cX6_tight 27 = .ok (.new 92, 3) := by decide +kernel
theorem dX6_tight_30 : decode cX6_tight 30 = .ok (.dup, 1) := by decide +kernel
theorem dX6_tight_31 : decode cX6_tight 31 = .ok (.ldc 234, 2) := by decide +kernel
theorem dX6_tight_33 : decode cX6_tight 33 = .ok (.invokespecial 96, 3) := by decide +kernel
theorem dX6_tight_36 : decode cX6_tight 36 = .ok (.athrow, 1) := by decide +kernel
theorem dX6_tight_37 : decode cX6_tight 37 = .ok (.aload_n 0, 1) := by decide +kernel
theorem dX6_tight_38 : decode cX6_tight 38 = .ok (.getfield 44, 3) := by decide +kernel
theorem dX6_tight_41 : decode cX6_tight 41 = .ok (.invokevirtual 231, 3) := by decide +kernel
theorem dX6_tight_44 : decode cX6_tight 44 = .ok (.ifCond .ne 13, 3) := by decide +kernel
theorem dX6_tight_47 : decode cX6_tight 47 = .ok (.new 92, 3) := by decide +kernel
theorem dX6_tight_50 : decode cX6_tight 50 = .ok (.dup, 1) := by decide +kernel
theorem dX6_tight_51 : decode cX6_tight 51 = .ok (.ldc 236, 2) := by decide +kernel
theorem dX6_tight_53 : decode cX6_tight 53 = .ok (.invokespecial 96, 3) := by decide +kernel
theorem dX6_tight_56 : decode cX6_tight 56 = .ok (.athrow, 1) := by decide +kernel
theorem dX6_tight_57 : decode cX6_tight 57 = .ok (.iload_n 3, 1) := by decide +kernel
theorem dX6_tight_58 : decode cX6_tight 58 = .ok (.ifCond .eq 15, 3) := by decide +kernel
theorem dX6_tight_61 : decode cX6_tight 61 = .ok (.aload_n 0, 1) := by decide +kernel
theorem dX6_tight_62 : decode cX6_tight 62 = .ok (.getfield 44, 3) := by decide +kernel
theorem dX6_tight_65 : decode cX6_tight 65 = .ok (.iload_n 1, 1) := by decide +kernel
theorem dX6_tight_66 : decode cX6_tight 66 = .ok (.iload_n 2, 1) := by decide +kernel
theorem dX6_tight_67 : decode cX6_tight 67 = .ok (.invokevirtual 238, 3) := by decide +kernel
theorem dX6_tight_70 : decode cX6_tight 70 = .ok (.goto 12, 3) := by decide +kernel
theorem dX6_tight_73 : decode cX6_tight 73 = .ok (.aload_n 0, 1) := by decide +kernel
theorem dX6_tight_74 : decode cX6_tight 74 = .ok (.getfield 44, 3) := by decide +kernel
theorem dX6_tight_77 : decode cX6_tight 77 = .ok (.iload_n 1, 1) := by decide +kernel
theorem dX6_tight_78 : decode cX6_tight 78 = .ok (.iload_n 2, 1) := by decide +kernel
theorem dX6_tight_79 : decode cX6_tight 79 = .ok (.invokevirtual 242, 3) := by decide +kernel
theorem dX6_tight_82 : decode cX6_tight 82 = .ok (.ireturn, 1) := by decide +kernel
set_option maxRecDepth 20000 in
theorem ggX6_transfer_X6_needDimension : GoodIn wsX6_transfer wsX6_needDimension := goodIn_ca (goodIn_r _ [21, 22, 23, 5, 24, 122, 123, 124, 125, 126, 127, 128, 129, 130, 131, 132, 133, 134, 135] (by decide +kernel) (by decide +kernel)) (goodIn_sub (fun _ h => List.mem_cons_of_mem _ (List.mem_append_right _ h)) (by decide +kernel))
set_option maxRecDepth 20000 in
theorem gX6_transfer_X6_needDimension : GoodIn wsX6_transfer (wsV RX6 104 RX6 yX6_needDimension wsX6_needDimension) := goodIn_app (goodIn_of _ (by decide +kernel)) ggX6_transfer_X6_needDimension
set_option maxRecDepth 20000 in
theorem ggX6_transfer_X6_needFace : GoodIn wsX6_transfer wsX6_needFace := goodIn_ca (goodIn_r _ [28, 22, 23, 8, 29, 122, 123, 124, 125, 126, 127, 128, 129, 136, 137, 138, 139] (by decide +kernel) (by decide +kernel)) (goodIn_sub (fun _ h => List.mem_cons_of_mem _ (List.mem_append_right _ h)) (by decide +kernel))
set_option maxRecDepth 20000 in
theorem gX6_transfer_X6_needFace : GoodIn wsX6_transfer (wsV RX6 181 RX6 yX6_needFace wsX6_needFace) := goodIn_app (goodIn_of _ (by decide +kernel)) ggX6_transfer_X6_needFace
set_option maxRecDepth 20000 in
theorem ggX6_transfer_X6_needChain : GoodIn wsX6_transfer wsX6_needChain := goodIn_ca (goodIn_r _ [33, 3, 4, 10, 34, 35, 36, 37, 38, 39, 40, 41, 42, 43, 44, 45, 46, 47, 48, 49, 50, 51, 52, 53, 54, 55, 56, 57, 58, 59, 60, 61, 62, 63, 64, 65, 66, 67, 68, 69, 70, 71, 72, 73, 74, 75, 76, 77, 78, 79, 80, 122, 123, 124, 125, 126, 127, 128, 129, 140, 141, 142, 143, 144, 145, 146, 147, 136, 137, 138, 139, 130, 131, 132, 133, 134, 135] (by decide +kernel) (by decide +kernel)) (goodIn_sub (fun _ h => List.mem_cons_of_mem _ (List.mem_append_left _ (List.mem_append_right _ h))) (by decide +kernel))
set_option maxRecDepth 20000 in
theorem gX6_transfer_X6_needChain : GoodIn wsX6_transfer (wsV RX6 203 RX6 yX6_needChain wsX6_needChain) := goodIn_app (goodIn_of _ (by decide +kernel)) ggX6_transfer_X6_needChain
set_option maxRecDepth 20000 in
theorem ggX6_transfer_X0_holds : GoodIn wsX6_transfer wsX0_holds := goodIn_r _ [84, 39, 67, 140, 141, 142, 143, 144, 145, 146, 147] (by decide +kernel) (by decide +kernel)
set_option maxRecDepth 20000 in
theorem gX6_transfer_X0_holds : GoodIn wsX6_transfer (wsV RX6 223 RX0 yX0_holds wsX0_holds) := goodIn_app (goodIn_of _ (by decide +kernel)) ggX6_transfer_X0_holds
set_option maxRecDepth 20000 in
theorem ggX6_transfer_X6_isNominal : GoodIn wsX6_transfer wsX6_isNominal := goodIn_r _ [87, 88, 89] (by decide +kernel) (by decide +kernel)
set_option maxRecDepth 20000 in
theorem gX6_transfer_X6_isNominal : GoodIn wsX6_transfer (va_wsS RX6 82 yX6_isNominal wsX6_isNominal) := goodIn_app (goodIn_of _ (by decide +kernel)) ggX6_transfer_X6_isNominal
set_option maxRecDepth 20000 in
theorem ggX6_transfer_X6_areDeviations : GoodIn wsX6_transfer wsX6_areDeviations := goodIn_r _ [92] (by decide +kernel) (by decide +kernel)
set_option maxRecDepth 20000 in
theorem gX6_transfer_X6_areDeviations : GoodIn wsX6_transfer (va_wsS RX6 86 yX6_areDeviations wsX6_areDeviations) := goodIn_app (goodIn_of _ (by decide +kernel)) ggX6_transfer_X6_areDeviations
set_option maxRecDepth 20000 in
theorem ggX6_transfer_X1_put : GoodIn wsX6_transfer wsX1_put := goodIn_r _ [96, 97, 98, 74, 75, 80, 130, 131, 132, 133, 134, 135] (by decide +kernel) (by decide +kernel)
set_option maxRecDepth 20000 in
theorem gX6_transfer_X1_put : GoodIn wsX6_transfer (wsV RX6 97 RX1 yX1_put wsX1_put) := goodIn_app (goodIn_of _ (by decide +kernel)) ggX6_transfer_X1_put
set_option maxRecDepth 20000 in
theorem ggX6_transfer_X2_findParts : GoodIn wsX6_transfer wsX2_findParts := goodIn_r _ [103, 104, 105, 106, 107, 108, 109, 110, 111, 112, 113, 114, 115, 116, 117, 118, 119, 120, 102, 121, 136, 137, 138, 139, 130, 131, 132, 133, 134, 135] (by decide +kernel) (by decide +kernel)
set_option maxRecDepth 20000 in
theorem gX6_transfer_X2_findParts : GoodIn wsX6_transfer (wsV RX6 101 RX2 yX2_findParts wsX2_findParts) := goodIn_app (goodIn_of _ (by decide +kernel)) ggX6_transfer_X2_findParts
theorem dX6_transfer_0 : decode cX6_transfer 0 = .ok (.aload_n 0, 1) := by decide +kernel
theorem dX6_transfer_1 : decode cX6_transfer 1 = .ok (.iload_n 1, 1) := by decide +kernel
theorem dX6_transfer_2 : decode cX6_transfer 2 = .ok (.invokevirtual 104, 3) := by decide +kernel
theorem dX6_transfer_5 : decode cX6_transfer 5 = .ok (.aload_n 0, 1) := by decide +kernel
theorem dX6_transfer_6 : decode cX6_transfer 6 = .ok (.iload_n 2, 1) := by decide +kernel
theorem dX6_transfer_7 : decode cX6_transfer 7 = .ok (.invokevirtual 181, 3) := by decide +kernel
theorem dX6_transfer_10 : decode cX6_transfer 10 = .ok (.aload_n 0, 1) := by decide +kernel
theorem dX6_transfer_11 : decode cX6_transfer 11 = .ok (.getfield 22, 3) := by decide +kernel
theorem dX6_transfer_14 : decode cX6_transfer 14 = .ok (.getfield 140, 3) := by decide +kernel
theorem dX6_transfer_17 : decode cX6_transfer 17 = .ok (.iload_n 1, 1) := by decide +kernel
theorem dX6_transfer_18 : decode cX6_transfer 18 = .ok (.iaload, 1) := by decide +kernel
theorem dX6_transfer_19 : decode cX6_transfer 19 = .ok (.istore_n 3, 1) := by decide +kernel
theorem dX6_transfer_20 : decode cX6_transfer 20 = .ok (.aload_n 0, 1) := by decide +kernel
theorem dX6_transfer_21 : decode cX6_transfer 21 = .ok (.getfield 22, 3) := by decide +kernel
theorem dX6_transfer_24 : decode cX6_transfer 24 = .ok (.getfield 143, 3) := by decide +kernel
theorem dX6_transfer_27 : decode cX6_transfer 27 = .ok (.iload_n 1, 1) := by decide +kernel
theorem dX6_transfer_28 : decode cX6_transfer 28 = .ok (.iaload, 1) := by decide +kernel
theorem dX6_transfer_29 : decode cX6_transfer 29 = .ok (.istore 4, 2) := by decide +kernel
theorem dX6_transfer_31 : decode cX6_transfer 31 = .ok (.iload_n 2, 1) := by decide +kernel
theorem dX6_transfer_32 : decode cX6_transfer 32 = .ok (.iload_n 3, 1) := by decide +kernel
theorem dX6_transfer_33 : decode cX6_transfer 33 = .ok (.if_icmp .eq 9, 3) := by decide +kernel
theorem dX6_transfer_36 : decode cX6_transfer 36 = .ok (.iload_n 2, 1) := by decide +kernel
theorem dX6_transfer_37 : decode cX6_transfer 37 = .ok (.iload 4, 2) := by decide +kernel
theorem dX6_transfer_39 : decode cX6_transfer 39 = .ok (.if_icmp .ne 13, 3) := by decide +kernel
theorem dX6_transfer_42 : decode cX6_transfer 42 = .ok (.new 63, 3) := by decide +kernel
theorem dX6_transfer_45 : decode cX6_transfer 45 = .ok (.dup, 1) := by decide +kernel
theorem dX6_transfer_46 : decode cX6_transfer 46 = .ok (.ldc 245, 2) := by decide +kernel
theorem dX6_transfer_48 : decode cX6_transfer 48 = .ok (.invokespecial 67, 3) := by decide +kernel
theorem dX6_transfer_51 : decode cX6_transfer 51 = .ok (.athrow, 1) := by decide +kernel
theorem dX6_transfer_52 : decode cX6_transfer 52 = .ok (.aload_n 0, 1) := by decide +kernel
theorem dX6_transfer_53 : decode cX6_transfer 53 = .ok (.iload_n 2, 1) := by decide +kernel
theorem dX6_transfer_54 : decode cX6_transfer 54 = .ok (.iload_n 3, 1) := by decide +kernel
theorem dX6_transfer_55 : decode cX6_transfer 55 = .ok (.invokevirtual 203, 3) := by decide +kernel
theorem dX6_transfer_58 : decode cX6_transfer 58 = .ok (.aload_n 0, 1) := by decide +kernel
theorem dX6_transfer_59 : decode cX6_transfer 59 = .ok (.getfield 14, 3) := by decide +kernel
theorem dX6_transfer_62 : decode cX6_transfer 62 = .ok (.getfield 173, 3) := by decide +kernel
theorem dX6_transfer_65 : decode cX6_transfer 65 = .ok (.iload_n 1, 1) := by decide +kernel
theorem dX6_transfer_66 : decode cX6_transfer 66 = .ok (.baload, 1) := by decide +kernel
theorem dX6_transfer_67 : decode cX6_transfer 67 = .ok (.ifCond .ne 14, 3) := by decide +kernel
theorem dX6_transfer_70 : decode cX6_transfer 70 = .ok (.aload_n 0, 1) := by decide +kernel
theorem dX6_transfer_71 : decode cX6_transfer 71 = .ok (.getfield 28, 3) := by decide +kernel
theorem dX6_transfer_74 : decode cX6_transfer 74 = .ok (.iload_n 1, 1) := by decide +kernel
theorem dX6_transfer_75 : decode cX6_transfer 75 = .ok (.invokevirtual 223, 3) := by decide +kernel
theorem dX6_transfer_78 : decode cX6_transfer 78 = .ok (.ifCond .eq 13, 3) := by decide +kernel
theorem dX6_transfer_81 : decode cX6_transfer 81 = .ok (.new 92, 3) := by decide +kernel
theorem dX6_transfer_84 : decode cX6_transfer 84 = .ok (.dup, 1) := by decide +kernel
theorem dX6_transfer_85 : decode cX6_transfer 85 = .ok (.ldc 247, 2) := by decide +kernel
theorem dX6_transfer_87 : decode cX6_transfer 87 = .ok (.invokespecial 96, 3) := by decide +kernel
theorem dX6_transfer_90 : decode cX6_transfer 90 = .ok (.athrow, 1) := by decide +kernel
theorem dX6_transfer_91 : decode cX6_transfer 91 = .ok (.aload_n 0, 1) := by decide +kernel
theorem dX6_transfer_92 : decode cX6_transfer 92 = .ok (.getfield 28, 3) := by decide +kernel
theorem dX6_transfer_95 : decode cX6_transfer 95 = .ok (.getfield 206, 3) := by decide +kernel
theorem dX6_transfer_98 : decode cX6_transfer 98 = .ok (.aload_n 0, 1) := by decide +kernel
theorem dX6_transfer_99 : decode cX6_transfer 99 = .ok (.getfield 22, 3) := by decide +kernel
theorem dX6_transfer_102 : decode cX6_transfer 102 = .ok (.getfield 146, 3) := by decide +kernel
theorem dX6_transfer_105 : decode cX6_transfer 105 = .ok (.iload_n 1, 1) := by decide +kernel
theorem dX6_transfer_106 : decode cX6_transfer 106 = .ok (.iaload, 1) := by decide +kernel
theorem dX6_transfer_107 : decode cX6_transfer 107 = .ok (.iadd, 1) := by decide +kernel
theorem dX6_transfer_108 : decode cX6_transfer 108 = .ok (.istore 5, 2) := by decide +kernel
theorem dX6_transfer_110 : decode cX6_transfer 110 = .ok (.aload_n 0, 1) := by decide +kernel
theorem dX6_transfer_111 : decode cX6_transfer 111 = .ok (.getfield 22, 3) := by decide +kernel
theorem dX6_transfer_114 : decode cX6_transfer 114 = .ok (.getfield 116, 3) := by decide +kernel
theorem dX6_transfer_117 : decode cX6_transfer 117 = .ok (.iload_n 1, 1) := by decide +kernel
theorem dX6_transfer_118 : decode cX6_transfer 118 = .ok (.iaload, 1) := by decide +kernel
theorem dX6_transfer_119 : decode cX6_transfer 119 = .ok (.aload_n 0, 1) := by decide +kernel
theorem dX6_transfer_120 : decode cX6_transfer 120 = .ok (.getfield 28, 3) := by decide +kernel
theorem dX6_transfer_123 : decode cX6_transfer 123 = .ok (.getfield 211, 3) := by decide +kernel
theorem dX6_transfer_126 : decode cX6_transfer 126 = .ok (.iadd, 1) := by decide +kernel
theorem dX6_transfer_127 : decode cX6_transfer 127 = .ok (.aload_n 0, 1) := by decide +kernel
theorem dX6_transfer_128 : decode cX6_transfer 128 = .ok (.getfield 28, 3) := by decide +kernel
theorem dX6_transfer_131 : decode cX6_transfer 131 = .ok (.getfield 206, 3) := by decide +kernel
theorem dX6_transfer_134 : decode cX6_transfer 134 = .ok (.isub, 1) := by decide +kernel
theorem dX6_transfer_135 : decode cX6_transfer 135 = .ok (.istore 6, 2) := by decide +kernel
theorem dX6_transfer_137 : decode cX6_transfer 137 = .ok (.aload_n 0, 1) := by decide +kernel
theorem dX6_transfer_138 : decode cX6_transfer 138 = .ok (.getfield 22, 3) := by decide +kernel
theorem dX6_transfer_141 : decode cX6_transfer 141 = .ok (.getfield 119, 3) := by decide +kernel
theorem dX6_transfer_144 : decode cX6_transfer 144 = .ok (.iload_n 1, 1) := by decide +kernel
theorem dX6_transfer_145 : decode cX6_transfer 145 = .ok (.iaload, 1) := by decide +kernel
theorem dX6_transfer_146 : decode cX6_transfer 146 = .ok (.aload_n 0, 1) := by decide +kernel
theorem dX6_transfer_147 : decode cX6_transfer 147 = .ok (.getfield 28, 3) := by decide +kernel
theorem dX6_transfer_150 : decode cX6_transfer 150 = .ok (.getfield 208, 3) := by decide +kernel
theorem dX6_transfer_153 : decode cX6_transfer 153 = .ok (.iadd, 1) := by decide +kernel
theorem dX6_transfer_154 : decode cX6_transfer 154 = .ok (.aload_n 0, 1) := by decide +kernel
theorem dX6_transfer_155 : decode cX6_transfer 155 = .ok (.getfield 28, 3) := by decide +kernel
theorem dX6_transfer_158 : decode cX6_transfer 158 = .ok (.getfield 206, 3) := by decide +kernel
theorem dX6_transfer_161 : decode cX6_transfer 161 = .ok (.isub, 1) := by decide +kernel
theorem dX6_transfer_162 : decode cX6_transfer 162 = .ok (.istore 7, 2) := by decide +kernel
theorem dX6_transfer_164 : decode cX6_transfer 164 = .ok (.iload 5, 2) := by decide +kernel
theorem dX6_transfer_166 : decode cX6_transfer 166 = .ok (.invokestatic 82, 3) := by decide +kernel
theorem dX6_transfer_169 : decode cX6_transfer 169 = .ok (.ifCond .eq 13, 3) := by decide +kernel
theorem dX6_transfer_172 : decode cX6_transfer 172 = .ok (.iload 6, 2) := by decide +kernel
theorem dX6_transfer_174 : decode cX6_transfer 174 = .ok (.iload 7, 2) := by decide +kernel
theorem dX6_transfer_176 : decode cX6_transfer 176 = .ok (.invokestatic 86, 3) := by decide +kernel
theorem dX6_transfer_179 : decode cX6_transfer 179 = .ok (.ifCond .ne 13, 3) := by decide +kernel
theorem dX6_transfer_182 : decode cX6_transfer 182 = .ok (.new 92, 3) := by decide +kernel
theorem dX6_transfer_185 : decode cX6_transfer 185 = .ok (.dup, 1) := by decide +kernel
theorem dX6_transfer_186 : decode cX6_transfer 186 = .ok (.ldc 249, 2) := by decide +kernel
theorem dX6_transfer_188 : decode cX6_transfer 188 = .ok (.invokespecial 96, 3) := by decide +kernel
theorem dX6_transfer_191 : decode cX6_transfer 191 = .ok (.athrow, 1) := by decide +kernel
theorem dX6_transfer_192 : decode cX6_transfer 192 = .ok (.aload_n 0, 1) := by decide +kernel
theorem dX6_transfer_193 : decode cX6_transfer 193 = .ok (.getfield 22, 3) := by decide +kernel
theorem dX6_transfer_196 : decode cX6_transfer 196 = .ok (.iload_n 1, 1) := by decide +kernel
theorem dX6_transfer_197 : decode cX6_transfer 197 = .ok (.iload_n 2, 1) := by decide +kernel
theorem dX6_transfer_198 : decode cX6_transfer 198 = .ok (.iload 4, 2) := by decide +kernel
theorem dX6_transfer_200 : decode cX6_transfer 200 = .ok (.iload 5, 2) := by decide +kernel
theorem dX6_transfer_202 : decode cX6_transfer 202 = .ok (.iload 6, 2) := by decide +kernel
theorem dX6_transfer_204 : decode cX6_transfer 204 = .ok (.iload 7, 2) := by decide +kernel
theorem dX6_transfer_206 : decode cX6_transfer 206 = .ok (.invokevirtual 97, 3) := by decide +kernel
theorem dX6_transfer_209 : decode cX6_transfer 209 = .ok (.aload_n 0, 1) := by decide +kernel
theorem dX6_transfer_210 : decode cX6_transfer 210 = .ok (.getfield 14, 3) := by decide +kernel
theorem dX6_transfer_213 : decode cX6_transfer 213 = .ok (.invokevirtual 101, 3) := by decide +kernel
theorem dX6_transfer_216 : decode cX6_transfer 216 = .ok (.iload 7, 2) := by decide +kernel
theorem dX6_transfer_218 : decode cX6_transfer 218 = .ok (.iload 6, 2) := by decide +kernel
theorem dX6_transfer_220 : decode cX6_transfer 220 = .ok (.isub, 1) := by decide +kernel
theorem dX6_transfer_221 : decode cX6_transfer 221 = .ok (.ireturn, 1) := by decide +kernel
set_option maxRecDepth 20000 in
theorem ggX6_distribute_X6_needFaces : GoodIn wsX6_distribute wsX6_needFaces := goodIn_ca (goodIn_r _ [10, 11, 12, 13, 9, 14, 15, 16, 17, 18, 120, 121, 122, 123, 124, 125, 126, 127, 128, 129, 130, 131] (by decide +kernel) (by decide +kernel)) (goodIn_sub (fun _ h => List.mem_cons_of_mem _ (List.mem_append_right _ h)) (by decide +kernel))
set_option maxRecDepth 20000 in
theorem gX6_distribute_X6_needFaces : GoodIn wsX6_distribute (wsV RX6 78 RX6 yX6_needFaces wsX6_needFaces) := goodIn_app (goodIn_of _ (by decide +kernel)) ggX6_distribute_X6_needFaces
set_option maxRecDepth 20000 in
theorem ggX6_distribute_X6_needChain : GoodIn wsX6_distribute wsX6_needChain := goodIn_ca (goodIn_r _ [22, 3, 4, 23, 24, 25, 26, 27, 28, 29, 30, 31, 32, 33, 34, 35, 36, 37, 38, 39, 40, 41, 42, 43, 44, 45, 46, 47, 48, 49, 50, 51, 52, 53, 54, 55, 56, 57, 58, 59, 60, 61, 62, 63, 64, 65, 66, 67, 68, 69, 70, 120, 121, 122, 123, 124, 125, 126, 127, 132, 133, 134, 135, 136, 137, 138, 139, 128, 129, 130, 131, 140, 141, 142, 143, 144, 145] (by decide +kernel) (by decide +kernel)) (goodIn_sub (fun _ h => List.mem_cons_of_mem _ (List.mem_append_left _ (List.mem_append_right _ h))) (by decide +kernel))
set_option maxRecDepth 20000 in
theorem gX6_distribute_X6_needChain : GoodIn wsX6_distribute (wsV RX6 203 RX6 yX6_needChain wsX6_needChain) := goodIn_app (goodIn_of _ (by decide +kernel)) ggX6_distribute_X6_needChain
set_option maxRecDepth 20000 in
theorem ggX6_distribute_X4_divide : GoodIn wsX6_distribute wsX4_divide := goodIn_r _ [75, 76, 77, 78, 79, 80, 81, 82, 83, 27, 84, 29, 40, 57, 85, 86, 87, 62, 88, 70, 65, 89, 44, 45, 46, 90, 91, 92, 93, 74, 94, 95, 146, 147, 148, 132, 133, 134, 135, 136, 137, 138, 139, 140, 141, 142, 143, 144, 145] (by decide +kernel) (by decide +kernel)
set_option maxRecDepth 20000 in
theorem gX6_distribute_X4_divide : GoodIn wsX6_distribute (wsV RX6 253 RX4 yX4_divide wsX4_divide) := goodIn_app (goodIn_of _ (by decide +kernel)) ggX6_distribute_X4_divide
set_option maxRecDepth 20000 in
theorem ggX6_distribute_X4_fit : GoodIn wsX6_distribute wsX4_fit := goodIn_r _ [99, 80, 95, 77, 100, 101, 102, 74, 103, 90, 86, 87, 62, 88, 70, 65, 104, 105, 106, 107, 108, 109, 110, 111, 112, 113, 114, 9, 115, 146, 147, 148, 140, 141, 142, 143, 144, 145] (by decide +kernel) (by decide +kernel)
set_option maxRecDepth 20000 in
theorem gX6_distribute_X4_fit : GoodIn wsX6_distribute (wsV RX6 256 RX4 yX4_fit wsX4_fit) := goodIn_app (goodIn_of _ (by decide +kernel)) ggX6_distribute_X4_fit
set_option maxRecDepth 20000 in
theorem ggX6_distribute_X4_apply : GoodIn wsX6_distribute wsX4_apply := goodIn_r _ [119, 80, 95, 108, 109, 77, 100, 101, 102, 74, 103, 90, 86, 87, 62, 88, 70, 65, 104, 105, 106, 107, 110, 111, 112, 113, 146, 147, 148, 140, 141, 142, 143, 144, 145] (by decide +kernel) (by decide +kernel)
set_option maxRecDepth 20000 in
theorem gX6_distribute_X4_apply : GoodIn wsX6_distribute (wsV RX6 261 RX4 yX4_apply wsX4_apply) := goodIn_app (goodIn_of _ (by decide +kernel)) ggX6_distribute_X4_apply
theorem dX6_distribute_0 : decode cX6_distribute 0 = .ok (.aload_n 0, 1) := by decide +kernel
theorem dX6_distribute_1 : decode cX6_distribute 1 = .ok (.iload_n 1, 1) := by decide +kernel
theorem dX6_distribute_2 : decode cX6_distribute 2 = .ok (.iload_n 2, 1) := by decide +kernel
theorem dX6_distribute_3 : decode cX6_distribute 3 = .ok (.invokevirtual 78, 3) := by decide +kernel
theorem dX6_distribute_6 : decode cX6_distribute 6 = .ok (.iload_n 3, 1) := by decide +kernel
theorem dX6_distribute_7 : decode cX6_distribute 7 = .ok (.ifCond .lt 10, 3) := by decide +kernel
theorem dX6_distribute_10 : decode cX6_distribute 10 = .ok (.iload_n 3, 1) := by decide +kernel
theorem dX6_distribute_11 : decode cX6_distribute 11 = .ok (.sipush 1998, 3) := by decide +kernel
theorem dX6_distribute_14 : decode cX6_distribute 14 = .ok (.if_icmp .le 13, 3) := by decide +kernel
theorem dX6_distribute_17 : decode cX6_distribute 17 = .ok (.new 63, 3) := by decide +kernel
theorem dX6_distribute_20 : decode cX6_distribute 20 = .ok (.dup, 1) := by decide +kernel
theorem dX6_distribute_21 : decode cX6_distribute 21 = .ok (.ldc 251, 2) := by decide +kernel
theorem dX6_distribute_23 : decode cX6_distribute 23 = .ok (.invokespecial 67, 3) := by decide +kernel
theorem dX6_distribute_26 : decode cX6_distribute 26 = .ok (.athrow, 1) := by decide +kernel
theorem dX6_distribute_27 : decode cX6_distribute 27 = .ok (.aload_n 0, 1) := by decide +kernel
theorem dX6_distribute_28 : decode cX6_distribute 28 = .ok (.iload_n 1, 1) := by decide +kernel
theorem dX6_distribute_29 : decode cX6_distribute 29 = .ok (.iload_n 2, 1) := by decide +kernel
theorem dX6_distribute_30 : decode cX6_distribute 30 = .ok (.invokevirtual 203, 3) := by decide +kernel
theorem dX6_distribute_33 : decode cX6_distribute 33 = .ok (.aload_n 0, 1) := by decide +kernel
theorem dX6_distribute_34 : decode cX6_distribute 34 = .ok (.getfield 37, 3) := by decide +kernel
theorem dX6_distribute_37 : decode cX6_distribute 37 = .ok (.iload_n 3, 1) := by decide +kernel
theorem dX6_distribute_38 : decode cX6_distribute 38 = .ok (.invokevirtual 253, 3) := by decide +kernel
theorem dX6_distribute_41 : decode cX6_distribute 41 = .ok (.ifCond .eq 13, 3) := by decide +kernel
theorem dX6_distribute_44 : decode cX6_distribute 44 = .ok (.aload_n 0, 1) := by decide +kernel
theorem dX6_distribute_45 : decode cX6_distribute 45 = .ok (.getfield 37, 3) := by decide +kernel
theorem dX6_distribute_48 : decode cX6_distribute 48 = .ok (.invokevirtual 256, 3) := by decide +kernel
theorem dX6_distribute_51 : decode cX6_distribute 51 = .ok (.ifCond .ne 14, 3) := by decide +kernel
theorem dX6_distribute_54 : decode cX6_distribute 54 = .ok (.new 92, 3) := by decide +kernel
theorem dX6_distribute_57 : decode cX6_distribute 57 = .ok (.dup, 1) := by decide +kernel
theorem dX6_distribute_58 : decode cX6_distribute 58 = .ok (.ldc_w 259, 3) := by decide +kernel
theorem dX6_distribute_61 : decode cX6_distribute 61 = .ok (.invokespecial 96, 3) := by decide +kernel
theorem dX6_distribute_64 : decode cX6_distribute 64 = .ok (.athrow, 1) := by decide +kernel
theorem dX6_distribute_65 : decode cX6_distribute 65 = .ok (.aload_n 0, 1) := by decide +kernel
theorem dX6_distribute_66 : decode cX6_distribute 66 = .ok (.getfield 37, 3) := by decide +kernel
theorem dX6_distribute_69 : decode cX6_distribute 69 = .ok (.invokevirtual 261, 3) := by decide +kernel
theorem dX6_distribute_72 : decode cX6_distribute 72 = .ok (.ireturn, 1) := by decide +kernel
set_option maxRecDepth 20000 in
theorem ggX6_digest_X5_settle : GoodIn wsX6_digest wsX5_settle := goodIn_r _ [9, 10, 11, 12, 13, 14, 8, 15, 16, 17, 18, 19, 20, 21, 22, 23, 24, 25, 26, 27, 28, 29, 30, 31, 32, 33, 34, 35, 36, 37, 38, 39, 40, 41, 42, 43, 44, 45, 46, 47, 48, 49, 50, 51, 52, 53, 54, 55, 56, 177, 178, 173, 174, 175, 176, 179, 180, 181, 182, 183, 184] (by decide +kernel) (by decide +kernel)
set_option maxRecDepth 20000 in
theorem gX6_digest_X5_settle : GoodIn wsX6_digest (wsV RX6 231 RX5 yX5_settle wsX5_settle) := goodIn_app (goodIn_of _ (by decide +kernel)) ggX6_digest_X5_settle
set_option maxRecDepth 20000 in
theorem ggX6_digest_X6_mix : GoodIn wsX6_digest wsX6_mix := goodIn_r _ [60, 61] (by decide +kernel) (by decide +kernel)
set_option maxRecDepth 20000 in
theorem gX6_digest_X6_mix : GoodIn wsX6_digest (va_wsS RX6 266 yX6_mix wsX6_mix) := goodIn_app (goodIn_of _ (by decide +kernel)) ggX6_digest_X6_mix
set_option maxRecDepth 20000 in
theorem ggX6_digest_X6_mixDimensions : GoodIn wsX6_digest wsX6_mixDimensions := goodIn_r _ [65, 66, 67, 68, 69, 70, 71, 72, 3, 73, 57, 58, 59, 60, 61, 165, 166, 167, 168, 169, 170, 171, 172, 179, 180, 181, 182, 183, 184, 173, 174, 175, 176] (by decide +kernel) (by decide +kernel)
set_option maxRecDepth 20000 in
theorem gX6_digest_X6_mixDimensions : GoodIn wsX6_digest (wsV RX6 270 RX6 yX6_mixDimensions wsX6_mixDimensions) := goodIn_app (goodIn_of _ (by decide +kernel)) ggX6_digest_X6_mixDimensions
set_option maxRecDepth 20000 in
theorem ggX6_digest_X6_mixParts : GoodIn wsX6_digest wsX6_mixParts := goodIn_r _ [77, 3, 4, 78, 57, 58, 59, 60, 61, 165, 166, 167, 168, 169, 170, 171, 172, 173, 174, 175, 176] (by decide +kernel) (by decide +kernel)
set_option maxRecDepth 20000 in
theorem gX6_digest_X6_mixParts : GoodIn wsX6_digest (wsV RX6 274 RX6 yX6_mixParts wsX6_mixParts) := goodIn_app (goodIn_of _ (by decide +kernel)) ggX6_digest_X6_mixParts
set_option maxRecDepth 20000 in
theorem ggX6_digest_X6_contradictions : GoodIn wsX6_digest wsX6_contradictions := goodIn_r _ [82, 66, 67, 3, 73, 83, 84, 85, 59, 86, 87, 68, 69, 88, 89, 90, 91, 92, 93, 94, 95, 96, 97, 98, 99, 100, 101, 102, 103, 104, 105, 106, 107, 108, 109, 23, 24, 25, 110, 111, 112, 113, 114, 115, 116, 117, 118, 119, 120, 121, 122, 45, 46, 32, 47, 34, 48, 123, 30, 31, 33, 35, 124, 125, 165, 166, 167, 168, 169, 170, 171, 172, 179, 180, 181, 182, 183, 184, 173, 174, 175, 176, 185, 186, 187, 188, 189, 190, 191, 192] (by decide +kernel) (by decide +kernel)
set_option maxRecDepth 20000 in
theorem gX6_digest_X6_contradictions : GoodIn wsX6_digest (wsV RX6 277 RX6 yX6_contradictions wsX6_contradictions) := goodIn_app (goodIn_of _ (by decide +kernel)) ggX6_digest_X6_contradictions
set_option maxRecDepth 20000 in
theorem ggX6_digest_X6_mixGaps : GoodIn wsX6_digest wsX6_mixGaps := goodIn_r _ [129, 3, 4, 87, 1, 90, 91, 92, 93, 94, 95, 96, 97, 98, 99, 100, 101, 102, 103, 104, 105, 106, 107, 108, 109, 23, 24, 25, 110, 111, 112, 113, 114, 115, 116, 117, 118, 119, 120, 121, 122, 45, 46, 32, 47, 34, 48, 123, 30, 31, 33, 35, 130, 131, 132, 59, 133, 134, 88, 89, 57, 58, 60, 61, 135, 136, 137, 138, 139, 140, 141, 142, 143, 144, 145, 146, 147, 148, 149, 150, 151, 152, 153, 8, 154, 16, 26, 27, 28, 155, 156, 157, 158, 165, 166, 167, 168, 169, 170, 171, 172, 173, 174, 175, 176, 185, 186, 187, 188, 189, 190, 191, 192, 179, 180, 181, 182, 183, 184, 177, 178] (by decide +kernel) (by decide +kernel)
set_option maxRecDepth 20000 in
theorem gX6_digest_X6_mixGaps : GoodIn wsX6_digest (wsV RX6 280 RX6 yX6_mixGaps wsX6_mixGaps) := goodIn_app (goodIn_of _ (by decide +kernel)) ggX6_digest_X6_mixGaps
set_option maxRecDepth 20000 in
theorem ggX6_digest_X6_mixInput : GoodIn wsX6_digest wsX6_mixInput := goodIn_r _ [162, 163, 164, 57, 58, 59, 60, 61, 165, 166, 167, 168, 169, 170, 171, 172] (by decide +kernel) (by decide +kernel)
set_option maxRecDepth 20000 in
theorem gX6_digest_X6_mixInput : GoodIn wsX6_digest (wsV RX6 284 RX6 yX6_mixInput wsX6_mixInput) := goodIn_app (goodIn_of _ (by decide +kernel)) ggX6_digest_X6_mixInput
theorem dX6_digest_0 : decode cX6_digest 0 = .ok (.aload_n 0, 1) := by decide +kernel
theorem dX6_digest_1 : decode cX6_digest 1 = .ok (.getfield 44, 3) := by decide +kernel
theorem dX6_digest_4 : decode cX6_digest 4 = .ok (.invokevirtual 231, 3) := by decide +kernel
theorem dX6_digest_7 : decode cX6_digest 7 = .ok (.istore_n 1, 1) := by decide +kernel
theorem dX6_digest_8 : decode cX6_digest 8 = .ok (.ldc2_w 264, 3) := by decide +kernel
theorem dX6_digest_11 : decode cX6_digest 11 = .ok (.aload_n 0, 1) := by decide +kernel
theorem dX6_digest_12 : decode cX6_digest 12 = .ok (.getfield 14, 3) := by decide +kernel
theorem dX6_digest_15 : decode cX6_digest 15 = .ok (.getfield 155, 3) := by decide +kernel
theorem dX6_digest_18 : decode cX6_digest 18 = .ok (.i2l, 1) := by decide +kernel
theorem dX6_digest_19 : decode cX6_digest 19 = .ok (.invokestatic 266, 3) := by decide +kernel
theorem dX6_digest_22 : decode cX6_digest 22 = .ok (.lstore_n 2, 1) := by decide +kernel
theorem dX6_digest_23 : decode cX6_digest 23 = .ok (.aload_n 0, 1) := by decide +kernel
theorem dX6_digest_24 : decode cX6_digest 24 = .ok (.lload_n 2, 1) := by decide +kernel
theorem dX6_digest_25 : decode cX6_digest 25 = .ok (.invokevirtual 270, 3) := by decide +kernel
theorem dX6_digest_28 : decode cX6_digest 28 = .ok (.lstore_n 2, 1) := by decide +kernel
theorem dX6_digest_29 : decode cX6_digest 29 = .ok (.aload_n 0, 1) := by decide +kernel
theorem dX6_digest_30 : decode cX6_digest 30 = .ok (.lload_n 2, 1) := by decide +kernel
theorem dX6_digest_31 : decode cX6_digest 31 = .ok (.invokevirtual 274, 3) := by decide +kernel
theorem dX6_digest_34 : decode cX6_digest 34 = .ok (.lstore_n 2, 1) := by decide +kernel
theorem dX6_digest_35 : decode cX6_digest 35 = .ok (.lload_n 2, 1) := by decide +kernel
theorem dX6_digest_36 : decode cX6_digest 36 = .ok (.aload_n 0, 1) := by decide +kernel
theorem dX6_digest_37 : decode cX6_digest 37 = .ok (.invokevirtual 277, 3) := by decide +kernel
theorem dX6_digest_40 : decode cX6_digest 40 = .ok (.i2l, 1) := by decide +kernel
theorem dX6_digest_41 : decode cX6_digest 41 = .ok (.invokestatic 266, 3) := by decide +kernel
theorem dX6_digest_44 : decode cX6_digest 44 = .ok (.lstore_n 2, 1) := by decide +kernel
theorem dX6_digest_45 : decode cX6_digest 45 = .ok (.lload_n 2, 1) := by decide +kernel
theorem dX6_digest_46 : decode cX6_digest 46 = .ok (.iload_n 1, 1) := by decide +kernel
theorem dX6_digest_47 : decode cX6_digest 47 = .ok (.ifCond .eq 7, 3) := by decide +kernel
theorem dX6_digest_50 : decode cX6_digest 50 = .ok (.lconst 1, 1) := by decide +kernel
theorem dX6_digest_51 : decode cX6_digest 51 = .ok (.goto 4, 3) := by decide +kernel
theorem dX6_digest_54 : decode cX6_digest 54 = .ok (.lconst 0, 1) := by decide +kernel
theorem dX6_digest_55 : decode cX6_digest 55 = .ok (.invokestatic 266, 3) := by decide +kernel
theorem dX6_digest_58 : decode cX6_digest 58 = .ok (.lstore_n 2, 1) := by decide +kernel
theorem dX6_digest_59 : decode cX6_digest 59 = .ok (.aload_n 0, 1) := by decide +kernel
theorem dX6_digest_60 : decode cX6_digest 60 = .ok (.lload_n 2, 1) := by decide +kernel
theorem dX6_digest_61 : decode cX6_digest 61 = .ok (.iload_n 1, 1) := by decide +kernel
theorem dX6_digest_62 : decode cX6_digest 62 = .ok (.invokevirtual 280, 3) := by decide +kernel
theorem dX6_digest_65 : decode cX6_digest 65 = .ok (.lstore_n 2, 1) := by decide +kernel
theorem dX6_digest_66 : decode cX6_digest 66 = .ok (.aload_n 0, 1) := by decide +kernel
theorem dX6_digest_67 : decode cX6_digest 67 = .ok (.lload_n 2, 1) := by decide +kernel
theorem dX6_digest_68 : decode cX6_digest 68 = .ok (.invokevirtual 284, 3) := by decide +kernel
theorem dX6_digest_71 : decode cX6_digest 71 = .ok (.lreturn, 1) := by decide +kernel
theorem dX6_needFace_0 : decode cX6_needFace 0 = .ok (.iload_n 1, 1) := by decide +kernel
theorem dX6_needFace_1 : decode cX6_needFace 1 = .ok (.ifCond .lt 14, 3) := by decide +kernel
theorem dX6_needFace_4 : decode cX6_needFace 4 = .ok (.iload_n 1, 1) := by decide +kernel
theorem dX6_needFace_5 : decode cX6_needFace 5 = .ok (.aload_n 0, 1) := by decide +kernel
theorem dX6_needFace_6 : decode cX6_needFace 6 = .ok (.getfield 14, 3) := by decide +kernel
theorem dX6_needFace_9 : decode cX6_needFace 9 = .ok (.getfield 155, 3) := by decide +kernel
theorem dX6_needFace_12 : decode cX6_needFace 12 = .ok (.if_icmp .lt 14, 3) := by decide +kernel
theorem dX6_needFace_15 : decode cX6_needFace 15 = .ok (.new 193, 3) := by decide +kernel
theorem dX6_needFace_18 : decode cX6_needFace 18 = .ok (.dup, 1) := by decide +kernel
theorem dX6_needFace_19 : decode cX6_needFace 19 = .ok (.ldc_w 287, 3) := by decide +kernel
theorem dX6_needFace_22 : decode cX6_needFace 22 = .ok (.invokespecial 197, 3) := by decide +kernel
theorem dX6_needFace_25 : decode cX6_needFace 25 = .ok (.athrow, 1) := by decide +kernel
theorem dX6_needFace_26 : decode cX6_needFace 26 = .ok (.return_, 1) := by decide +kernel
set_option maxRecDepth 20000 in
theorem ggX6_needFaces_X6_needFace : GoodIn wsX6_needFaces wsX6_needFace := goodIn_ca (goodIn_r _ [5, 6, 7, 8, 9, 10, 11, 12, 13, 14, 15, 16, 17, 18, 19, 20, 21] (by decide +kernel) (by decide +kernel)) (goodIn_sub (fun _ h => List.mem_cons_of_mem _ (List.mem_append_right _ h)) (by decide +kernel))
set_option maxRecDepth 20000 in
theorem gX6_needFaces_X6_needFace : GoodIn wsX6_needFaces (wsV RX6 181 RX6 yX6_needFace wsX6_needFace) := goodIn_app (goodIn_of _ (by decide +kernel)) ggX6_needFaces_X6_needFace
theorem dX6_needFaces_0 : decode cX6_needFaces 0 = .ok (.aload_n 0, 1) := by decide +kernel
theorem dX6_needFaces_1 : decode cX6_needFaces 1 = .ok (.iload_n 1, 1) := by decide +kernel
theorem dX6_needFaces_2 : decode cX6_needFaces 2 = .ok (.invokevirtual 181, 3) := by decide +kernel
theorem dX6_needFaces_5 : decode cX6_needFaces 5 = .ok (.aload_n 0, 1) := by decide +kernel
theorem dX6_needFaces_6 : decode cX6_needFaces 6 = .ok (.iload_n 2, 1) := by decide +kernel
theorem dX6_needFaces_7 : decode cX6_needFaces 7 = .ok (.invokevirtual 181, 3) := by decide +kernel
theorem dX6_needFaces_10 : decode cX6_needFaces 10 = .ok (.return_, 1) := by decide +kernel
theorem dX6_needDimension_0 : decode cX6_needDimension 0 = .ok (.iload_n 1, 1) := by decide +kernel
theorem dX6_needDimension_1 : decode cX6_needDimension 1 = .ok (.ifCond .lt 14, 3) := by decide +kernel
theorem dX6_needDimension_4 : decode cX6_needDimension 4 = .ok (.iload_n 1, 1) := by decide +kernel
theorem dX6_needDimension_5 : decode cX6_needDimension 5 = .ok (.aload_n 0, 1) := by decide +kernel
theorem dX6_needDimension_6 : decode cX6_needDimension 6 = .ok (.getfield 22, 3) := by decide +kernel
theorem dX6_needDimension_9 : decode cX6_needDimension 9 = .ok (.getfield 70, 3) := by decide +kernel
theorem dX6_needDimension_12 : decode cX6_needDimension 12 = .ok (.if_icmp .lt 13, 3) := by decide +kernel
theorem dX6_needDimension_15 : decode cX6_needDimension 15 = .ok (.new 193, 3) := by decide +kernel
theorem dX6_needDimension_18 : decode cX6_needDimension 18 = .ok (.dup, 1) := by decide +kernel
theorem dX6_needDimension_19 : decode cX6_needDimension 19 = .ok (.ldc 90, 2) := by decide +kernel
theorem dX6_needDimension_21 : decode cX6_needDimension 21 = .ok (.invokespecial 197, 3) := by decide +kernel
theorem dX6_needDimension_24 : decode cX6_needDimension 24 = .ok (.athrow, 1) := by decide +kernel
theorem dX6_needDimension_25 : decode cX6_needDimension 25 = .ok (.return_, 1) := by decide +kernel
set_option maxRecDepth 20000 in
theorem ggX6_needChain_X0_find : GoodIn wsX6_needChain wsX0_find := goodIn_r _ [8, 9, 10, 11, 12, 13, 14, 15, 16, 17, 18, 7, 19, 20, 21, 22, 23, 24, 25, 26, 27, 28, 29, 30, 31, 32, 33, 34, 35, 36, 37, 38, 39, 40, 41, 42, 43, 44, 45, 46, 47, 48, 49, 50, 59, 60, 61, 62, 63, 64, 65, 66, 67, 68, 69, 70, 71, 72, 73, 74, 75, 76] (by decide +kernel) (by decide +kernel)
set_option maxRecDepth 20000 in
theorem gX6_needChain_X0_find : GoodIn wsX6_needChain (wsV RX6 187 RX0 yX0_find wsX0_find) := goodIn_app (goodIn_of _ (by decide +kernel)) ggX6_needChain_X0_find
theorem dX6_needChain_0 : decode cX6_needChain 0 = .ok (.aload_n 0, 1) := by decide +kernel
theorem dX6_needChain_1 : decode cX6_needChain 1 = .ok (.getfield 28, 3) := by decide +kernel
theorem dX6_needChain_4 : decode cX6_needChain 4 = .ok (.iload_n 1, 1) := by decide +kernel
theorem dX6_needChain_5 : decode cX6_needChain 5 = .ok (.iload_n 2, 1) := by decide +kernel
theorem dX6_needChain_6 : decode cX6_needChain 6 = .ok (.invokevirtual 187, 3) := by decide +kernel
theorem dX6_needChain_9 : decode cX6_needChain 9 = .ok (.ifCond .ne 13, 3) := by decide +kernel
theorem dX6_needChain_12 : decode cX6_needChain 12 = .ok (.new 92, 3) := by decide +kernel
theorem dX6_needChain_15 : decode cX6_needChain 15 = .ok (.dup, 1) := by decide +kernel
theorem dX6_needChain_16 : decode cX6_needChain 16 = .ok (.ldc 234, 2) := by decide +kernel
theorem dX6_needChain_18 : decode cX6_needChain 18 = .ok (.invokespecial 96, 3) := by decide +kernel
theorem dX6_needChain_21 : decode cX6_needChain 21 = .ok (.athrow, 1) := by decide +kernel
theorem dX6_needChain_22 : decode cX6_needChain 22 = .ok (.return_, 1) := by decide +kernel
theorem dX6_isNominal_0 : decode cX6_isNominal 0 = .ok (.iload_n 0, 1) := by decide +kernel
theorem dX6_isNominal_1 : decode cX6_isNominal 1 = .ok (.ldc_w 289, 3) := by decide +kernel
theorem dX6_isNominal_4 : decode cX6_isNominal 4 = .ok (.if_icmp .lt 14, 3) := by decide +kernel
theorem dX6_isNominal_7 : decode cX6_isNominal 7 = .ok (.iload_n 0, 1) := by decide +kernel
theorem dX6_isNominal_8 : decode cX6_isNominal 8 = .ok (.ldc_w 290, 3) := by decide +kernel
theorem dX6_isNominal_11 : decode cX6_isNominal 11 = .ok (.if_icmp .gt 7, 3) := by decide +kernel
theorem dX6_isNominal_14 : decode cX6_isNominal 14 = .ok (.iconst 1, 1) := by decide +kernel
theorem dX6_isNominal_15 : decode cX6_isNominal 15 = .ok (.goto 4, 3) := by decide +kernel
theorem dX6_isNominal_18 : decode cX6_isNominal 18 = .ok (.iconst 0, 1) := by decide +kernel
theorem dX6_isNominal_19 : decode cX6_isNominal 19 = .ok (.ireturn, 1) := by decide +kernel
theorem dX6_areDeviations_0 : decode cX6_areDeviations 0 = .ok (.iload_n 0, 1) := by decide +kernel
theorem dX6_areDeviations_1 : decode cX6_areDeviations 1 = .ok (.sipush (-999), 3) := by decide +kernel
theorem dX6_areDeviations_4 : decode cX6_areDeviations 4 = .ok (.if_icmp .lt 19, 3) := by decide +kernel
theorem dX6_areDeviations_7 : decode cX6_areDeviations 7 = .ok (.iload_n 0, 1) := by decide +kernel
theorem dX6_areDeviations_8 : decode cX6_areDeviations 8 = .ok (.iload_n 1, 1) := by decide +kernel
theorem dX6_areDeviations_9 : decode cX6_areDeviations 9 = .ok (.if_icmp .gt 14, 3) := by decide +kernel
theorem dX6_areDeviations_12 : decode cX6_areDeviations 12 = .ok (.iload_n 1, 1) := by decide +kernel
theorem dX6_areDeviations_13 : decode cX6_areDeviations 13 = .ok (.sipush 999, 3) := by decide +kernel
theorem dX6_areDeviations_16 : decode cX6_areDeviations 16 = .ok (.if_icmp .gt 7, 3) := by decide +kernel
theorem dX6_areDeviations_19 : decode cX6_areDeviations 19 = .ok (.iconst 1, 1) := by decide +kernel
theorem dX6_areDeviations_20 : decode cX6_areDeviations 20 = .ok (.goto 4, 3) := by decide +kernel
theorem dX6_areDeviations_23 : decode cX6_areDeviations 23 = .ok (.iconst 0, 1) := by decide +kernel
theorem dX6_areDeviations_24 : decode cX6_areDeviations 24 = .ok (.ireturn, 1) := by decide +kernel
set_option maxRecDepth 20000 in
theorem ggX6_applyTolerances_X6_toleranceColumn : GoodIn wsX6_applyTolerances wsX6_toleranceColumn := goodIn_r _ [9, 10, 11, 12, 13, 14] (by decide +kernel) (by decide +kernel)
set_option maxRecDepth 20000 in
theorem gX6_applyTolerances_X6_toleranceColumn : GoodIn wsX6_applyTolerances (va_wsS RX6 291 yX6_toleranceColumn wsX6_toleranceColumn) := goodIn_app (goodIn_of _ (by decide +kernel)) ggX6_applyTolerances_X6_toleranceColumn
theorem dX6_applyTolerances_0 : decode cX6_applyTolerances 0 = .ok (.iconst 0, 1) := by decide +kernel
theorem dX6_applyTolerances_1 : decode cX6_applyTolerances 1 = .ok (.istore_n 2, 1) := by decide +kernel
theorem dX6_applyTolerances_2 : decode cX6_applyTolerances 2 = .ok (.iconst 0, 1) := by decide +kernel
theorem dX6_applyTolerances_3 : decode cX6_applyTolerances 3 = .ok (.istore_n 3, 1) := by decide +kernel
theorem dX6_applyTolerances_4 : decode cX6_applyTolerances 4 = .ok (.iload_n 3, 1) := by decide +kernel
theorem dX6_applyTolerances_5 : decode cX6_applyTolerances 5 = .ok (.aload_n 0, 1) := by decide +kernel
theorem dX6_applyTolerances_6 : decode cX6_applyTolerances 6 = .ok (.getfield 22, 3) := by decide +kernel
theorem dX6_applyTolerances_9 : decode cX6_applyTolerances 9 = .ok (.getfield 70, 3) := by decide +kernel
theorem dX6_applyTolerances_12 : decode cX6_applyTolerances 12 = .ok (.if_icmp .ge 75, 3) := by decide +kernel
theorem dX6_applyTolerances_15 : decode cX6_applyTolerances 15 = .ok (.aload_n 0, 1) := by decide +kernel
theorem dX6_applyTolerances_16 : decode cX6_applyTolerances 16 = .ok (.getfield 22, 3) := by decide +kernel
theorem dX6_applyTolerances_19 : decode cX6_applyTolerances 19 = .ok (.getfield 116, 3) := by decide +kernel
theorem dX6_applyTolerances_22 : decode cX6_applyTolerances 22 = .ok (.iload_n 3, 1) := by decide +kernel
theorem dX6_applyTolerances_23 : decode cX6_applyTolerances 23 = .ok (.iaload, 1) := by decide +kernel
theorem dX6_applyTolerances_24 : decode cX6_applyTolerances 24 = .ok (.ifCond .ne 57, 3) := by decide +kernel
theorem dX6_applyTolerances_27 : decode cX6_applyTolerances 27 = .ok (.aload_n 0, 1) := by decide +kernel
theorem dX6_applyTolerances_28 : decode cX6_applyTolerances 28 = .ok (.getfield 22, 3) := by decide +kernel
theorem dX6_applyTolerances_31 : decode cX6_applyTolerances 31 = .ok (.getfield 119, 3) := by decide +kernel
theorem dX6_applyTolerances_34 : decode cX6_applyTolerances 34 = .ok (.iload_n 3, 1) := by decide +kernel
theorem dX6_applyTolerances_35 : decode cX6_applyTolerances 35 = .ok (.iaload, 1) := by decide +kernel
theorem dX6_applyTolerances_36 : decode cX6_applyTolerances 36 = .ok (.ifCond .ne 45, 3) := by decide +kernel
theorem dX6_applyTolerances_39 : decode cX6_applyTolerances 39 = .ok (.aload_n 1, 1) := by decide +kernel
theorem dX6_applyTolerances_40 : decode cX6_applyTolerances 40 = .ok (.aload_n 0, 1) := by decide +kernel
theorem dX6_applyTolerances_41 : decode cX6_applyTolerances 41 = .ok (.getfield 22, 3) := by decide +kernel
theorem dX6_applyTolerances_44 : decode cX6_applyTolerances 44 = .ok (.getfield 146, 3) := by decide +kernel
theorem dX6_applyTolerances_47 : decode cX6_applyTolerances 47 = .ok (.iload_n 3, 1) := by decide +kernel
theorem dX6_applyTolerances_48 : decode cX6_applyTolerances 48 = .ok (.iaload, 1) := by decide +kernel
theorem dX6_applyTolerances_49 : decode cX6_applyTolerances 49 = .ok (.invokestatic 291, 3) := by decide +kernel
theorem dX6_applyTolerances_52 : decode cX6_applyTolerances 52 = .ok (.iaload, 1) := by decide +kernel
theorem dX6_applyTolerances_53 : decode cX6_applyTolerances 53 = .ok (.istore 4, 2) := by decide +kernel
theorem dX6_applyTolerances_55 : decode cX6_applyTolerances 55 = .ok (.aload_n 0, 1) := by decide +kernel
theorem dX6_applyTolerances_56 : decode cX6_applyTolerances 56 = .ok (.getfield 22, 3) := by decide +kernel
theorem dX6_applyTolerances_59 : decode cX6_applyTolerances 59 = .ok (.getfield 116, 3) := by decide +kernel
theorem dX6_applyTolerances_62 : decode cX6_applyTolerances 62 = .ok (.iload_n 3, 1) := by decide +kernel
theorem dX6_applyTolerances_63 : decode cX6_applyTolerances 63 = .ok (.iload 4, 2) := by decide +kernel
theorem dX6_applyTolerances_65 : decode cX6_applyTolerances 65 = .ok (.ineg, 1) := by decide +kernel
theorem dX6_applyTolerances_66 : decode cX6_applyTolerances 66 = .ok (.iastore, 1) := by decide +kernel
theorem dX6_applyTolerances_67 : decode cX6_applyTolerances 67 = .ok (.aload_n 0, 1) := by decide +kernel
theorem dX6_applyTolerances_68 : decode cX6_applyTolerances 68 = .ok (.getfield 22, 3) := by decide +kernel
theorem dX6_applyTolerances_71 : decode cX6_applyTolerances 71 = .ok (.getfield 119, 3) := by decide +kernel
theorem dX6_applyTolerances_74 : decode cX6_applyTolerances 74 = .ok (.iload_n 3, 1) := by decide +kernel
theorem dX6_applyTolerances_75 : decode cX6_applyTolerances 75 = .ok (.iload 4, 2) := by decide +kernel
theorem dX6_applyTolerances_77 : decode cX6_applyTolerances 77 = .ok (.iastore, 1) := by decide +kernel
theorem dX6_applyTolerances_78 : decode cX6_applyTolerances 78 = .ok (.iinc 2 1, 3) := by decide +kernel
theorem dX6_applyTolerances_81 : decode cX6_applyTolerances 81 = .ok (.iinc 3 1, 3) := by decide +kernel
theorem dX6_applyTolerances_84 : decode cX6_applyTolerances 84 = .ok (.goto (-80), 3) := by decide +kernel
theorem dX6_applyTolerances_87 : decode cX6_applyTolerances 87 = .ok (.iload_n 2, 1) := by decide +kernel
theorem dX6_applyTolerances_88 : decode cX6_applyTolerances 88 = .ok (.ireturn, 1) := by decide +kernel
theorem dX6_toleranceColumn_0 : decode cX6_toleranceColumn 0 = .ok (.iload_n 0, 1) := by decide +kernel
theorem dX6_toleranceColumn_1 : decode cX6_toleranceColumn 1 = .ok (.invokestatic 294, 3) := by decide +kernel
theorem dX6_toleranceColumn_4 : decode cX6_toleranceColumn 4 = .ok (.istore_n 1, 1) := by decide +kernel
theorem dX6_toleranceColumn_5 : decode cX6_toleranceColumn 5 = .ok (.iconst 0, 1) := by decide +kernel
theorem dX6_toleranceColumn_6 : decode cX6_toleranceColumn 6 = .ok (.istore_n 2, 1) := by decide +kernel
theorem dX6_toleranceColumn_7 : decode cX6_toleranceColumn 7 = .ok (.iload_n 2, 1) := by decide +kernel
theorem dX6_toleranceColumn_8 : decode cX6_toleranceColumn 8 = .ok (.getstatic 299, 3) := by decide +kernel
theorem dX6_toleranceColumn_11 : decode cX6_toleranceColumn 11 = .ok (.arraylength, 1) := by decide +kernel
theorem dX6_toleranceColumn_12 : decode cX6_toleranceColumn 12 = .ok (.if_icmp .ge 18, 3) := by decide +kernel
theorem dX6_toleranceColumn_15 : decode cX6_toleranceColumn 15 = .ok (.iload_n 1, 1) := by decide +kernel
theorem dX6_toleranceColumn_16 : decode cX6_toleranceColumn 16 = .ok (.getstatic 299, 3) := by decide +kernel
theorem dX6_toleranceColumn_19 : decode cX6_toleranceColumn 19 = .ok (.iload_n 2, 1) := by decide +kernel
theorem dX6_toleranceColumn_20 : decode cX6_toleranceColumn 20 = .ok (.iaload, 1) := by decide +kernel
theorem dX6_toleranceColumn_21 : decode cX6_toleranceColumn 21 = .ok (.if_icmp .le 9, 3) := by decide +kernel
theorem dX6_toleranceColumn_24 : decode cX6_toleranceColumn 24 = .ok (.iinc 2 1, 3) := by decide +kernel
theorem dX6_toleranceColumn_27 : decode cX6_toleranceColumn 27 = .ok (.goto (-20), 3) := by decide +kernel
theorem dX6_toleranceColumn_30 : decode cX6_toleranceColumn 30 = .ok (.iload_n 2, 1) := by decide +kernel
theorem dX6_toleranceColumn_31 : decode cX6_toleranceColumn 31 = .ok (.ireturn, 1) := by decide +kernel
set_option maxRecDepth 20000 in
theorem ggX6_contradictsChain_X0_find : GoodIn wsX6_contradictsChain wsX0_find := goodIn_r _ [11, 12, 13, 14, 15, 16, 17, 18, 19, 20, 21, 10, 22, 23, 24, 25, 26, 27, 28, 29, 30, 31, 32, 33, 34, 35, 36, 37, 38, 39, 40, 41, 42, 43, 44, 45, 46, 47, 48, 49, 50, 51, 52, 53, 70, 71, 72, 73, 74, 75, 76, 77, 78, 79, 80, 81, 64, 65, 66, 67, 68, 69] (by decide +kernel) (by decide +kernel)
set_option maxRecDepth 20000 in
theorem gX6_contradictsChain_X0_find : GoodIn wsX6_contradictsChain (wsV RX6 187 RX0 yX0_find wsX0_find) := goodIn_app (goodIn_of _ (by decide +kernel)) ggX6_contradictsChain_X0_find
set_option maxRecDepth 20000 in
theorem ggX6_contradictsChain_X1_greatestLimit : GoodIn wsX6_contradictsChain wsX1_greatestLimit := goodIn_r _ [52, 47, 53, 64, 65, 66, 67, 68, 69] (by decide +kernel) (by decide +kernel)
set_option maxRecDepth 20000 in
theorem gX6_contradictsChain_X1_greatestLimit : GoodIn wsX6_contradictsChain (wsV RX6 302 RX1 yX1_greatestLimit wsX1_greatestLimit) := goodIn_app (goodIn_of _ (by decide +kernel)) ggX6_contradictsChain_X1_greatestLimit
set_option maxRecDepth 20000 in
theorem ggX6_contradictsChain_X1_leastLimit : GoodIn wsX6_contradictsChain wsX1_leastLimit := goodIn_r _ [46, 47, 48, 64, 65, 66, 67, 68, 69] (by decide +kernel) (by decide +kernel)
set_option maxRecDepth 20000 in
theorem gX6_contradictsChain_X1_leastLimit : GoodIn wsX6_contradictsChain (wsV RX6 305 RX1 yX1_leastLimit wsX1_leastLimit) := goodIn_app (goodIn_of _ (by decide +kernel)) ggX6_contradictsChain_X1_leastLimit
theorem dX6_contradictsChain_0 : decode cX6_contradictsChain 0 = .ok (.aload_n 0, 1) := by decide +kernel
theorem dX6_contradictsChain_1 : decode cX6_contradictsChain 1 = .ok (.getfield 28, 3) := by decide +kernel
theorem dX6_contradictsChain_4 : decode cX6_contradictsChain 4 = .ok (.aload_n 0, 1) := by decide +kernel
theorem dX6_contradictsChain_5 : decode cX6_contradictsChain 5 = .ok (.getfield 22, 3) := by decide +kernel
theorem dX6_contradictsChain_8 : decode cX6_contradictsChain 8 = .ok (.getfield 140, 3) := by decide +kernel
theorem dX6_contradictsChain_11 : decode cX6_contradictsChain 11 = .ok (.iload_n 1, 1) := by decide +kernel
theorem dX6_contradictsChain_12 : decode cX6_contradictsChain 12 = .ok (.iaload, 1) := by decide +kernel
theorem dX6_contradictsChain_13 : decode cX6_contradictsChain 13 = .ok (.aload_n 0, 1) := by decide +kernel
theorem dX6_contradictsChain_14 : decode cX6_contradictsChain 14 = .ok (.getfield 22, 3) := by decide +kernel
theorem dX6_contradictsChain_17 : decode cX6_contradictsChain 17 = .ok (.getfield 143, 3) := by decide +kernel
theorem dX6_contradictsChain_20 : decode cX6_contradictsChain 20 = .ok (.iload_n 1, 1) := by decide +kernel
theorem dX6_contradictsChain_21 : decode cX6_contradictsChain 21 = .ok (.iaload, 1) := by decide +kernel
theorem dX6_contradictsChain_22 : decode cX6_contradictsChain 22 = .ok (.invokevirtual 187, 3) := by decide +kernel
theorem dX6_contradictsChain_25 : decode cX6_contradictsChain 25 = .ok (.pop, 1) := by decide +kernel
theorem dX6_contradictsChain_26 : decode cX6_contradictsChain 26 = .ok (.aload_n 0, 1) := by decide +kernel
theorem dX6_contradictsChain_27 : decode cX6_contradictsChain 27 = .ok (.getfield 22, 3) := by decide +kernel
theorem dX6_contradictsChain_30 : decode cX6_contradictsChain 30 = .ok (.iload_n 1, 1) := by decide +kernel
