theorem dX6_contradictsChain_31 : decode cX6_contradictsChain 31 = .ok (.invokevirtual 302, 3) := by decide +kernel
theorem dX6_contradictsChain_34 : decode cX6_contradictsChain 34 = .ok (.aload_n 0, 1) := by decide +kernel
theorem dX6_contradictsChain_35 : decode cX6_contradictsChain 35 = .ok (.getfield 28, 3) := by decide +kernel
theorem dX6_contradictsChain_38 : decode cX6_contradictsChain 38 = .ok (.getfield 208, 3) := by decide +kernel
theorem dX6_contradictsChain_41 : decode cX6_contradictsChain 41 = .ok (.if_icmp .lt 21, 3) := by decide +kernel
theorem dX6_contradictsChain_44 : decode cX6_contradictsChain 44 = .ok (.aload_n 0, 1) := by decide +kernel
theorem dX6_contradictsChain_45 : decode cX6_contradictsChain 45 = .ok (.getfield 22, 3) := by decide +kernel
theorem dX6_contradictsChain_48 : decode cX6_contradictsChain 48 = .ok (.iload_n 1, 1) := by decide +kernel
theorem dX6_contradictsChain_49 : decode cX6_contradictsChain 49 = .ok (.invokevirtual 305, 3) := by decide +kernel
theorem dX6_contradictsChain_52 : decode cX6_contradictsChain 52 = .ok (.aload_n 0, 1) := by decide +kernel
theorem dX6_contradictsChain_53 : decode cX6_contradictsChain 53 = .ok (.getfield 28, 3) := by decide +kernel
theorem dX6_contradictsChain_56 : decode cX6_contradictsChain 56 = .ok (.getfield 211, 3) := by decide +kernel
theorem dX6_contradictsChain_59 : decode cX6_contradictsChain 59 = .ok (.if_icmp .le 7, 3) := by decide +kernel
theorem dX6_contradictsChain_62 : decode cX6_contradictsChain 62 = .ok (.iconst 1, 1) := by decide +kernel
theorem dX6_contradictsChain_63 : decode cX6_contradictsChain 63 = .ok (.goto 4, 3) := by decide +kernel
theorem dX6_contradictsChain_66 : decode cX6_contradictsChain 66 = .ok (.iconst 0, 1) := by decide +kernel
theorem dX6_contradictsChain_67 : decode cX6_contradictsChain 67 = .ok (.ireturn, 1) := by decide +kernel
theorem dX6_mix_0 : decode cX6_mix 0 = .ok (.ldc2_w 308, 3) := by decide +kernel
theorem dX6_mix_3 : decode cX6_mix 3 = .ok (.lload_n 0, 1) := by decide +kernel
theorem dX6_mix_4 : decode cX6_mix 4 = .ok (.lmul, 1) := by decide +kernel
theorem dX6_mix_5 : decode cX6_mix 5 = .ok (.lload_n 2, 1) := by decide +kernel
theorem dX6_mix_6 : decode cX6_mix 6 = .ok (.ladd, 1) := by decide +kernel
theorem dX6_mix_7 : decode cX6_mix 7 = .ok (.lreturn, 1) := by decide +kernel
set_option maxRecDepth 20000 in
theorem ggX6_mixDimensions_X6_mix : GoodIn wsX6_mixDimensions wsX6_mix := goodIn_r _ [13, 14] (by decide +kernel) (by decide +kernel)
set_option maxRecDepth 20000 in
theorem gX6_mixDimensions_X6_mix : GoodIn wsX6_mixDimensions (va_wsS RX6 266 yX6_mix wsX6_mix) := goodIn_app (goodIn_of _ (by decide +kernel)) ggX6_mixDimensions_X6_mix
theorem dX6_mixDimensions_0 : decode cX6_mixDimensions 0 = .ok (.lload_n 1, 1) := by decide +kernel
theorem dX6_mixDimensions_1 : decode cX6_mixDimensions 1 = .ok (.aload_n 0, 1) := by decide +kernel
theorem dX6_mixDimensions_2 : decode cX6_mixDimensions 2 = .ok (.getfield 22, 3) := by decide +kernel
theorem dX6_mixDimensions_5 : decode cX6_mixDimensions 5 = .ok (.getfield 70, 3) := by decide +kernel
theorem dX6_mixDimensions_8 : decode cX6_mixDimensions 8 = .ok (.i2l, 1) := by decide +kernel
theorem dX6_mixDimensions_9 : decode cX6_mixDimensions 9 = .ok (.invokestatic 266, 3) := by decide +kernel
theorem dX6_mixDimensions_12 : decode cX6_mixDimensions 12 = .ok (.lstore_n 3, 1) := by decide +kernel
theorem dX6_mixDimensions_13 : decode cX6_mixDimensions 13 = .ok (.iconst 0, 1) := by decide +kernel
theorem dX6_mixDimensions_14 : decode cX6_mixDimensions 14 = .ok (.istore 5, 2) := by decide +kernel
theorem dX6_mixDimensions_16 : decode cX6_mixDimensions 16 = .ok (.iload 5, 2) := by decide +kernel
theorem dX6_mixDimensions_18 : decode cX6_mixDimensions 18 = .ok (.aload_n 0, 1) := by decide +kernel
theorem dX6_mixDimensions_19 : decode cX6_mixDimensions 19 = .ok (.getfield 22, 3) := by decide +kernel
theorem dX6_mixDimensions_22 : decode cX6_mixDimensions 22 = .ok (.getfield 70, 3) := by decide +kernel
theorem dX6_mixDimensions_25 : decode cX6_mixDimensions 25 = .ok (.if_icmp .ge 112, 3) := by decide +kernel
theorem dX6_mixDimensions_28 : decode cX6_mixDimensions 28 = .ok (.lload_n 3, 1) := by decide +kernel
theorem dX6_mixDimensions_29 : decode cX6_mixDimensions 29 = .ok (.aload_n 0, 1) := by decide +kernel
theorem dX6_mixDimensions_30 : decode cX6_mixDimensions 30 = .ok (.getfield 22, 3) := by decide +kernel
theorem dX6_mixDimensions_33 : decode cX6_mixDimensions 33 = .ok (.getfield 140, 3) := by decide +kernel
theorem dX6_mixDimensions_36 : decode cX6_mixDimensions 36 = .ok (.iload 5, 2) := by decide +kernel
theorem dX6_mixDimensions_38 : decode cX6_mixDimensions 38 = .ok (.iaload, 1) := by decide +kernel
theorem dX6_mixDimensions_39 : decode cX6_mixDimensions 39 = .ok (.i2l, 1) := by decide +kernel
theorem dX6_mixDimensions_40 : decode cX6_mixDimensions 40 = .ok (.invokestatic 266, 3) := by decide +kernel
theorem dX6_mixDimensions_43 : decode cX6_mixDimensions 43 = .ok (.lstore_n 3, 1) := by decide +kernel
theorem dX6_mixDimensions_44 : decode cX6_mixDimensions 44 = .ok (.lload_n 3, 1) := by decide +kernel
theorem dX6_mixDimensions_45 : decode cX6_mixDimensions 45 = .ok (.aload_n 0, 1) := by decide +kernel
theorem dX6_mixDimensions_46 : decode cX6_mixDimensions 46 = .ok (.getfield 22, 3) := by decide +kernel
theorem dX6_mixDimensions_49 : decode cX6_mixDimensions 49 = .ok (.getfield 143, 3) := by decide +kernel
theorem dX6_mixDimensions_52 : decode cX6_mixDimensions 52 = .ok (.iload 5, 2) := by decide +kernel
theorem dX6_mixDimensions_54 : decode cX6_mixDimensions 54 = .ok (.iaload, 1) := by decide +kernel
theorem dX6_mixDimensions_55 : decode cX6_mixDimensions 55 = .ok (.i2l, 1) := by decide +kernel
theorem dX6_mixDimensions_56 : decode cX6_mixDimensions 56 = .ok (.invokestatic 266, 3) := by decide +kernel
theorem dX6_mixDimensions_59 : decode cX6_mixDimensions 59 = .ok (.lstore_n 3, 1) := by decide +kernel
theorem dX6_mixDimensions_60 : decode cX6_mixDimensions 60 = .ok (.lload_n 3, 1) := by decide +kernel
theorem dX6_mixDimensions_61 : decode cX6_mixDimensions 61 = .ok (.aload_n 0, 1) := by decide +kernel
theorem dX6_mixDimensions_62 : decode cX6_mixDimensions 62 = .ok (.getfield 22, 3) := by decide +kernel
theorem dX6_mixDimensions_65 : decode cX6_mixDimensions 65 = .ok (.getfield 146, 3) := by decide +kernel
theorem dX6_mixDimensions_68 : decode cX6_mixDimensions 68 = .ok (.iload 5, 2) := by decide +kernel
theorem dX6_mixDimensions_70 : decode cX6_mixDimensions 70 = .ok (.iaload, 1) := by decide +kernel
theorem dX6_mixDimensions_71 : decode cX6_mixDimensions 71 = .ok (.i2l, 1) := by decide +kernel
theorem dX6_mixDimensions_72 : decode cX6_mixDimensions 72 = .ok (.invokestatic 266, 3) := by decide +kernel
theorem dX6_mixDimensions_75 : decode cX6_mixDimensions 75 = .ok (.lstore_n 3, 1) := by decide +kernel
theorem dX6_mixDimensions_76 : decode cX6_mixDimensions 76 = .ok (.lload_n 3, 1) := by decide +kernel
theorem dX6_mixDimensions_77 : decode cX6_mixDimensions 77 = .ok (.aload_n 0, 1) := by decide +kernel
theorem dX6_mixDimensions_78 : decode cX6_mixDimensions 78 = .ok (.getfield 22, 3) := by decide +kernel
theorem dX6_mixDimensions_81 : decode cX6_mixDimensions 81 = .ok (.getfield 116, 3) := by decide +kernel
theorem dX6_mixDimensions_84 : decode cX6_mixDimensions 84 = .ok (.iload 5, 2) := by decide +kernel
theorem dX6_mixDimensions_86 : decode cX6_mixDimensions 86 = .ok (.iaload, 1) := by decide +kernel
theorem dX6_mixDimensions_87 : decode cX6_mixDimensions 87 = .ok (.i2l, 1) := by decide +kernel
theorem dX6_mixDimensions_88 : decode cX6_mixDimensions 88 = .ok (.invokestatic 266, 3) := by decide +kernel
theorem dX6_mixDimensions_91 : decode cX6_mixDimensions 91 = .ok (.lstore_n 3, 1) := by decide +kernel
theorem dX6_mixDimensions_92 : decode cX6_mixDimensions 92 = .ok (.lload_n 3, 1) := by decide +kernel
theorem dX6_mixDimensions_93 : decode cX6_mixDimensions 93 = .ok (.aload_n 0, 1) := by decide +kernel
theorem dX6_mixDimensions_94 : decode cX6_mixDimensions 94 = .ok (.getfield 22, 3) := by decide +kernel
theorem dX6_mixDimensions_97 : decode cX6_mixDimensions 97 = .ok (.getfield 119, 3) := by decide +kernel
theorem dX6_mixDimensions_100 : decode cX6_mixDimensions 100 = .ok (.iload 5, 2) := by decide +kernel
theorem dX6_mixDimensions_102 : decode cX6_mixDimensions 102 = .ok (.iaload, 1) := by decide +kernel
theorem dX6_mixDimensions_103 : decode cX6_mixDimensions 103 = .ok (.i2l, 1) := by decide +kernel
theorem dX6_mixDimensions_104 : decode cX6_mixDimensions 104 = .ok (.invokestatic 266, 3) := by decide +kernel
theorem dX6_mixDimensions_107 : decode cX6_mixDimensions 107 = .ok (.lstore_n 3, 1) := by decide +kernel
theorem dX6_mixDimensions_108 : decode cX6_mixDimensions 108 = .ok (.lload_n 3, 1) := by decide +kernel
theorem dX6_mixDimensions_109 : decode cX6_mixDimensions 109 = .ok (.aload_n 0, 1) := by decide +kernel
theorem dX6_mixDimensions_110 : decode cX6_mixDimensions 110 = .ok (.getfield 14, 3) := by decide +kernel
theorem dX6_mixDimensions_113 : decode cX6_mixDimensions 113 = .ok (.getfield 173, 3) := by decide +kernel
theorem dX6_mixDimensions_116 : decode cX6_mixDimensions 116 = .ok (.iload 5, 2) := by decide +kernel
theorem dX6_mixDimensions_118 : decode cX6_mixDimensions 118 = .ok (.baload, 1) := by decide +kernel
theorem dX6_mixDimensions_119 : decode cX6_mixDimensions 119 = .ok (.ifCond .eq 7, 3) := by decide +kernel
theorem dX6_mixDimensions_122 : decode cX6_mixDimensions 122 = .ok (.lconst 1, 1) := by decide +kernel
theorem dX6_mixDimensions_123 : decode cX6_mixDimensions 123 = .ok (.goto 4, 3) := by decide +kernel
theorem dX6_mixDimensions_126 : decode cX6_mixDimensions 126 = .ok (.lconst 0, 1) := by decide +kernel
theorem dX6_mixDimensions_127 : decode cX6_mixDimensions 127 = .ok (.invokestatic 266, 3) := by decide +kernel
theorem dX6_mixDimensions_130 : decode cX6_mixDimensions 130 = .ok (.lstore_n 3, 1) := by decide +kernel
theorem dX6_mixDimensions_131 : decode cX6_mixDimensions 131 = .ok (.iinc 5 1, 3) := by decide +kernel
theorem dX6_mixDimensions_134 : decode cX6_mixDimensions 134 = .ok (.goto (-118), 3) := by decide +kernel
theorem dX6_mixDimensions_137 : decode cX6_mixDimensions 137 = .ok (.lload_n 3, 1) := by decide +kernel
theorem dX6_mixDimensions_138 : decode cX6_mixDimensions 138 = .ok (.lreturn, 1) := by decide +kernel
set_option maxRecDepth 20000 in
theorem ggX6_mixParts_X6_mix : GoodIn wsX6_mixParts wsX6_mix := goodIn_r _ [7, 8] (by decide +kernel) (by decide +kernel)
set_option maxRecDepth 20000 in
theorem gX6_mixParts_X6_mix : GoodIn wsX6_mixParts (va_wsS RX6 266 yX6_mix wsX6_mix) := goodIn_app (goodIn_of _ (by decide +kernel)) ggX6_mixParts_X6_mix
theorem dX6_mixParts_0 : decode cX6_mixParts 0 = .ok (.lload_n 1, 1) := by decide +kernel
theorem dX6_mixParts_1 : decode cX6_mixParts 1 = .ok (.lstore_n 3, 1) := by decide +kernel
theorem dX6_mixParts_2 : decode cX6_mixParts 2 = .ok (.iconst 0, 1) := by decide +kernel
theorem dX6_mixParts_3 : decode cX6_mixParts 3 = .ok (.istore 5, 2) := by decide +kernel
theorem dX6_mixParts_5 : decode cX6_mixParts 5 = .ok (.iload 5, 2) := by decide +kernel
theorem dX6_mixParts_7 : decode cX6_mixParts 7 = .ok (.aload_n 0, 1) := by decide +kernel
theorem dX6_mixParts_8 : decode cX6_mixParts 8 = .ok (.getfield 14, 3) := by decide +kernel
theorem dX6_mixParts_11 : decode cX6_mixParts 11 = .ok (.getfield 155, 3) := by decide +kernel
theorem dX6_mixParts_14 : decode cX6_mixParts 14 = .ok (.if_icmp .ge 25, 3) := by decide +kernel
theorem dX6_mixParts_17 : decode cX6_mixParts 17 = .ok (.lload_n 3, 1) := by decide +kernel
theorem dX6_mixParts_18 : decode cX6_mixParts 18 = .ok (.aload_n 0, 1) := by decide +kernel
theorem dX6_mixParts_19 : decode cX6_mixParts 19 = .ok (.getfield 14, 3) := by decide +kernel
theorem dX6_mixParts_22 : decode cX6_mixParts 22 = .ok (.getfield 184, 3) := by decide +kernel
theorem dX6_mixParts_25 : decode cX6_mixParts 25 = .ok (.iload 5, 2) := by decide +kernel
theorem dX6_mixParts_27 : decode cX6_mixParts 27 = .ok (.iaload, 1) := by decide +kernel
theorem dX6_mixParts_28 : decode cX6_mixParts 28 = .ok (.i2l, 1) := by decide +kernel
theorem dX6_mixParts_29 : decode cX6_mixParts 29 = .ok (.invokestatic 266, 3) := by decide +kernel
theorem dX6_mixParts_32 : decode cX6_mixParts 32 = .ok (.lstore_n 3, 1) := by decide +kernel
theorem dX6_mixParts_33 : decode cX6_mixParts 33 = .ok (.iinc 5 1, 3) := by decide +kernel
theorem dX6_mixParts_36 : decode cX6_mixParts 36 = .ok (.goto (-31), 3) := by decide +kernel
theorem dX6_mixParts_39 : decode cX6_mixParts 39 = .ok (.lload_n 3, 1) := by decide +kernel
theorem dX6_mixParts_40 : decode cX6_mixParts 40 = .ok (.lreturn, 1) := by decide +kernel
set_option maxRecDepth 20000 in
theorem ggX6_mixGaps_X0_find : GoodIn wsX6_mixGaps wsX0_find := goodIn_r _ [9, 10, 11, 12, 13, 14, 15, 16, 17, 18, 19, 8, 20, 21, 22, 23, 24, 25, 26, 27, 28, 29, 30, 31, 32, 33, 34, 35, 36, 37, 38, 39, 40, 41, 42, 43, 44, 45, 46, 47, 48, 49, 50, 51, 105, 106, 107, 108, 109, 110, 111, 112, 101, 102, 103, 104, 113, 114, 115, 116, 117, 118] (by decide +kernel) (by decide +kernel)
set_option maxRecDepth 20000 in
theorem gX6_mixGaps_X0_find : GoodIn wsX6_mixGaps (wsV RX6 187 RX0 yX0_find wsX0_find) := goodIn_app (goodIn_of _ (by decide +kernel)) ggX6_mixGaps_X0_find
set_option maxRecDepth 20000 in
theorem ggX6_mixGaps_X6_mixChain : GoodIn wsX6_mixGaps wsX6_mixChain := goodIn_r _ [56, 3, 57, 58, 59, 60, 61, 55, 62, 63, 64, 65, 66, 8, 67, 10, 21, 38, 68, 69, 70, 43, 71, 51, 46, 72, 73, 74, 75, 76, 77, 78, 79, 93, 94, 95, 96, 97, 98, 99, 100, 105, 106, 107, 108, 109, 110, 111, 112, 113, 114, 115, 116, 117, 118] (by decide +kernel) (by decide +kernel)
set_option maxRecDepth 20000 in
theorem gX6_mixGaps_X6_mixChain : GoodIn wsX6_mixGaps (wsV RX6 310 RX6 yX6_mixChain wsX6_mixChain) := goodIn_app (goodIn_of _ (by decide +kernel)) ggX6_mixGaps_X6_mixChain
set_option maxRecDepth 20000 in
theorem ggX6_mixGaps_X5_leastGap : GoodIn wsX6_mixGaps wsX5_leastGap := goodIn_r _ [84, 85, 86, 87, 83, 88, 119, 120] (by decide +kernel) (by decide +kernel)
set_option maxRecDepth 20000 in
theorem gX6_mixGaps_X5_leastGap : GoodIn wsX6_mixGaps (wsV RX6 242 RX5 yX5_leastGap wsX5_leastGap) := goodIn_app (goodIn_of _ (by decide +kernel)) ggX6_mixGaps_X5_leastGap
set_option maxRecDepth 20000 in
theorem ggX6_mixGaps_X6_mix : GoodIn wsX6_mixGaps wsX6_mix := goodIn_r _ [62, 63] (by decide +kernel) (by decide +kernel)
set_option maxRecDepth 20000 in
theorem gX6_mixGaps_X6_mix : GoodIn wsX6_mixGaps (va_wsS RX6 266 yX6_mix wsX6_mix) := goodIn_app (goodIn_of _ (by decide +kernel)) ggX6_mixGaps_X6_mix
set_option maxRecDepth 20000 in
theorem ggX6_mixGaps_X5_greatestGap : GoodIn wsX6_mixGaps wsX5_greatestGap := goodIn_r _ [92, 85, 86, 87, 83, 88, 119, 120] (by decide +kernel) (by decide +kernel)
set_option maxRecDepth 20000 in
theorem gX6_mixGaps_X5_greatestGap : GoodIn wsX6_mixGaps (wsV RX6 238 RX5 yX5_greatestGap wsX5_greatestGap) := goodIn_app (goodIn_of _ (by decide +kernel)) ggX6_mixGaps_X5_greatestGap
theorem dX6_mixGaps_0 : decode cX6_mixGaps 0 = .ok (.lload_n 1, 1) := by decide +kernel
theorem dX6_mixGaps_1 : decode cX6_mixGaps 1 = .ok (.lstore 4, 2) := by decide +kernel
theorem dX6_mixGaps_3 : decode cX6_mixGaps 3 = .ok (.iconst 1, 1) := by decide +kernel
theorem dX6_mixGaps_4 : decode cX6_mixGaps 4 = .ok (.istore 6, 2) := by decide +kernel
theorem dX6_mixGaps_6 : decode cX6_mixGaps 6 = .ok (.iload 6, 2) := by decide +kernel
theorem dX6_mixGaps_8 : decode cX6_mixGaps 8 = .ok (.aload_n 0, 1) := by decide +kernel
theorem dX6_mixGaps_9 : decode cX6_mixGaps 9 = .ok (.getfield 14, 3) := by decide +kernel
theorem dX6_mixGaps_12 : decode cX6_mixGaps 12 = .ok (.getfield 155, 3) := by decide +kernel
theorem dX6_mixGaps_15 : decode cX6_mixGaps 15 = .ok (.if_icmp .ge 70, 3) := by decide +kernel
theorem dX6_mixGaps_18 : decode cX6_mixGaps 18 = .ok (.aload_n 0, 1) := by decide +kernel
theorem dX6_mixGaps_19 : decode cX6_mixGaps 19 = .ok (.getfield 28, 3) := by decide +kernel
theorem dX6_mixGaps_22 : decode cX6_mixGaps 22 = .ok (.iconst 0, 1) := by decide +kernel
theorem dX6_mixGaps_23 : decode cX6_mixGaps 23 = .ok (.iload 6, 2) := by decide +kernel
theorem dX6_mixGaps_25 : decode cX6_mixGaps 25 = .ok (.invokevirtual 187, 3) := by decide +kernel
theorem dX6_mixGaps_28 : decode cX6_mixGaps 28 = .ok (.ifCond .eq 51, 3) := by decide +kernel
theorem dX6_mixGaps_31 : decode cX6_mixGaps 31 = .ok (.aload_n 0, 1) := by decide +kernel
theorem dX6_mixGaps_32 : decode cX6_mixGaps 32 = .ok (.lload 4, 2) := by decide +kernel
theorem dX6_mixGaps_34 : decode cX6_mixGaps 34 = .ok (.invokevirtual 310, 3) := by decide +kernel
theorem dX6_mixGaps_37 : decode cX6_mixGaps 37 = .ok (.lstore 4, 2) := by decide +kernel
theorem dX6_mixGaps_39 : decode cX6_mixGaps 39 = .ok (.iload_n 3, 1) := by decide +kernel
theorem dX6_mixGaps_40 : decode cX6_mixGaps 40 = .ok (.ifCond .eq 39, 3) := by decide +kernel
theorem dX6_mixGaps_43 : decode cX6_mixGaps 43 = .ok (.lload 4, 2) := by decide +kernel
theorem dX6_mixGaps_45 : decode cX6_mixGaps 45 = .ok (.aload_n 0, 1) := by decide +kernel
theorem dX6_mixGaps_46 : decode cX6_mixGaps 46 = .ok (.getfield 44, 3) := by decide +kernel
theorem dX6_mixGaps_49 : decode cX6_mixGaps 49 = .ok (.iconst 0, 1) := by decide +kernel
theorem dX6_mixGaps_50 : decode cX6_mixGaps 50 = .ok (.iload 6, 2) := by decide +kernel
theorem dX6_mixGaps_52 : decode cX6_mixGaps 52 = .ok (.invokevirtual 242, 3) := by decide +kernel
theorem dX6_mixGaps_55 : decode cX6_mixGaps 55 = .ok (.i2l, 1) := by decide +kernel
theorem dX6_mixGaps_56 : decode cX6_mixGaps 56 = .ok (.invokestatic 266, 3) := by decide +kernel
theorem dX6_mixGaps_59 : decode cX6_mixGaps 59 = .ok (.lstore 4, 2) := by decide +kernel
theorem dX6_mixGaps_61 : decode cX6_mixGaps 61 = .ok (.lload 4, 2) := by decide +kernel
theorem dX6_mixGaps_63 : decode cX6_mixGaps 63 = .ok (.aload_n 0, 1) := by decide +kernel
theorem dX6_mixGaps_64 : decode cX6_mixGaps 64 = .ok (.getfield 44, 3) := by decide +kernel
theorem dX6_mixGaps_67 : decode cX6_mixGaps 67 = .ok (.iconst 0, 1) := by decide +kernel
theorem dX6_mixGaps_68 : decode cX6_mixGaps 68 = .ok (.iload 6, 2) := by decide +kernel
theorem dX6_mixGaps_70 : decode cX6_mixGaps 70 = .ok (.invokevirtual 238, 3) := by decide +kernel
theorem dX6_mixGaps_73 : decode cX6_mixGaps 73 = .ok (.i2l, 1) := by decide +kernel
theorem dX6_mixGaps_74 : decode cX6_mixGaps 74 = .ok (.invokestatic 266, 3) := by decide +kernel
theorem dX6_mixGaps_77 : decode cX6_mixGaps 77 = .ok (.lstore 4, 2) := by decide +kernel
theorem dX6_mixGaps_79 : decode cX6_mixGaps 79 = .ok (.iinc 6 1, 3) := by decide +kernel
theorem dX6_mixGaps_82 : decode cX6_mixGaps 82 = .ok (.goto (-76), 3) := by decide +kernel
theorem dX6_mixGaps_85 : decode cX6_mixGaps 85 = .ok (.lload 4, 2) := by decide +kernel
theorem dX6_mixGaps_87 : decode cX6_mixGaps 87 = .ok (.lreturn, 1) := by decide +kernel
set_option maxRecDepth 20000 in
theorem ggX6_mixChain_X6_mix : GoodIn wsX6_mixChain wsX6_mix := goodIn_r _ [8, 9] (by decide +kernel) (by decide +kernel)
set_option maxRecDepth 20000 in
theorem gX6_mixChain_X6_mix : GoodIn wsX6_mixChain (va_wsS RX6 266 yX6_mix wsX6_mix) := goodIn_app (goodIn_of _ (by decide +kernel)) ggX6_mixChain_X6_mix
set_option maxRecDepth 20000 in
theorem ggX6_mixChain_X0_rootOfSquares : GoodIn wsX6_mixChain wsX0_rootOfSquares := goodIn_r _ [14, 15, 16, 17, 18, 19, 20, 21, 22, 23, 24, 41, 42, 43, 44, 45, 46, 47, 48, 49, 50, 51, 52, 53, 54] (by decide +kernel) (by decide +kernel)
set_option maxRecDepth 20000 in
theorem gX6_mixChain_X0_rootOfSquares : GoodIn wsX6_mixChain (wsV RX6 214 RX0 yX0_rootOfSquares wsX0_rootOfSquares) := goodIn_app (goodIn_of _ (by decide +kernel)) ggX6_mixChain_X0_rootOfSquares
set_option maxRecDepth 20000 in
theorem ggX6_mixChain_X0_widest : GoodIn wsX6_mixChain wsX0_widest := goodIn_r _ [28, 15, 17, 29, 30, 31, 13, 32, 16, 18, 19, 20, 21, 22, 23, 24, 41, 42, 43, 44, 45, 46, 47, 48, 49, 50, 51, 52, 53, 54] (by decide +kernel) (by decide +kernel)
set_option maxRecDepth 20000 in
theorem gX6_mixChain_X0_widest : GoodIn wsX6_mixChain (wsV RX6 217 RX0 yX0_widest wsX0_widest) := goodIn_app (goodIn_of _ (by decide +kernel)) ggX6_mixChain_X0_widest
theorem dX6_mixChain_0 : decode cX6_mixChain 0 = .ok (.lload_n 1, 1) := by decide +kernel
theorem dX6_mixChain_1 : decode cX6_mixChain 1 = .ok (.aload_n 0, 1) := by decide +kernel
theorem dX6_mixChain_2 : decode cX6_mixChain 2 = .ok (.getfield 28, 3) := by decide +kernel
theorem dX6_mixChain_5 : decode cX6_mixChain 5 = .ok (.getfield 206, 3) := by decide +kernel
theorem dX6_mixChain_8 : decode cX6_mixChain 8 = .ok (.i2l, 1) := by decide +kernel
theorem dX6_mixChain_9 : decode cX6_mixChain 9 = .ok (.invokestatic 266, 3) := by decide +kernel
theorem dX6_mixChain_12 : decode cX6_mixChain 12 = .ok (.lstore_n 3, 1) := by decide +kernel
theorem dX6_mixChain_13 : decode cX6_mixChain 13 = .ok (.lload_n 3, 1) := by decide +kernel
theorem dX6_mixChain_14 : decode cX6_mixChain 14 = .ok (.aload_n 0, 1) := by decide +kernel
theorem dX6_mixChain_15 : decode cX6_mixChain 15 = .ok (.getfield 28, 3) := by decide +kernel
theorem dX6_mixChain_18 : decode cX6_mixChain 18 = .ok (.getfield 208, 3) := by decide +kernel
theorem dX6_mixChain_21 : decode cX6_mixChain 21 = .ok (.i2l, 1) := by decide +kernel
theorem dX6_mixChain_22 : decode cX6_mixChain 22 = .ok (.invokestatic 266, 3) := by decide +kernel
theorem dX6_mixChain_25 : decode cX6_mixChain 25 = .ok (.lstore_n 3, 1) := by decide +kernel
theorem dX6_mixChain_26 : decode cX6_mixChain 26 = .ok (.lload_n 3, 1) := by decide +kernel
theorem dX6_mixChain_27 : decode cX6_mixChain 27 = .ok (.aload_n 0, 1) := by decide +kernel
theorem dX6_mixChain_28 : decode cX6_mixChain 28 = .ok (.getfield 28, 3) := by decide +kernel
theorem dX6_mixChain_31 : decode cX6_mixChain 31 = .ok (.getfield 211, 3) := by decide +kernel
theorem dX6_mixChain_34 : decode cX6_mixChain 34 = .ok (.i2l, 1) := by decide +kernel
theorem dX6_mixChain_35 : decode cX6_mixChain 35 = .ok (.invokestatic 266, 3) := by decide +kernel
theorem dX6_mixChain_38 : decode cX6_mixChain 38 = .ok (.lstore_n 3, 1) := by decide +kernel
theorem dX6_mixChain_39 : decode cX6_mixChain 39 = .ok (.lload_n 3, 1) := by decide +kernel
theorem dX6_mixChain_40 : decode cX6_mixChain 40 = .ok (.aload_n 0, 1) := by decide +kernel
theorem dX6_mixChain_41 : decode cX6_mixChain 41 = .ok (.getfield 28, 3) := by decide +kernel
theorem dX6_mixChain_44 : decode cX6_mixChain 44 = .ok (.invokevirtual 214, 3) := by decide +kernel
theorem dX6_mixChain_47 : decode cX6_mixChain 47 = .ok (.i2l, 1) := by decide +kernel
theorem dX6_mixChain_48 : decode cX6_mixChain 48 = .ok (.invokestatic 266, 3) := by decide +kernel
theorem dX6_mixChain_51 : decode cX6_mixChain 51 = .ok (.lstore_n 3, 1) := by decide +kernel
theorem dX6_mixChain_52 : decode cX6_mixChain 52 = .ok (.lload_n 3, 1) := by decide +kernel
theorem dX6_mixChain_53 : decode cX6_mixChain 53 = .ok (.aload_n 0, 1) := by decide +kernel
theorem dX6_mixChain_54 : decode cX6_mixChain 54 = .ok (.getfield 28, 3) := by decide +kernel
theorem dX6_mixChain_57 : decode cX6_mixChain 57 = .ok (.invokevirtual 217, 3) := by decide +kernel
theorem dX6_mixChain_60 : decode cX6_mixChain 60 = .ok (.i2l, 1) := by decide +kernel
theorem dX6_mixChain_61 : decode cX6_mixChain 61 = .ok (.invokestatic 266, 3) := by decide +kernel
theorem dX6_mixChain_64 : decode cX6_mixChain 64 = .ok (.lreturn, 1) := by decide +kernel
set_option maxRecDepth 20000 in
theorem ggX6_mixInput_X6_mix : GoodIn wsX6_mixInput wsX6_mix := goodIn_r _ [6, 7] (by decide +kernel) (by decide +kernel)
set_option maxRecDepth 20000 in
theorem gX6_mixInput_X6_mix : GoodIn wsX6_mixInput (va_wsS RX6 266 yX6_mix wsX6_mix) := goodIn_app (goodIn_of _ (by decide +kernel)) ggX6_mixInput_X6_mix
theorem dX6_mixInput_0 : decode cX6_mixInput 0 = .ok (.lload_n 1, 1) := by decide +kernel
theorem dX6_mixInput_1 : decode cX6_mixInput 1 = .ok (.aload_n 0, 1) := by decide +kernel
theorem dX6_mixInput_2 : decode cX6_mixInput 2 = .ok (.getfield 59, 3) := by decide +kernel
theorem dX6_mixInput_5 : decode cX6_mixInput 5 = .ok (.i2l, 1) := by decide +kernel
theorem dX6_mixInput_6 : decode cX6_mixInput 6 = .ok (.invokestatic 266, 3) := by decide +kernel
theorem dX6_mixInput_9 : decode cX6_mixInput 9 = .ok (.lstore_n 3, 1) := by decide +kernel
theorem dX6_mixInput_10 : decode cX6_mixInput 10 = .ok (.iconst 0, 1) := by decide +kernel
theorem dX6_mixInput_11 : decode cX6_mixInput 11 = .ok (.istore 5, 2) := by decide +kernel
theorem dX6_mixInput_13 : decode cX6_mixInput 13 = .ok (.iload 5, 2) := by decide +kernel
theorem dX6_mixInput_15 : decode cX6_mixInput 15 = .ok (.aload_n 0, 1) := by decide +kernel
theorem dX6_mixInput_16 : decode cX6_mixInput 16 = .ok (.getfield 59, 3) := by decide +kernel
theorem dX6_mixInput_19 : decode cX6_mixInput 19 = .ok (.if_icmp .ge 22, 3) := by decide +kernel
theorem dX6_mixInput_22 : decode cX6_mixInput 22 = .ok (.lload_n 3, 1) := by decide +kernel
theorem dX6_mixInput_23 : decode cX6_mixInput 23 = .ok (.aload_n 0, 1) := by decide +kernel
theorem dX6_mixInput_24 : decode cX6_mixInput 24 = .ok (.getfield 55, 3) := by decide +kernel
theorem dX6_mixInput_27 : decode cX6_mixInput 27 = .ok (.iload 5, 2) := by decide +kernel
theorem dX6_mixInput_29 : decode cX6_mixInput 29 = .ok (.iaload, 1) := by decide +kernel
theorem dX6_mixInput_30 : decode cX6_mixInput 30 = .ok (.i2l, 1) := by decide +kernel
theorem dX6_mixInput_31 : decode cX6_mixInput 31 = .ok (.invokestatic 266, 3) := by decide +kernel
theorem dX6_mixInput_34 : decode cX6_mixInput 34 = .ok (.lstore_n 3, 1) := by decide +kernel
theorem dX6_mixInput_35 : decode cX6_mixInput 35 = .ok (.iinc 5 1, 3) := by decide +kernel
theorem dX6_mixInput_38 : decode cX6_mixInput 38 = .ok (.goto (-25), 3) := by decide +kernel
theorem dX6_mixInput_41 : decode cX6_mixInput 41 = .ok (.lload_n 3, 1) := by decide +kernel
theorem dX6_mixInput_42 : decode cX6_mixInput 42 = .ok (.lreturn, 1) := by decide +kernel
theorem dX7_init_0 : decode cX7_init 0 = .ok (.aload_n 0, 1) := by decide +kernel
theorem dX7_init_1 : decode cX7_init 1 = .ok (.invokespecial 1, 3) := by decide +kernel
theorem dX7_init_4 : decode cX7_init 4 = .ok (.aload_n 0, 1) := by decide +kernel
theorem dX7_init_5 : decode cX7_init 5 = .ok (.iconst 2, 1) := by decide +kernel
theorem dX7_init_6 : decode cX7_init 6 = .ok (.putfield 7, 3) := by decide +kernel
theorem dX7_init_9 : decode cX7_init 9 = .ok (.aload_n 0, 1) := by decide +kernel
theorem dX7_init_10 : decode cX7_init 10 = .ok (.bipush 20, 2) := by decide +kernel
theorem dX7_init_12 : decode cX7_init 12 = .ok (.newarray .int, 2) := by decide +kernel
theorem dX7_init_14 : decode cX7_init 14 = .ok (.putfield 13, 3) := by decide +kernel
theorem dX7_init_17 : decode cX7_init 17 = .ok (.aload_n 0, 1) := by decide +kernel
theorem dX7_init_18 : decode cX7_init 18 = .ok (.bipush 20, 2) := by decide +kernel
theorem dX7_init_20 : decode cX7_init 20 = .ok (.newarray .int, 2) := by decide +kernel
theorem dX7_init_22 : decode cX7_init 22 = .ok (.putfield 17, 3) := by decide +kernel
theorem dX7_init_25 : decode cX7_init 25 = .ok (.aload_n 0, 1) := by decide +kernel
theorem dX7_init_26 : decode cX7_init 26 = .ok (.bipush 20, 2) := by decide +kernel
theorem dX7_init_28 : decode cX7_init 28 = .ok (.newarray .int, 2) := by decide +kernel
theorem dX7_init_30 : decode cX7_init 30 = .ok (.putfield 20, 3) := by decide +kernel
theorem dX7_init_33 : decode cX7_init 33 = .ok (.aload_n 0, 1) := by decide +kernel
theorem dX7_init_34 : decode cX7_init 34 = .ok (.bipush 20, 2) := by decide +kernel
theorem dX7_init_36 : decode cX7_init 36 = .ok (.newarray .int, 2) := by decide +kernel
theorem dX7_init_38 : decode cX7_init 38 = .ok (.putfield 23, 3) := by decide +kernel
theorem dX7_init_41 : decode cX7_init 41 = .ok (.aload_n 0, 1) := by decide +kernel
theorem dX7_init_42 : decode cX7_init 42 = .ok (.bipush 20, 2) := by decide +kernel
theorem dX7_init_44 : decode cX7_init 44 = .ok (.newarray .int, 2) := by decide +kernel
theorem dX7_init_46 : decode cX7_init 46 = .ok (.putfield 26, 3) := by decide +kernel
theorem dX7_init_49 : decode cX7_init 49 = .ok (.aload_n 0, 1) := by decide +kernel
theorem dX7_init_50 : decode cX7_init 50 = .ok (.bipush 60, 2) := by decide +kernel
theorem dX7_init_52 : decode cX7_init 52 = .ok (.newarray .int, 2) := by decide +kernel
theorem dX7_init_54 : decode cX7_init 54 = .ok (.putfield 29, 3) := by decide +kernel
theorem dX7_init_57 : decode cX7_init 57 = .ok (.aload_n 0, 1) := by decide +kernel
theorem dX7_init_58 : decode cX7_init 58 = .ok (.bipush 20, 2) := by decide +kernel
theorem dX7_init_60 : decode cX7_init 60 = .ok (.newarray .int, 2) := by decide +kernel
theorem dX7_init_62 : decode cX7_init 62 = .ok (.putfield 32, 3) := by decide +kernel
theorem dX7_init_65 : decode cX7_init 65 = .ok (.aload_n 0, 1) := by decide +kernel
theorem dX7_init_66 : decode cX7_init 66 = .ok (.bipush 20, 2) := by decide +kernel
theorem dX7_init_68 : decode cX7_init 68 = .ok (.newarray .int, 2) := by decide +kernel
theorem dX7_init_70 : decode cX7_init 70 = .ok (.putfield 35, 3) := by decide +kernel
theorem dX7_init_73 : decode cX7_init 73 = .ok (.aload_n 0, 1) := by decide +kernel
theorem dX7_init_74 : decode cX7_init 74 = .ok (.bipush 20, 2) := by decide +kernel
theorem dX7_init_76 : decode cX7_init 76 = .ok (.newarray .int, 2) := by decide +kernel
theorem dX7_init_78 : decode cX7_init 78 = .ok (.putfield 38, 3) := by decide +kernel
theorem dX7_init_81 : decode cX7_init 81 = .ok (.aload_n 0, 1) := by decide +kernel
theorem dX7_init_82 : decode cX7_init 82 = .ok (.bipush 20, 2) := by decide +kernel
theorem dX7_init_84 : decode cX7_init 84 = .ok (.newarray .int, 2) := by decide +kernel
theorem dX7_init_86 : decode cX7_init 86 = .ok (.putfield 41, 3) := by decide +kernel
theorem dX7_init_89 : decode cX7_init 89 = .ok (.aload_n 0, 1) := by decide +kernel
theorem dX7_init_90 : decode cX7_init 90 = .ok (.bipush 20, 2) := by decide +kernel
theorem dX7_init_92 : decode cX7_init 92 = .ok (.newarray .int, 2) := by decide +kernel
theorem dX7_init_94 : decode cX7_init 94 = .ok (.putfield 44, 3) := by decide +kernel
theorem dX7_init_97 : decode cX7_init 97 = .ok (.aload_n 0, 1) := by decide +kernel
theorem dX7_init_98 : decode cX7_init 98 = .ok (.bipush 12, 2) := by decide +kernel
theorem dX7_init_100 : decode cX7_init 100 = .ok (.newarray .int, 2) := by decide +kernel
theorem dX7_init_102 : decode cX7_init 102 = .ok (.putfield 47, 3) := by decide +kernel
theorem dX7_init_105 : decode cX7_init 105 = .ok (.aload_n 0, 1) := by decide +kernel
theorem dX7_init_106 : decode cX7_init 106 = .ok (.bipush 20, 2) := by decide +kernel
theorem dX7_init_108 : decode cX7_init 108 = .ok (.newarray .boolean, 2) := by decide +kernel
theorem dX7_init_110 : decode cX7_init 110 = .ok (.putfield 50, 3) := by decide +kernel
theorem dX7_init_113 : decode cX7_init 113 = .ok (.aload_n 0, 1) := by decide +kernel
theorem dX7_init_114 : decode cX7_init 114 = .ok (.bipush 12, 2) := by decide +kernel
theorem dX7_init_116 : decode cX7_init 116 = .ok (.newarray .int, 2) := by decide +kernel
theorem dX7_init_118 : decode cX7_init 118 = .ok (.putfield 54, 3) := by decide +kernel
theorem dX7_init_121 : decode cX7_init 121 = .ok (.aload_n 0, 1) := by decide +kernel
theorem dX7_init_122 : decode cX7_init 122 = .ok (.bipush 12, 2) := by decide +kernel
theorem dX7_init_124 : decode cX7_init 124 = .ok (.newarray .int, 2) := by decide +kernel
theorem dX7_init_126 : decode cX7_init 126 = .ok (.putfield 57, 3) := by decide +kernel
theorem dX7_init_129 : decode cX7_init 129 = .ok (.aload_n 0, 1) := by decide +kernel
theorem dX7_init_130 : decode cX7_init 130 = .ok (.sipush 144, 3) := by decide +kernel
theorem dX7_init_133 : decode cX7_init 133 = .ok (.newarray .long, 2) := by decide +kernel
theorem dX7_init_135 : decode cX7_init 135 = .ok (.putfield 60, 3) := by decide +kernel
theorem dX7_init_138 : decode cX7_init 138 = .ok (.aload_n 0, 1) := by decide +kernel
theorem dX7_init_139 : decode cX7_init 139 = .ok (.bipush 20, 2) := by decide +kernel
theorem dX7_init_141 : decode cX7_init 141 = .ok (.newarray .int, 2) := by decide +kernel
theorem dX7_init_143 : decode cX7_init 143 = .ok (.putfield 64, 3) := by decide +kernel
theorem dX7_init_146 : decode cX7_init 146 = .ok (.return_, 1) := by decide +kernel
theorem dX7_thrown_0 : decode cX7_thrown 0 = .ok (.aload_n 0, 1) := by decide +kernel
theorem dX7_thrown_1 : decode cX7_thrown 1 = .ok (.getfield 67, 3) := by decide +kernel
theorem dX7_thrown_4 : decode cX7_thrown 4 = .ok (.ireturn, 1) := by decide +kernel
theorem dX7_within_0 : decode cX7_within 0 = .ok (.iload_n 0, 1) := by decide +kernel
theorem dX7_within_1 : decode cX7_within 1 = .ok (.iload_n 1, 1) := by decide +kernel
theorem dX7_within_2 : decode cX7_within 2 = .ok (.if_icmp .lt 12, 3) := by decide +kernel
theorem dX7_within_5 : decode cX7_within 5 = .ok (.iload_n 0, 1) := by decide +kernel
theorem dX7_within_6 : decode cX7_within 6 = .ok (.iload_n 2, 1) := by decide +kernel
theorem dX7_within_7 : decode cX7_within 7 = .ok (.if_icmp .gt 7, 3) := by decide +kernel
theorem dX7_within_10 : decode cX7_within 10 = .ok (.iconst 1, 1) := by decide +kernel
theorem dX7_within_11 : decode cX7_within 11 = .ok (.goto 4, 3) := by decide +kernel
theorem dX7_within_14 : decode cX7_within 14 = .ok (.iconst 0, 1) := by decide +kernel
theorem dX7_within_15 : decode cX7_within 15 = .ok (.ireturn, 1) := by decide +kernel
set_option maxRecDepth 20000 in
theorem ggX7_isFace_X7_within : GoodIn wsX7_isFace wsX7_within := goodIn_r _ [5] (by decide +kernel) (by decide +kernel)
set_option maxRecDepth 20000 in
theorem gX7_isFace_X7_within : GoodIn wsX7_isFace (va_wsS RX7 70 yX7_within wsX7_within) := goodIn_app (goodIn_of _ (by decide +kernel)) ggX7_isFace_X7_within
theorem dX7_isFace_0 : decode cX7_isFace 0 = .ok (.iload_n 1, 1) := by decide +kernel
theorem dX7_isFace_1 : decode cX7_isFace 1 = .ok (.iconst 0, 1) := by decide +kernel
theorem dX7_isFace_2 : decode cX7_isFace 2 = .ok (.aload_n 0, 1) := by decide +kernel
theorem dX7_isFace_3 : decode cX7_isFace 3 = .ok (.getfield 7, 3) := by decide +kernel
theorem dX7_isFace_6 : decode cX7_isFace 6 = .ok (.iconst 1, 1) := by decide +kernel
theorem dX7_isFace_7 : decode cX7_isFace 7 = .ok (.isub, 1) := by decide +kernel
theorem dX7_isFace_8 : decode cX7_isFace 8 = .ok (.invokestatic 70, 3) := by decide +kernel
theorem dX7_isFace_11 : decode cX7_isFace 11 = .ok (.ireturn, 1) := by decide +kernel
set_option maxRecDepth 20000 in
theorem ggX7_isDimension_X7_within : GoodIn wsX7_isDimension wsX7_within := goodIn_r _ [5] (by decide +kernel) (by decide +kernel)
set_option maxRecDepth 20000 in
theorem gX7_isDimension_X7_within : GoodIn wsX7_isDimension (va_wsS RX7 70 yX7_within wsX7_within) := goodIn_app (goodIn_of _ (by decide +kernel)) ggX7_isDimension_X7_within
theorem dX7_isDimension_0 : decode cX7_isDimension 0 = .ok (.iload_n 1, 1) := by decide +kernel
theorem dX7_isDimension_1 : decode cX7_isDimension 1 = .ok (.iconst 0, 1) := by decide +kernel
theorem dX7_isDimension_2 : decode cX7_isDimension 2 = .ok (.aload_n 0, 1) := by decide +kernel
theorem dX7_isDimension_3 : decode cX7_isDimension 3 = .ok (.getfield 74, 3) := by decide +kernel
theorem dX7_isDimension_6 : decode cX7_isDimension 6 = .ok (.iconst 1, 1) := by decide +kernel
theorem dX7_isDimension_7 : decode cX7_isDimension 7 = .ok (.isub, 1) := by decide +kernel
theorem dX7_isDimension_8 : decode cX7_isDimension 8 = .ok (.invokestatic 70, 3) := by decide +kernel
theorem dX7_isDimension_11 : decode cX7_isDimension 11 = .ok (.ireturn, 1) := by decide +kernel
set_option maxRecDepth 20000 in
theorem ggX7_areDeviations_X7_within : GoodIn wsX7_areDeviations wsX7_within := goodIn_r _ [4] (by decide +kernel) (by decide +kernel)
set_option maxRecDepth 20000 in
theorem gX7_areDeviations_X7_within : GoodIn wsX7_areDeviations (va_wsS RX7 70 yX7_within wsX7_within) := goodIn_app (goodIn_of _ (by decide +kernel)) ggX7_areDeviations_X7_within
theorem dX7_areDeviations_0 : decode cX7_areDeviations 0 = .ok (.iload_n 0, 1) := by decide +kernel
theorem dX7_areDeviations_1 : decode cX7_areDeviations 1 = .ok (.sipush (-999), 3) := by decide +kernel
theorem dX7_areDeviations_4 : decode cX7_areDeviations 4 = .ok (.sipush 999, 3) := by decide +kernel
theorem dX7_areDeviations_7 : decode cX7_areDeviations 7 = .ok (.invokestatic 70, 3) := by decide +kernel
theorem dX7_areDeviations_10 : decode cX7_areDeviations 10 = .ok (.ifCond .eq 25, 3) := by decide +kernel
theorem dX7_areDeviations_13 : decode cX7_areDeviations 13 = .ok (.iload_n 1, 1) := by decide +kernel
theorem dX7_areDeviations_14 : decode cX7_areDeviations 14 = .ok (.sipush (-999), 3) := by decide +kernel
theorem dX7_areDeviations_17 : decode cX7_areDeviations 17 = .ok (.sipush 999, 3) := by decide +kernel
theorem dX7_areDeviations_20 : decode cX7_areDeviations 20 = .ok (.invokestatic 70, 3) := by decide +kernel
theorem dX7_areDeviations_23 : decode cX7_areDeviations 23 = .ok (.ifCond .eq 12, 3) := by decide +kernel
theorem dX7_areDeviations_26 : decode cX7_areDeviations 26 = .ok (.iload_n 0, 1) := by decide +kernel
theorem dX7_areDeviations_27 : decode cX7_areDeviations 27 = .ok (.iload_n 1, 1) := by decide +kernel
theorem dX7_areDeviations_28 : decode cX7_areDeviations 28 = .ok (.if_icmp .gt 7, 3) := by decide +kernel
theorem dX7_areDeviations_31 : decode cX7_areDeviations 31 = .ok (.iconst 1, 1) := by decide +kernel
theorem dX7_areDeviations_32 : decode cX7_areDeviations 32 = .ok (.goto 4, 3) := by decide +kernel
theorem dX7_areDeviations_35 : decode cX7_areDeviations 35 = .ok (.iconst 0, 1) := by decide +kernel
theorem dX7_areDeviations_36 : decode cX7_areDeviations 36 = .ok (.ireturn, 1) := by decide +kernel
set_option maxRecDepth 20000 in
theorem ggX7_setFaces_X7_within : GoodIn wsX7_setFaces wsX7_within := goodIn_r _ [7] (by decide +kernel) (by decide +kernel)
set_option maxRecDepth 20000 in
theorem gX7_setFaces_X7_within : GoodIn wsX7_setFaces (va_wsS RX7 70 yX7_within wsX7_within) := goodIn_app (goodIn_of _ (by decide +kernel)) ggX7_setFaces_X7_within
theorem dX7_setFaces_0 : decode cX7_setFaces 0 = .ok (.aload_n 0, 1) := by decide +kernel
theorem dX7_setFaces_1 : decode cX7_setFaces 1 = .ok (.iload_n 1, 1) := by decide +kernel
theorem dX7_setFaces_2 : decode cX7_setFaces 2 = .ok (.iconst 2, 1) := by decide +kernel
theorem dX7_setFaces_3 : decode cX7_setFaces 3 = .ok (.bipush 12, 2) := by decide +kernel
theorem dX7_setFaces_5 : decode cX7_setFaces 5 = .ok (.invokestatic 70, 3) := by decide +kernel
theorem dX7_setFaces_8 : decode cX7_setFaces 8 = .ok (.ifCond .eq 7, 3) := by decide +kernel
theorem dX7_setFaces_11 : decode cX7_setFaces 11 = .ok (.iconst 0, 1) := by decide +kernel
theorem dX7_setFaces_12 : decode cX7_setFaces 12 = .ok (.goto 4, 3) := by decide +kernel
theorem dX7_setFaces_15 : decode cX7_setFaces 15 = .ok (.iconst 1, 1) := by decide +kernel
theorem dX7_setFaces_16 : decode cX7_setFaces 16 = .ok (.putfield 67, 3) := by decide +kernel
theorem dX7_setFaces_19 : decode cX7_setFaces 19 = .ok (.aload_n 0, 1) := by decide +kernel
theorem dX7_setFaces_20 : decode cX7_setFaces 20 = .ok (.getfield 67, 3) := by decide +kernel
theorem dX7_setFaces_23 : decode cX7_setFaces 23 = .ok (.ifCond .le 5, 3) := by decide +kernel
theorem dX7_setFaces_26 : decode cX7_setFaces 26 = .ok (.iconst 0, 1) := by decide +kernel
theorem dX7_setFaces_27 : decode cX7_setFaces 27 = .ok (.ireturn, 1) := by decide +kernel
theorem dX7_setFaces_28 : decode cX7_setFaces 28 = .ok (.aload_n 0, 1) := by decide +kernel
theorem dX7_setFaces_29 : decode cX7_setFaces 29 = .ok (.getfield 74, 3) := by decide +kernel
theorem dX7_setFaces_32 : decode cX7_setFaces 32 = .ok (.istore_n 2, 1) := by decide +kernel
theorem dX7_setFaces_33 : decode cX7_setFaces 33 = .ok (.aload_n 0, 1) := by decide +kernel
theorem dX7_setFaces_34 : decode cX7_setFaces 34 = .ok (.iload_n 1, 1) := by decide +kernel
theorem dX7_setFaces_35 : decode cX7_setFaces 35 = .ok (.putfield 7, 3) := by decide +kernel
theorem dX7_setFaces_38 : decode cX7_setFaces 38 = .ok (.aload_n 0, 1) := by decide +kernel
theorem dX7_setFaces_39 : decode cX7_setFaces 39 = .ok (.iconst 0, 1) := by decide +kernel
theorem dX7_setFaces_40 : decode cX7_setFaces 40 = .ok (.putfield 74, 3) := by decide +kernel
theorem dX7_setFaces_43 : decode cX7_setFaces 43 = .ok (.iload_n 2, 1) := by decide +kernel
theorem dX7_setFaces_44 : decode cX7_setFaces 44 = .ok (.ireturn, 1) := by decide +kernel
theorem dX7_put_0 : decode cX7_put 0 = .ok (.aload_n 0, 1) := by decide +kernel
theorem dX7_put_1 : decode cX7_put 1 = .ok (.getfield 13, 3) := by decide +kernel
theorem dX7_put_4 : decode cX7_put 4 = .ok (.aload_n 0, 1) := by decide +kernel
theorem dX7_put_5 : decode cX7_put 5 = .ok (.getfield 74, 3) := by decide +kernel
theorem dX7_put_8 : decode cX7_put 8 = .ok (.iload_n 1, 1) := by decide +kernel
theorem dX7_put_9 : decode cX7_put 9 = .ok (.iastore, 1) := by decide +kernel
theorem dX7_put_10 : decode cX7_put 10 = .ok (.aload_n 0, 1) := by decide +kernel
theorem dX7_put_11 : decode cX7_put 11 = .ok (.getfield 17, 3) := by decide +kernel
theorem dX7_put_14 : decode cX7_put 14 = .ok (.aload_n 0, 1) := by decide +kernel
theorem dX7_put_15 : decode cX7_put 15 = .ok (.getfield 74, 3) := by decide +kernel
theorem dX7_put_18 : decode cX7_put 18 = .ok (.iload_n 2, 1) := by decide +kernel
theorem dX7_put_19 : decode cX7_put 19 = .ok (.iastore, 1) := by decide +kernel
theorem dX7_put_20 : decode cX7_put 20 = .ok (.aload_n 0, 1) := by decide +kernel
theorem dX7_put_21 : decode cX7_put 21 = .ok (.getfield 20, 3) := by decide +kernel
theorem dX7_put_24 : decode cX7_put 24 = .ok (.aload_n 0, 1) := by decide +kernel
theorem dX7_put_25 : decode cX7_put 25 = .ok (.getfield 74, 3) := by decide +kernel
theorem dX7_put_28 : decode cX7_put 28 = .ok (.iload_n 3, 1) := by decide +kernel
theorem dX7_put_29 : decode cX7_put 29 = .ok (.iastore, 1) := by decide +kernel
theorem dX7_put_30 : decode cX7_put 30 = .ok (.aload_n 0, 1) := by decide +kernel
theorem dX7_put_31 : decode cX7_put 31 = .ok (.getfield 23, 3) := by decide +kernel
theorem dX7_put_34 : decode cX7_put 34 = .ok (.aload_n 0, 1) := by decide +kernel
theorem dX7_put_35 : decode cX7_put 35 = .ok (.getfield 74, 3) := by decide +kernel
theorem dX7_put_38 : decode cX7_put 38 = .ok (.iload 4, 2) := by decide +kernel
theorem dX7_put_40 : decode cX7_put 40 = .ok (.iastore, 1) := by decide +kernel
theorem dX7_put_41 : decode cX7_put 41 = .ok (.aload_n 0, 1) := by decide +kernel
theorem dX7_put_42 : decode cX7_put 42 = .ok (.getfield 26, 3) := by decide +kernel
theorem dX7_put_45 : decode cX7_put 45 = .ok (.aload_n 0, 1) := by decide +kernel
theorem dX7_put_46 : decode cX7_put 46 = .ok (.getfield 74, 3) := by decide +kernel
theorem dX7_put_49 : decode cX7_put 49 = .ok (.iload 5, 2) := by decide +kernel
theorem dX7_put_51 : decode cX7_put 51 = .ok (.iastore, 1) := by decide +kernel
theorem dX7_put_52 : decode cX7_put 52 = .ok (.aload_n 0, 1) := by decide +kernel
theorem dX7_put_53 : decode cX7_put 53 = .ok (.dup, 1) := by decide +kernel
theorem dX7_put_54 : decode cX7_put 54 = .ok (.getfield 74, 3) := by decide +kernel
theorem dX7_put_57 : decode cX7_put 57 = .ok (.iconst 1, 1) := by decide +kernel
theorem dX7_put_58 : decode cX7_put 58 = .ok (.iadd, 1) := by decide +kernel
theorem dX7_put_59 : decode cX7_put 59 = .ok (.putfield 74, 3) := by decide +kernel
theorem dX7_put_62 : decode cX7_put 62 = .ok (.return_, 1) := by decide +kernel
set_option maxRecDepth 20000 in
theorem ggX7_addDimension_X7_within : GoodIn wsX7_addDimension wsX7_within := goodIn_r _ [8] (by decide +kernel) (by decide +kernel)
set_option maxRecDepth 20000 in
theorem gX7_addDimension_X7_within : GoodIn wsX7_addDimension (va_wsS RX7 70 yX7_within wsX7_within) := goodIn_app (goodIn_of _ (by decide +kernel)) ggX7_addDimension_X7_within
set_option maxRecDepth 20000 in
theorem ggX7_addDimension_X7_areDeviations : GoodIn wsX7_addDimension wsX7_areDeviations := goodIn_r _ [11, 5, 6, 7, 8] (by decide +kernel) (by decide +kernel)
set_option maxRecDepth 20000 in
theorem gX7_addDimension_X7_areDeviations : GoodIn wsX7_addDimension (va_wsS RX7 79 yX7_areDeviations wsX7_areDeviations) := goodIn_app (goodIn_of _ (by decide +kernel)) ggX7_addDimension_X7_areDeviations
set_option maxRecDepth 20000 in
theorem ggX7_addDimension_X7_isFace : GoodIn wsX7_addDimension wsX7_isFace := goodIn_r _ [15, 16, 5, 6, 7, 8, 26, 27, 28, 29, 30, 31, 32, 33, 34, 35, 36, 37, 38, 39, 40, 41, 42, 43, 44, 45, 46, 47, 48, 49, 50, 51, 52, 53, 54, 55, 56, 57, 58, 59] (by decide +kernel) (by decide +kernel)
set_option maxRecDepth 20000 in
theorem gX7_addDimension_X7_isFace : GoodIn wsX7_addDimension (wsV RX7 83 RX7 yX7_isFace wsX7_isFace) := goodIn_app (goodIn_of _ (by decide +kernel)) ggX7_addDimension_X7_isFace
set_option maxRecDepth 20000 in
theorem ggX7_addDimension_X7_put : GoodIn wsX7_addDimension wsX7_put := goodIn_r _ [20, 21, 3, 22, 23, 24, 25, 26, 27, 28, 29, 30, 31, 32, 33, 34, 35, 36, 37, 38, 39, 40, 41, 42, 43, 44, 45, 46, 47, 48, 49, 50, 51, 52, 53, 54, 55, 56, 57, 58, 59] (by decide +kernel) (by decide +kernel)
set_option maxRecDepth 20000 in
theorem gX7_addDimension_X7_put : GoodIn wsX7_addDimension (wsV RX7 87 RX7 yX7_put wsX7_put) := goodIn_app (goodIn_of _ (by decide +kernel)) ggX7_addDimension_X7_put
theorem dX7_addDimension_0 : decode cX7_addDimension 0 = .ok (.iload_n 1, 1) := by decide +kernel
theorem dX7_addDimension_1 : decode cX7_addDimension 1 = .ok (.iload_n 2, 1) := by decide +kernel
theorem dX7_addDimension_2 : decode cX7_addDimension 2 = .ok (.if_icmp .eq 28, 3) := by decide +kernel
theorem dX7_addDimension_5 : decode cX7_addDimension 5 = .ok (.iload_n 3, 1) := by decide +kernel
theorem dX7_addDimension_6 : decode cX7_addDimension 6 = .ok (.ldc 77, 2) := by decide +kernel
theorem dX7_addDimension_8 : decode cX7_addDimension 8 = .ok (.ldc 78, 2) := by decide +kernel
theorem dX7_addDimension_10 : decode cX7_addDimension 10 = .ok (.invokestatic 70, 3) := by decide +kernel
theorem dX7_addDimension_13 : decode cX7_addDimension 13 = .ok (.ifCond .eq 17, 3) := by decide +kernel
theorem dX7_addDimension_16 : decode cX7_addDimension 16 = .ok (.iload 4, 2) := by decide +kernel
theorem dX7_addDimension_18 : decode cX7_addDimension 18 = .ok (.iload 5, 2) := by decide +kernel
theorem dX7_addDimension_20 : decode cX7_addDimension 20 = .ok (.invokestatic 79, 3) := by decide +kernel
theorem dX7_addDimension_23 : decode cX7_addDimension 23 = .ok (.ifCond .eq 7, 3) := by decide +kernel
theorem dX7_addDimension_26 : decode cX7_addDimension 26 = .ok (.iconst 1, 1) := by decide +kernel
theorem dX7_addDimension_27 : decode cX7_addDimension 27 = .ok (.goto 4, 3) := by decide +kernel
theorem dX7_addDimension_30 : decode cX7_addDimension 30 = .ok (.iconst 0, 1) := by decide +kernel
theorem dX7_addDimension_31 : decode cX7_addDimension 31 = .ok (.istore 6, 2) := by decide +kernel
theorem dX7_addDimension_33 : decode cX7_addDimension 33 = .ok (.aload_n 0, 1) := by decide +kernel
theorem dX7_addDimension_34 : decode cX7_addDimension 34 = .ok (.aload_n 0, 1) := by decide +kernel
theorem dX7_addDimension_35 : decode cX7_addDimension 35 = .ok (.iload_n 1, 1) := by decide +kernel
theorem dX7_addDimension_36 : decode cX7_addDimension 36 = .ok (.invokevirtual 83, 3) := by decide +kernel
theorem dX7_addDimension_39 : decode cX7_addDimension 39 = .ok (.ifCond .eq 11, 3) := by decide +kernel
theorem dX7_addDimension_42 : decode cX7_addDimension 42 = .ok (.aload_n 0, 1) := by decide +kernel
theorem dX7_addDimension_43 : decode cX7_addDimension 43 = .ok (.iload_n 2, 1) := by decide +kernel
theorem dX7_addDimension_44 : decode cX7_addDimension 44 = .ok (.invokevirtual 83, 3) := by decide +kernel
theorem dX7_addDimension_47 : decode cX7_addDimension 47 = .ok (.ifCond .ne 7, 3) := by decide +kernel
theorem dX7_addDimension_50 : decode cX7_addDimension 50 = .ok (.iconst 1, 1) := by decide +kernel
theorem dX7_addDimension_51 : decode cX7_addDimension 51 = .ok (.goto 26, 3) := by decide +kernel
theorem dX7_addDimension_54 : decode cX7_addDimension 54 = .ok (.iload 6, 2) := by decide +kernel
theorem dX7_addDimension_56 : decode cX7_addDimension 56 = .ok (.ifCond .ne 7, 3) := by decide +kernel
theorem dX7_addDimension_59 : decode cX7_addDimension 59 = .ok (.iconst 2, 1) := by decide +kernel
theorem dX7_addDimension_60 : decode cX7_addDimension 60 = .ok (.goto 17, 3) := by decide +kernel
theorem dX7_addDimension_63 : decode cX7_addDimension 63 = .ok (.aload_n 0, 1) := by decide +kernel
theorem dX7_addDimension_64 : decode cX7_addDimension 64 = .ok (.getfield 74, 3) := by decide +kernel
theorem dX7_addDimension_67 : decode cX7_addDimension 67 = .ok (.bipush 20, 2) := by decide +kernel
theorem dX7_addDimension_69 : decode cX7_addDimension 69 = .ok (.if_icmp .ne 7, 3) := by decide +kernel
theorem dX7_addDimension_72 : decode cX7_addDimension 72 = .ok (.iconst 3, 1) := by decide +kernel
theorem dX7_addDimension_73 : decode cX7_addDimension 73 = .ok (.goto 4, 3) := by decide +kernel
theorem dX7_addDimension_76 : decode cX7_addDimension 76 = .ok (.iconst 0, 1) := by decide +kernel
theorem dX7_addDimension_77 : decode cX7_addDimension 77 = .ok (.putfield 67, 3) := by decide +kernel
theorem dX7_addDimension_80 : decode cX7_addDimension 80 = .ok (.aload_n 0, 1) := by decide +kernel
theorem dX7_addDimension_81 : decode cX7_addDimension 81 = .ok (.getfield 67, 3) := by decide +kernel
theorem dX7_addDimension_84 : decode cX7_addDimension 84 = .ok (.ifCond .le 5, 3) := by decide +kernel
theorem dX7_addDimension_87 : decode cX7_addDimension 87 = .ok (.iconst 0, 1) := by decide +kernel
theorem dX7_addDimension_88 : decode cX7_addDimension 88 = .ok (.ireturn, 1) := by decide +kernel
theorem dX7_addDimension_89 : decode cX7_addDimension 89 = .ok (.aload_n 0, 1) := by decide +kernel
theorem dX7_addDimension_90 : decode cX7_addDimension 90 = .ok (.iload_n 1, 1) := by decide +kernel
theorem dX7_addDimension_91 : decode cX7_addDimension 91 = .ok (.iload_n 2, 1) := by decide +kernel
theorem dX7_addDimension_92 : decode cX7_addDimension 92 = .ok (.iload_n 3, 1) := by decide +kernel
theorem dX7_addDimension_93 : decode cX7_addDimension 93 = .ok (.iload 4, 2) := by decide +kernel
theorem dX7_addDimension_95 : decode cX7_addDimension 95 = .ok (.iload 5, 2) := by decide +kernel
theorem dX7_addDimension_97 : decode cX7_addDimension 97 = .ok (.invokevirtual 87, 3) := by decide +kernel
theorem dX7_addDimension_100 : decode cX7_addDimension 100 = .ok (.aload_n 0, 1) := by decide +kernel
theorem dX7_addDimension_101 : decode cX7_addDimension 101 = .ok (.getfield 74, 3) := by decide +kernel
theorem dX7_addDimension_104 : decode cX7_addDimension 104 = .ok (.iconst 1, 1) := by decide +kernel
theorem dX7_addDimension_105 : decode cX7_addDimension 105 = .ok (.isub, 1) := by decide +kernel
theorem dX7_addDimension_106 : decode cX7_addDimension 106 = .ok (.ireturn, 1) := by decide +kernel
set_option maxRecDepth 20000 in
theorem ggX7_removeDimension_X7_isDimension : GoodIn wsX7_removeDimension wsX7_isDimension := goodIn_r _ [12, 2, 13, 14, 11, 15, 16, 17, 18, 19, 20, 21, 22, 23, 24, 25, 26, 27, 28, 29, 30, 31, 32, 33, 34, 35, 36, 37, 38, 39, 40, 41, 42, 43, 44, 45, 46, 47, 48, 49] (by decide +kernel) (by decide +kernel)
set_option maxRecDepth 20000 in
theorem gX7_removeDimension_X7_isDimension : GoodIn wsX7_removeDimension (wsV RX7 91 RX7 yX7_isDimension wsX7_isDimension) := goodIn_app (goodIn_of _ (by decide +kernel)) ggX7_removeDimension_X7_isDimension
theorem dX7_removeDimension_0 : decode cX7_removeDimension 0 = .ok (.aload_n 0, 1) := by decide +kernel
theorem dX7_removeDimension_1 : decode cX7_removeDimension 1 = .ok (.aload_n 0, 1) := by decide +kernel
theorem dX7_removeDimension_2 : decode cX7_removeDimension 2 = .ok (.iload_n 1, 1) := by decide +kernel
theorem dX7_removeDimension_3 : decode cX7_removeDimension 3 = .ok (.invokevirtual 91, 3) := by decide +kernel
theorem dX7_removeDimension_6 : decode cX7_removeDimension 6 = .ok (.ifCond .eq 7, 3) := by decide +kernel
theorem dX7_removeDimension_9 : decode cX7_removeDimension 9 = .ok (.iconst 0, 1) := by decide +kernel
theorem dX7_removeDimension_10 : decode cX7_removeDimension 10 = .ok (.goto 4, 3) := by decide +kernel
theorem dX7_removeDimension_13 : decode cX7_removeDimension 13 = .ok (.iconst 1, 1) := by decide +kernel
theorem dX7_removeDimension_14 : decode cX7_removeDimension 14 = .ok (.putfield 67, 3) := by decide +kernel
theorem dX7_removeDimension_17 : decode cX7_removeDimension 17 = .ok (.aload_n 0, 1) := by decide +kernel
theorem dX7_removeDimension_18 : decode cX7_removeDimension 18 = .ok (.getfield 67, 3) := by decide +kernel
theorem dX7_removeDimension_21 : decode cX7_removeDimension 21 = .ok (.ifCond .le 5, 3) := by decide +kernel
theorem dX7_removeDimension_24 : decode cX7_removeDimension 24 = .ok (.iconst 0, 1) := by decide +kernel
theorem dX7_removeDimension_25 : decode cX7_removeDimension 25 = .ok (.ireturn, 1) := by decide +kernel
theorem dX7_removeDimension_26 : decode cX7_removeDimension 26 = .ok (.aload_n 0, 1) := by decide +kernel
theorem dX7_removeDimension_27 : decode cX7_removeDimension 27 = .ok (.dup, 1) := by decide +kernel
theorem dX7_removeDimension_28 : decode cX7_removeDimension 28 = .ok (.getfield 74, 3) := by decide +kernel
theorem dX7_removeDimension_31 : decode cX7_removeDimension 31 = .ok (.iconst 1, 1) := by decide +kernel
theorem dX7_removeDimension_32 : decode cX7_removeDimension 32 = .ok (.isub, 1) := by decide +kernel
theorem dX7_removeDimension_33 : decode cX7_removeDimension 33 = .ok (.putfield 74, 3) := by decide +kernel
theorem dX7_removeDimension_36 : decode cX7_removeDimension 36 = .ok (.iload_n 1, 1) := by decide +kernel
theorem dX7_removeDimension_37 : decode cX7_removeDimension 37 = .ok (.istore_n 2, 1) := by decide +kernel
theorem dX7_removeDimension_38 : decode cX7_removeDimension 38 = .ok (.iload_n 2, 1) := by decide +kernel
theorem dX7_removeDimension_39 : decode cX7_removeDimension 39 = .ok (.aload_n 0, 1) := by decide +kernel
theorem dX7_removeDimension_40 : decode cX7_removeDimension 40 = .ok (.getfield 74, 3) := by decide +kernel
theorem dX7_removeDimension_43 : decode cX7_removeDimension 43 = .ok (.if_icmp .ge 79, 3) := by decide +kernel
theorem dX7_removeDimension_46 : decode cX7_removeDimension 46 = .ok (.aload_n 0, 1) := by decide +kernel
theorem dX7_removeDimension_47 : decode cX7_removeDimension 47 = .ok (.getfield 13, 3) := by decide +kernel
theorem dX7_removeDimension_50 : decode cX7_removeDimension 50 = .ok (.iload_n 2, 1) := by decide +kernel
theorem dX7_removeDimension_51 : decode cX7_removeDimension 51 = .ok (.aload_n 0, 1) := by decide +kernel
theorem dX7_removeDimension_52 : decode cX7_removeDimension 52 = .ok (.getfield 13, 3) := by decide +kernel
theorem dX7_removeDimension_55 : decode cX7_removeDimension 55 = .ok (.iload_n 2, 1) := by decide +kernel
theorem dX7_removeDimension_56 : decode cX7_removeDimension 56 = .ok (.iconst 1, 1) := by decide +kernel
theorem dX7_removeDimension_57 : decode cX7_removeDimension 57 = .ok (.iadd, 1) := by decide +kernel
theorem dX7_removeDimension_58 : decode cX7_removeDimension 58 = .ok (.iaload, 1) := by decide +kernel
theorem dX7_removeDimension_59 : decode cX7_removeDimension 59 = .ok (.iastore, 1) := by decide +kernel
theorem dX7_removeDimension_60 : decode cX7_removeDimension 60 = .ok (.aload_n 0, 1) := by decide +kernel
theorem dX7_removeDimension_61 : decode cX7_removeDimension 61 = .ok (.getfield 17, 3) := by decide +kernel
theorem dX7_removeDimension_64 : decode cX7_removeDimension 64 = .ok (.iload_n 2, 1) := by decide +kernel
theorem dX7_removeDimension_65 : decode cX7_removeDimension 65 = .ok (.aload_n 0, 1) := by decide +kernel
theorem dX7_removeDimension_66 : decode cX7_removeDimension 66 = .ok (.getfield 17, 3) := by decide +kernel
theorem dX7_removeDimension_69 : decode cX7_removeDimension 69 = .ok (.iload_n 2, 1) := by decide +kernel
theorem dX7_removeDimension_70 : decode cX7_removeDimension 70 = .ok (.iconst 1, 1) := by decide +kernel
theorem dX7_removeDimension_71 : decode cX7_removeDimension 71 = .ok (.iadd, 1) := by decide +kernel
theorem dX7_removeDimension_72 : decode cX7_removeDimension 72 = .ok (.iaload, 1) := by decide +kernel
theorem dX7_removeDimension_73 : decode cX7_removeDimension 73 = .ok (.iastore, 1) := by decide +kernel
theorem dX7_removeDimension_74 : decode cX7_removeDimension 74 = .ok (.aload_n 0, 1) := by decide +kernel
theorem dX7_removeDimension_75 : decode cX7_removeDimension 75 = .ok (.getfield 20, 3) := by decide +kernel
theorem dX7_removeDimension_78 : decode cX7_removeDimension 78 = .ok (.iload_n 2, 1) := by decide +kernel
theorem dX7_removeDimension_79 : decode cX7_removeDimension 79 = .ok (.aload_n 0, 1) := by decide +kernel
theorem dX7_removeDimension_80 : decode cX7_removeDimension 80 = .ok (.getfield 20, 3) := by decide +kernel
theorem dX7_removeDimension_83 : decode cX7_removeDimension 83 = .ok (.iload_n 2, 1) := by decide +kernel
theorem dX7_removeDimension_84 : decode cX7_removeDimension 84 = .ok (.iconst 1, 1) := by decide +kernel
theorem dX7_removeDimension_85 : decode cX7_removeDimension 85 = .ok (.iadd, 1) := by decide +kernel
theorem dX7_removeDimension_86 : decode cX7_removeDimension 86 = .ok (.iaload, 1) := by decide +kernel
theorem dX7_removeDimension_87 : decode cX7_removeDimension 87 = .ok (.iastore, 1) := by decide +kernel
theorem dX7_removeDimension_88 : decode cX7_removeDimension 88 = .ok (.aload_n 0, 1) := by decide +kernel
theorem dX7_removeDimension_89 : decode cX7_removeDimension 89 = .ok (.getfield 23, 3) := by decide +kernel
theorem dX7_removeDimension_92 : decode cX7_removeDimension 92 = .ok (.iload_n 2, 1) := by decide +kernel
theorem dX7_removeDimension_93 : decode cX7_removeDimension 93 = .ok (.aload_n 0, 1) := by decide +kernel
theorem dX7_removeDimension_94 : decode cX7_removeDimension 94 = .ok (.getfield 23, 3) := by decide +kernel
theorem dX7_removeDimension_97 : decode cX7_removeDimension 97 = .ok (.iload_n 2, 1) := by decide +kernel
theorem dX7_removeDimension_98 : decode cX7_removeDimension 98 = .ok (.iconst 1, 1) := by decide +kernel
theorem dX7_removeDimension_99 : decode cX7_removeDimension 99 = .ok (.iadd, 1) := by decide +kernel
theorem dX7_removeDimension_100 : decode cX7_removeDimension 100 = .ok (.iaload, 1) := by decide +kernel
theorem dX7_removeDimension_101 : decode cX7_removeDimension 101 = .ok (.iastore, 1) := by decide +kernel
theorem dX7_removeDimension_102 : decode cX7_removeDimension 102 = .ok (.aload_n 0, 1) := by decide +kernel
theorem dX7_removeDimension_103 : decode cX7_removeDimension 103 = .ok (.getfield 26, 3) := by decide +kernel
theorem dX7_removeDimension_106 : decode cX7_removeDimension 106 = .ok (.iload_n 2, 1) := by decide +kernel
theorem dX7_removeDimension_107 : decode cX7_removeDimension 107 = .ok (.aload_n 0, 1) := by decide +kernel
theorem dX7_removeDimension_108 : decode cX7_removeDimension 108 = .ok (.getfield 26, 3) := by decide +kernel
theorem dX7_removeDimension_111 : decode cX7_removeDimension 111 = .ok (.iload_n 2, 1) := by decide +kernel
theorem dX7_removeDimension_112 : decode cX7_removeDimension 112 = .ok (.iconst 1, 1) := by decide +kernel
theorem dX7_removeDimension_113 : decode cX7_removeDimension 113 = .ok (.iadd, 1) := by decide +kernel
theorem dX7_removeDimension_114 : decode cX7_removeDimension 114 = .ok (.iaload, 1) := by decide +kernel
theorem dX7_removeDimension_115 : decode cX7_removeDimension 115 = .ok (.iastore, 1) := by decide +kernel
theorem dX7_removeDimension_116 : decode cX7_removeDimension 116 = .ok (.iinc 2 1, 3) := by decide +kernel
theorem dX7_removeDimension_119 : decode cX7_removeDimension 119 = .ok (.goto (-81), 3) := by decide +kernel
theorem dX7_removeDimension_122 : decode cX7_removeDimension 122 = .ok (.aload_n 0, 1) := by decide +kernel
theorem dX7_removeDimension_123 : decode cX7_removeDimension 123 = .ok (.getfield 74, 3) := by decide +kernel
theorem dX7_removeDimension_126 : decode cX7_removeDimension 126 = .ok (.ireturn, 1) := by decide +kernel
theorem dX7_width_0 : decode cX7_width 0 = .ok (.aload_n 0, 1) := by decide +kernel
theorem dX7_width_1 : decode cX7_width 1 = .ok (.getfield 26, 3) := by decide +kernel
theorem dX7_width_4 : decode cX7_width 4 = .ok (.iload_n 1, 1) := by decide +kernel
theorem dX7_width_5 : decode cX7_width 5 = .ok (.iaload, 1) := by decide +kernel
theorem dX7_width_6 : decode cX7_width 6 = .ok (.aload_n 0, 1) := by decide +kernel
theorem dX7_width_7 : decode cX7_width 7 = .ok (.getfield 23, 3) := by decide +kernel
theorem dX7_width_10 : decode cX7_width 10 = .ok (.iload_n 1, 1) := by decide +kernel
theorem dX7_width_11 : decode cX7_width 11 = .ok (.iaload, 1) := by decide +kernel
theorem dX7_width_12 : decode cX7_width 12 = .ok (.isub, 1) := by decide +kernel
theorem dX7_width_13 : decode cX7_width 13 = .ok (.ireturn, 1) := by decide +kernel
set_option maxRecDepth 20000 in
theorem ggX7_setDeviations_X7_isDimension : GoodIn wsX7_setDeviations wsX7_isDimension := goodIn_r _ [8, 9, 10, 11, 7, 12, 20, 21, 22, 23, 24, 25, 26, 27, 28, 29, 30, 31, 32, 33, 34, 35, 36, 37, 38, 39, 40, 41, 42, 43, 44, 45, 46, 47, 48, 49, 50, 51, 52, 53] (by decide +kernel) (by decide +kernel)
set_option maxRecDepth 20000 in
theorem gX7_setDeviations_X7_isDimension : GoodIn wsX7_setDeviations (wsV RX7 91 RX7 yX7_isDimension wsX7_isDimension) := goodIn_app (goodIn_of _ (by decide +kernel)) ggX7_setDeviations_X7_isDimension
set_option maxRecDepth 20000 in
theorem ggX7_setDeviations_X7_areDeviations : GoodIn wsX7_setDeviations wsX7_areDeviations := goodIn_r _ [15, 10, 11, 7, 12] (by decide +kernel) (by decide +kernel)
set_option maxRecDepth 20000 in
theorem gX7_setDeviations_X7_areDeviations : GoodIn wsX7_setDeviations (va_wsS RX7 79 yX7_areDeviations wsX7_areDeviations) := goodIn_app (goodIn_of _ (by decide +kernel)) ggX7_setDeviations_X7_areDeviations
set_option maxRecDepth 20000 in
theorem ggX7_setDeviations_X7_width : GoodIn wsX7_setDeviations wsX7_width := goodIn_r _ [19, 3, 2, 20, 21, 22, 23, 24, 25, 26, 27, 28, 29, 30, 31, 32, 33, 34, 35, 36, 37, 38, 39, 40, 41, 42, 43, 44, 45, 46, 47, 48, 49, 50, 51, 52, 53] (by decide +kernel) (by decide +kernel)
set_option maxRecDepth 20000 in
theorem gX7_setDeviations_X7_width : GoodIn wsX7_setDeviations (wsV RX7 94 RX7 yX7_width wsX7_width) := goodIn_app (goodIn_of _ (by decide +kernel)) ggX7_setDeviations_X7_width
theorem dX7_setDeviations_0 : decode cX7_setDeviations 0 = .ok (.aload_n 0, 1) := by decide +kernel
theorem dX7_setDeviations_1 : decode cX7_setDeviations 1 = .ok (.aload_n 0, 1) := by decide +kernel
theorem dX7_setDeviations_2 : decode cX7_setDeviations 2 = .ok (.iload_n 1, 1) := by decide +kernel
theorem dX7_setDeviations_3 : decode cX7_setDeviations 3 = .ok (.invokevirtual 91, 3) := by decide +kernel
theorem dX7_setDeviations_6 : decode cX7_setDeviations 6 = .ok (.ifCond .ne 7, 3) := by decide +kernel
theorem dX7_setDeviations_9 : decode cX7_setDeviations 9 = .ok (.iconst 1, 1) := by decide +kernel
theorem dX7_setDeviations_10 : decode cX7_setDeviations 10 = .ok (.goto 16, 3) := by decide +kernel
theorem dX7_setDeviations_13 : decode cX7_setDeviations 13 = .ok (.iload_n 2, 1) := by decide +kernel
theorem dX7_setDeviations_14 : decode cX7_setDeviations 14 = .ok (.iload_n 3, 1) := by decide +kernel
theorem dX7_setDeviations_15 : decode cX7_setDeviations 15 = .ok (.invokestatic 79, 3) := by decide +kernel
theorem dX7_setDeviations_18 : decode cX7_setDeviations 18 = .ok (.ifCond .eq 7, 3) := by decide +kernel
theorem dX7_setDeviations_21 : decode cX7_setDeviations 21 = .ok (.iconst 0, 1) := by decide +kernel
theorem dX7_setDeviations_22 : decode cX7_setDeviations 22 = .ok (.goto 4, 3) := by decide +kernel
theorem dX7_setDeviations_25 : decode cX7_setDeviations 25 = .ok (.iconst 2, 1) := by decide +kernel
theorem dX7_setDeviations_26 : decode cX7_setDeviations 26 = .ok (.putfield 67, 3) := by decide +kernel
theorem dX7_setDeviations_29 : decode cX7_setDeviations 29 = .ok (.aload_n 0, 1) := by decide +kernel
theorem dX7_setDeviations_30 : decode cX7_setDeviations 30 = .ok (.getfield 67, 3) := by decide +kernel
theorem dX7_setDeviations_33 : decode cX7_setDeviations 33 = .ok (.ifCond .le 5, 3) := by decide +kernel
theorem dX7_setDeviations_36 : decode cX7_setDeviations 36 = .ok (.iconst 0, 1) := by decide +kernel
theorem dX7_setDeviations_37 : decode cX7_setDeviations 37 = .ok (.ireturn, 1) := by decide +kernel
theorem dX7_setDeviations_38 : decode cX7_setDeviations 38 = .ok (.aload_n 0, 1) := by decide +kernel
theorem dX7_setDeviations_39 : decode cX7_setDeviations 39 = .ok (.iload_n 1, 1) := by decide +kernel
theorem dX7_setDeviations_40 : decode cX7_setDeviations 40 = .ok (.invokevirtual 94, 3) := by decide +kernel
theorem dX7_setDeviations_43 : decode cX7_setDeviations 43 = .ok (.istore 4, 2) := by decide +kernel
theorem dX7_setDeviations_45 : decode cX7_setDeviations 45 = .ok (.aload_n 0, 1) := by decide +kernel
theorem dX7_setDeviations_46 : decode cX7_setDeviations 46 = .ok (.getfield 23, 3) := by decide +kernel
theorem dX7_setDeviations_49 : decode cX7_setDeviations 49 = .ok (.iload_n 1, 1) := by decide +kernel
theorem dX7_setDeviations_50 : decode cX7_setDeviations 50 = .ok (.iload_n 2, 1) := by decide +kernel
theorem dX7_setDeviations_51 : decode cX7_setDeviations 51 = .ok (.iastore, 1) := by decide +kernel
theorem dX7_setDeviations_52 : decode cX7_setDeviations 52 = .ok (.aload_n 0, 1) := by decide +kernel
theorem dX7_setDeviations_53 : decode cX7_setDeviations 53 = .ok (.getfield 26, 3) := by decide +kernel
theorem dX7_setDeviations_56 : decode cX7_setDeviations 56 = .ok (.iload_n 1, 1) := by decide +kernel
theorem dX7_setDeviations_57 : decode cX7_setDeviations 57 = .ok (.iload_n 3, 1) := by decide +kernel
theorem dX7_setDeviations_58 : decode cX7_setDeviations 58 = .ok (.iastore, 1) := by decide +kernel
theorem dX7_setDeviations_59 : decode cX7_setDeviations 59 = .ok (.iload 4, 2) := by decide +kernel
theorem dX7_setDeviations_61 : decode cX7_setDeviations 61 = .ok (.ireturn, 1) := by decide +kernel
theorem dX7_column_0 : decode cX7_column 0 = .ok (.iload_n 0, 1) := by decide +kernel
theorem dX7_column_1 : decode cX7_column 1 = .ok (.ifCond .ge 8, 3) := by decide +kernel
theorem dX7_column_4 : decode cX7_column 4 = .ok (.iload_n 0, 1) := by decide +kernel
theorem dX7_column_5 : decode cX7_column 5 = .ok (.ineg, 1) := by decide +kernel
theorem dX7_column_6 : decode cX7_column 6 = .ok (.goto 4, 3) := by decide +kernel
theorem dX7_column_9 : decode cX7_column 9 = .ok (.iload_n 0, 1) := by decide +kernel
theorem dX7_column_10 : decode cX7_column 10 = .ok (.istore_n 1, 1) := by decide +kernel
theorem dX7_column_11 : decode cX7_column 11 = .ok (.iload_n 1, 1) := by decide +kernel
theorem dX7_column_12 : decode cX7_column 12 = .ok (.sipush 300, 3) := by decide +kernel
theorem dX7_column_15 : decode cX7_column 15 = .ok (.if_icmp .gt 7, 3) := by decide +kernel
theorem dX7_column_18 : decode cX7_column 18 = .ok (.iconst 0, 1) := by decide +kernel
theorem dX7_column_19 : decode cX7_column 19 = .ok (.goto 47, 3) := by decide +kernel
theorem dX7_column_22 : decode cX7_column 22 = .ok (.iload_n 1, 1) := by decide +kernel
theorem dX7_column_23 : decode cX7_column 23 = .ok (.sipush 600, 3) := by decide +kernel
theorem dX7_column_26 : decode cX7_column 26 = .ok (.if_icmp .gt 7, 3) := by decide +kernel
theorem dX7_column_29 : decode cX7_column 29 = .ok (.iconst 1, 1) := by decide +kernel
theorem dX7_column_30 : decode cX7_column 30 = .ok (.goto 36, 3) := by decide +kernel
theorem dX7_column_33 : decode cX7_column 33 = .ok (.iload_n 1, 1) := by decide +kernel
theorem dX7_column_34 : decode cX7_column 34 = .ok (.sipush 3000, 3) := by decide +kernel
theorem dX7_column_37 : decode cX7_column 37 = .ok (.if_icmp .gt 7, 3) := by decide +kernel
theorem dX7_column_40 : decode cX7_column 40 = .ok (.iconst 2, 1) := by decide +kernel
theorem dX7_column_41 : decode cX7_column 41 = .ok (.goto 25, 3) := by decide +kernel
theorem dX7_column_44 : decode cX7_column 44 = .ok (.iload_n 1, 1) := by decide +kernel
theorem dX7_column_45 : decode cX7_column 45 = .ok (.sipush 12000, 3) := by decide +kernel
theorem dX7_column_48 : decode cX7_column 48 = .ok (.if_icmp .gt 7, 3) := by decide +kernel
theorem dX7_column_51 : decode cX7_column 51 = .ok (.iconst 3, 1) := by decide +kernel
theorem dX7_column_52 : decode cX7_column 52 = .ok (.goto 14, 3) := by decide +kernel
theorem dX7_column_55 : decode cX7_column 55 = .ok (.iload_n 1, 1) := by decide +kernel
theorem dX7_column_56 : decode cX7_column 56 = .ok (.ldc 98, 2) := by decide +kernel
theorem dX7_column_58 : decode cX7_column 58 = .ok (.if_icmp .gt 7, 3) := by decide +kernel
theorem dX7_column_61 : decode cX7_column 61 = .ok (.iconst 4, 1) := by decide +kernel
theorem dX7_column_62 : decode cX7_column 62 = .ok (.goto 4, 3) := by decide +kernel
theorem dX7_column_65 : decode cX7_column 65 = .ok (.iconst 5, 1) := by decide +kernel
theorem dX7_column_66 : decode cX7_column 66 = .ok (.ireturn, 1) := by decide +kernel
theorem dX7_tolerance_0 : decode cX7_tolerance 0 = .ok (.iload_n 1, 1) := by decide +kernel
theorem dX7_tolerance_1 : decode cX7_tolerance 1 = .ok (.tableswitch 215 0 4 #[35, 70, 105, 141, 178], 35) := by decide +kernel
theorem dX7_tolerance_36 : decode cX7_tolerance 36 = .ok (.iload_n 0, 1) := by decide +kernel
theorem dX7_tolerance_37 : decode cX7_tolerance 37 = .ok (.bipush 102, 2) := by decide +kernel
theorem dX7_tolerance_39 : decode cX7_tolerance 39 = .ok (.if_icmp .ne 7, 3) := by decide +kernel
theorem dX7_tolerance_42 : decode cX7_tolerance 42 = .ok (.iconst 5, 1) := by decide +kernel
theorem dX7_tolerance_43 : decode cX7_tolerance 43 = .ok (.goto 27, 3) := by decide +kernel
theorem dX7_tolerance_46 : decode cX7_tolerance 46 = .ok (.iload_n 0, 1) := by decide +kernel
theorem dX7_tolerance_47 : decode cX7_tolerance 47 = .ok (.bipush 109, 2) := by decide +kernel
theorem dX7_tolerance_49 : decode cX7_tolerance 49 = .ok (.if_icmp .ne 8, 3) := by decide +kernel
theorem dX7_tolerance_52 : decode cX7_tolerance 52 = .ok (.bipush 10, 2) := by decide +kernel
theorem dX7_tolerance_54 : decode cX7_tolerance 54 = .ok (.goto 16, 3) := by decide +kernel
theorem dX7_tolerance_57 : decode cX7_tolerance 57 = .ok (.iload_n 0, 1) := by decide +kernel
theorem dX7_tolerance_58 : decode cX7_tolerance 58 = .ok (.bipush 99, 2) := by decide +kernel
theorem dX7_tolerance_60 : decode cX7_tolerance 60 = .ok (.if_icmp .ne 8, 3) := by decide +kernel
theorem dX7_tolerance_63 : decode cX7_tolerance 63 = .ok (.bipush 20, 2) := by decide +kernel
theorem dX7_tolerance_65 : decode cX7_tolerance 65 = .ok (.goto 5, 3) := by decide +kernel
theorem dX7_tolerance_68 : decode cX7_tolerance 68 = .ok (.bipush 50, 2) := by decide +kernel
theorem dX7_tolerance_70 : decode cX7_tolerance 70 = .ok (.ireturn, 1) := by decide +kernel
theorem dX7_tolerance_71 : decode cX7_tolerance 71 = .ok (.iload_n 0, 1) := by decide +kernel
theorem dX7_tolerance_72 : decode cX7_tolerance 72 = .ok (.bipush 102, 2) := by decide +kernel
theorem dX7_tolerance_74 : decode cX7_tolerance 74 = .ok (.if_icmp .ne 7, 3) := by decide +kernel
theorem dX7_tolerance_77 : decode cX7_tolerance 77 = .ok (.iconst 5, 1) := by decide +kernel
theorem dX7_tolerance_78 : decode cX7_tolerance 78 = .ok (.goto 27, 3) := by decide +kernel
theorem dX7_tolerance_81 : decode cX7_tolerance 81 = .ok (.iload_n 0, 1) := by decide +kernel
theorem dX7_tolerance_82 : decode cX7_tolerance 82 = .ok (.bipush 109, 2) := by decide +kernel
theorem dX7_tolerance_84 : decode cX7_tolerance 84 = .ok (.if_icmp .ne 8, 3) := by decide +kernel
theorem dX7_tolerance_87 : decode cX7_tolerance 87 = .ok (.bipush 10, 2) := by decide +kernel
theorem dX7_tolerance_89 : decode cX7_tolerance 89 = .ok (.goto 16, 3) := by decide +kernel
theorem dX7_tolerance_92 : decode cX7_tolerance 92 = .ok (.iload_n 0, 1) := by decide +kernel
theorem dX7_tolerance_93 : decode cX7_tolerance 93 = .ok (.bipush 99, 2) := by decide +kernel
theorem dX7_tolerance_95 : decode cX7_tolerance 95 = .ok (.if_icmp .ne 8, 3) := by decide +kernel
theorem dX7_tolerance_98 : decode cX7_tolerance 98 = .ok (.bipush 30, 2) := by decide +kernel
theorem dX7_tolerance_100 : decode cX7_tolerance 100 = .ok (.goto 5, 3) := by decide +kernel
theorem dX7_tolerance_103 : decode cX7_tolerance 103 = .ok (.bipush 50, 2) := by decide +kernel
theorem dX7_tolerance_105 : decode cX7_tolerance 105 = .ok (.ireturn, 1) := by decide +kernel
theorem dX7_tolerance_106 : decode cX7_tolerance 106 = .ok (.iload_n 0, 1) := by decide +kernel
theorem dX7_tolerance_107 : decode cX7_tolerance 107 = .ok (.bipush 102, 2) := by decide +kernel
theorem dX7_tolerance_109 : decode cX7_tolerance 109 = .ok (.if_icmp .ne 8, 3) := by decide +kernel
theorem dX7_tolerance_112 : decode cX7_tolerance 112 = .ok (.bipush 10, 2) := by decide +kernel
theorem dX7_tolerance_114 : decode cX7_tolerance 114 = .ok (.goto 27, 3) := by decide +kernel
theorem dX7_tolerance_117 : decode cX7_tolerance 117 = .ok (.iload_n 0, 1) := by decide +kernel
theorem dX7_tolerance_118 : decode cX7_tolerance 118 = .ok (.bipush 109, 2) := by decide +kernel
theorem dX7_tolerance_120 : decode cX7_tolerance 120 = .ok (.if_icmp .ne 8, 3) := by decide +kernel
theorem dX7_tolerance_123 : decode cX7_tolerance 123 = .ok (.bipush 20, 2) := by decide +kernel
theorem dX7_tolerance_125 : decode cX7_tolerance 125 = .ok (.goto 16, 3) := by decide +kernel
theorem dX7_tolerance_128 : decode cX7_tolerance 128 = .ok (.iload_n 0, 1) := by decide +kernel
theorem dX7_tolerance_129 : decode cX7_tolerance 129 = .ok (.bipush 99, 2) := by decide +kernel
theorem dX7_tolerance_131 : decode cX7_tolerance 131 = .ok (.if_icmp .ne 8, 3) := by decide +kernel
theorem dX7_tolerance_134 : decode cX7_tolerance 134 = .ok (.bipush 50, 2) := by decide +kernel
theorem dX7_tolerance_136 : decode cX7_tolerance 136 = .ok (.goto 5, 3) := by decide +kernel
theorem dX7_tolerance_139 : decode cX7_tolerance 139 = .ok (.bipush 100, 2) := by decide +kernel
theorem dX7_tolerance_141 : decode cX7_tolerance 141 = .ok (.ireturn, 1) := by decide +kernel
theorem dX7_tolerance_142 : decode cX7_tolerance 142 = .ok (.iload_n 0, 1) := by decide +kernel
theorem dX7_tolerance_143 : decode cX7_tolerance 143 = .ok (.bipush 102, 2) := by decide +kernel
theorem dX7_tolerance_145 : decode cX7_tolerance 145 = .ok (.if_icmp .ne 8, 3) := by decide +kernel
theorem dX7_tolerance_148 : decode cX7_tolerance 148 = .ok (.bipush 15, 2) := by decide +kernel
theorem dX7_tolerance_150 : decode cX7_tolerance 150 = .ok (.goto 28, 3) := by decide +kernel
theorem dX7_tolerance_153 : decode cX7_tolerance 153 = .ok (.iload_n 0, 1) := by decide +kernel
theorem dX7_tolerance_154 : decode cX7_tolerance 154 = .ok (.bipush 109, 2) := by decide +kernel
theorem dX7_tolerance_156 : decode cX7_tolerance 156 = .ok (.if_icmp .ne 8, 3) := by decide +kernel
theorem dX7_tolerance_159 : decode cX7_tolerance 159 = .ok (.bipush 30, 2) := by decide +kernel
theorem dX7_tolerance_161 : decode cX7_tolerance 161 = .ok (.goto 17, 3) := by decide +kernel
theorem dX7_tolerance_164 : decode cX7_tolerance 164 = .ok (.iload_n 0, 1) := by decide +kernel
theorem dX7_tolerance_165 : decode cX7_tolerance 165 = .ok (.bipush 99, 2) := by decide +kernel
theorem dX7_tolerance_167 : decode cX7_tolerance 167 = .ok (.if_icmp .ne 8, 3) := by decide +kernel
theorem dX7_tolerance_170 : decode cX7_tolerance 170 = .ok (.bipush 80, 2) := by decide +kernel
theorem dX7_tolerance_172 : decode cX7_tolerance 172 = .ok (.goto 6, 3) := by decide +kernel
theorem dX7_tolerance_175 : decode cX7_tolerance 175 = .ok (.sipush 150, 3) := by decide +kernel
theorem dX7_tolerance_178 : decode cX7_tolerance 178 = .ok (.ireturn, 1) := by decide +kernel
theorem dX7_tolerance_179 : decode cX7_tolerance 179 = .ok (.iload_n 0, 1) := by decide +kernel
theorem dX7_tolerance_180 : decode cX7_tolerance 180 = .ok (.bipush 102, 2) := by decide +kernel
theorem dX7_tolerance_182 : decode cX7_tolerance 182 = .ok (.if_icmp .ne 8, 3) := by decide +kernel
theorem dX7_tolerance_185 : decode cX7_tolerance 185 = .ok (.bipush 20, 2) := by decide +kernel
theorem dX7_tolerance_187 : decode cX7_tolerance 187 = .ok (.goto 28, 3) := by decide +kernel
theorem dX7_tolerance_190 : decode cX7_tolerance 190 = .ok (.iload_n 0, 1) := by decide +kernel
theorem dX7_tolerance_191 : decode cX7_tolerance 191 = .ok (.bipush 109, 2) := by decide +kernel
theorem dX7_tolerance_193 : decode cX7_tolerance 193 = .ok (.if_icmp .ne 8, 3) := by decide +kernel
theorem dX7_tolerance_196 : decode cX7_tolerance 196 = .ok (.bipush 50, 2) := by decide +kernel
theorem dX7_tolerance_198 : decode cX7_tolerance 198 = .ok (.goto 17, 3) := by decide +kernel
theorem dX7_tolerance_201 : decode cX7_tolerance 201 = .ok (.iload_n 0, 1) := by decide +kernel
theorem dX7_tolerance_202 : decode cX7_tolerance 202 = .ok (.bipush 99, 2) := by decide +kernel
theorem dX7_tolerance_204 : decode cX7_tolerance 204 = .ok (.if_icmp .ne 8, 3) := by decide +kernel
theorem dX7_tolerance_207 : decode cX7_tolerance 207 = .ok (.bipush 120, 2) := by decide +kernel
theorem dX7_tolerance_209 : decode cX7_tolerance 209 = .ok (.goto 6, 3) := by decide +kernel
theorem dX7_tolerance_212 : decode cX7_tolerance 212 = .ok (.sipush 250, 3) := by decide +kernel
theorem dX7_tolerance_215 : decode cX7_tolerance 215 = .ok (.ireturn, 1) := by decide +kernel
theorem dX7_tolerance_216 : decode cX7_tolerance 216 = .ok (.iload_n 0, 1) := by decide +kernel
theorem dX7_tolerance_217 : decode cX7_tolerance 217 = .ok (.bipush 102, 2) := by decide +kernel
theorem dX7_tolerance_219 : decode cX7_tolerance 219 = .ok (.if_icmp .ne 8, 3) := by decide +kernel
theorem dX7_tolerance_222 : decode cX7_tolerance 222 = .ok (.bipush 30, 2) := by decide +kernel
theorem dX7_tolerance_224 : decode cX7_tolerance 224 = .ok (.goto 29, 3) := by decide +kernel
theorem dX7_tolerance_227 : decode cX7_tolerance 227 = .ok (.iload_n 0, 1) := by decide +kernel
theorem dX7_tolerance_228 : decode cX7_tolerance 228 = .ok (.bipush 109, 2) := by decide +kernel
theorem dX7_tolerance_230 : decode cX7_tolerance 230 = .ok (.if_icmp .ne 8, 3) := by decide +kernel
theorem dX7_tolerance_233 : decode cX7_tolerance 233 = .ok (.bipush 80, 2) := by decide +kernel
theorem dX7_tolerance_235 : decode cX7_tolerance 235 = .ok (.goto 18, 3) := by decide +kernel
theorem dX7_tolerance_238 : decode cX7_tolerance 238 = .ok (.iload_n 0, 1) := by decide +kernel
theorem dX7_tolerance_239 : decode cX7_tolerance 239 = .ok (.bipush 99, 2) := by decide +kernel
theorem dX7_tolerance_241 : decode cX7_tolerance 241 = .ok (.if_icmp .ne 9, 3) := by decide +kernel
theorem dX7_tolerance_244 : decode cX7_tolerance 244 = .ok (.sipush 200, 3) := by decide +kernel
theorem dX7_tolerance_247 : decode cX7_tolerance 247 = .ok (.goto 6, 3) := by decide +kernel
theorem dX7_tolerance_250 : decode cX7_tolerance 250 = .ok (.sipush 400, 3) := by decide +kernel
theorem dX7_tolerance_253 : decode cX7_tolerance 253 = .ok (.ireturn, 1) := by decide +kernel
set_option maxRecDepth 20000 in
theorem ggX7_general_X7_column : GoodIn wsX7_general wsX7_column := goodIn_r _ [9, 10] (by decide +kernel) (by decide +kernel)
set_option maxRecDepth 20000 in
theorem gX7_general_X7_column : GoodIn wsX7_general (va_wsS RX7 99 yX7_column wsX7_column) := goodIn_app (goodIn_of _ (by decide +kernel)) ggX7_general_X7_column
set_option maxRecDepth 20000 in
theorem ggX7_general_X7_tolerance : GoodIn wsX7_general wsX7_tolerance := goodIn_r _ [13] (by decide +kernel) (by decide +kernel)
set_option maxRecDepth 20000 in
theorem gX7_general_X7_tolerance : GoodIn wsX7_general (va_wsS RX7 102 yX7_tolerance wsX7_tolerance) := goodIn_app (goodIn_of _ (by decide +kernel)) ggX7_general_X7_tolerance
theorem dX7_general_0 : decode cX7_general 0 = .ok (.aload_n 0, 1) := by decide +kernel
theorem dX7_general_1 : decode cX7_general 1 = .ok (.iload_n 1, 1) := by decide +kernel
theorem dX7_general_2 : decode cX7_general 2 = .ok (.bipush 102, 2) := by decide +kernel
theorem dX7_general_4 : decode cX7_general 4 = .ok (.if_icmp .eq 21, 3) := by decide +kernel
theorem dX7_general_7 : decode cX7_general 7 = .ok (.iload_n 1, 1) := by decide +kernel
theorem dX7_general_8 : decode cX7_general 8 = .ok (.bipush 109, 2) := by decide +kernel
theorem dX7_general_10 : decode cX7_general 10 = .ok (.if_icmp .eq 15, 3) := by decide +kernel
theorem dX7_general_13 : decode cX7_general 13 = .ok (.iload_n 1, 1) := by decide +kernel
theorem dX7_general_14 : decode cX7_general 14 = .ok (.bipush 99, 2) := by decide +kernel
theorem dX7_general_16 : decode cX7_general 16 = .ok (.if_icmp .eq 9, 3) := by decide +kernel
theorem dX7_general_19 : decode cX7_general 19 = .ok (.iload_n 1, 1) := by decide +kernel
theorem dX7_general_20 : decode cX7_general 20 = .ok (.bipush 118, 2) := by decide +kernel
theorem dX7_general_22 : decode cX7_general 22 = .ok (.if_icmp .ne 7, 3) := by decide +kernel
theorem dX7_general_25 : decode cX7_general 25 = .ok (.iconst 0, 1) := by decide +kernel
theorem dX7_general_26 : decode cX7_general 26 = .ok (.goto 4, 3) := by decide +kernel
theorem dX7_general_29 : decode cX7_general 29 = .ok (.iconst 1, 1) := by decide +kernel
theorem dX7_general_30 : decode cX7_general 30 = .ok (.putfield 67, 3) := by decide +kernel
theorem dX7_general_33 : decode cX7_general 33 = .ok (.iconst 0, 1) := by decide +kernel
theorem dX7_general_34 : decode cX7_general 34 = .ok (.istore_n 2, 1) := by decide +kernel
theorem dX7_general_35 : decode cX7_general 35 = .ok (.iconst 0, 1) := by decide +kernel
theorem dX7_general_36 : decode cX7_general 36 = .ok (.istore_n 3, 1) := by decide +kernel
theorem dX7_general_37 : decode cX7_general 37 = .ok (.iload_n 3, 1) := by decide +kernel
theorem dX7_general_38 : decode cX7_general 38 = .ok (.aload_n 0, 1) := by decide +kernel
theorem dX7_general_39 : decode cX7_general 39 = .ok (.getfield 74, 3) := by decide +kernel
theorem dX7_general_42 : decode cX7_general 42 = .ok (.if_icmp .ge 69, 3) := by decide +kernel
theorem dX7_general_45 : decode cX7_general 45 = .ok (.aload_n 0, 1) := by decide +kernel
theorem dX7_general_46 : decode cX7_general 46 = .ok (.getfield 67, 3) := by decide +kernel
theorem dX7_general_49 : decode cX7_general 49 = .ok (.ifCond .ne 62, 3) := by decide +kernel
theorem dX7_general_52 : decode cX7_general 52 = .ok (.aload_n 0, 1) := by decide +kernel
theorem dX7_general_53 : decode cX7_general 53 = .ok (.getfield 23, 3) := by decide +kernel
theorem dX7_general_56 : decode cX7_general 56 = .ok (.iload_n 3, 1) := by decide +kernel
theorem dX7_general_57 : decode cX7_general 57 = .ok (.iaload, 1) := by decide +kernel
theorem dX7_general_58 : decode cX7_general 58 = .ok (.ifCond .ne 47, 3) := by decide +kernel
theorem dX7_general_61 : decode cX7_general 61 = .ok (.aload_n 0, 1) := by decide +kernel
theorem dX7_general_62 : decode cX7_general 62 = .ok (.getfield 26, 3) := by decide +kernel
theorem dX7_general_65 : decode cX7_general 65 = .ok (.iload_n 3, 1) := by decide +kernel
theorem dX7_general_66 : decode cX7_general 66 = .ok (.iaload, 1) := by decide +kernel
theorem dX7_general_67 : decode cX7_general 67 = .ok (.ifCond .ne 38, 3) := by decide +kernel
theorem dX7_general_70 : decode cX7_general 70 = .ok (.aload_n 0, 1) := by decide +kernel
theorem dX7_general_71 : decode cX7_general 71 = .ok (.getfield 26, 3) := by decide +kernel
theorem dX7_general_74 : decode cX7_general 74 = .ok (.iload_n 3, 1) := by decide +kernel
theorem dX7_general_75 : decode cX7_general 75 = .ok (.iload_n 1, 1) := by decide +kernel
theorem dX7_general_76 : decode cX7_general 76 = .ok (.aload_n 0, 1) := by decide +kernel
theorem dX7_general_77 : decode cX7_general 77 = .ok (.getfield 20, 3) := by decide +kernel
theorem dX7_general_80 : decode cX7_general 80 = .ok (.iload_n 3, 1) := by decide +kernel
theorem dX7_general_81 : decode cX7_general 81 = .ok (.iaload, 1) := by decide +kernel
theorem dX7_general_82 : decode cX7_general 82 = .ok (.invokestatic 99, 3) := by decide +kernel
theorem dX7_general_85 : decode cX7_general 85 = .ok (.invokestatic 102, 3) := by decide +kernel
theorem dX7_general_88 : decode cX7_general 88 = .ok (.iastore, 1) := by decide +kernel
theorem dX7_general_89 : decode cX7_general 89 = .ok (.aload_n 0, 1) := by decide +kernel
theorem dX7_general_90 : decode cX7_general 90 = .ok (.getfield 23, 3) := by decide +kernel
theorem dX7_general_93 : decode cX7_general 93 = .ok (.iload_n 3, 1) := by decide +kernel
theorem dX7_general_94 : decode cX7_general 94 = .ok (.aload_n 0, 1) := by decide +kernel
theorem dX7_general_95 : decode cX7_general 95 = .ok (.getfield 26, 3) := by decide +kernel
theorem dX7_general_98 : decode cX7_general 98 = .ok (.iload_n 3, 1) := by decide +kernel
theorem dX7_general_99 : decode cX7_general 99 = .ok (.iaload, 1) := by decide +kernel
theorem dX7_general_100 : decode cX7_general 100 = .ok (.ineg, 1) := by decide +kernel
theorem dX7_general_101 : decode cX7_general 101 = .ok (.iastore, 1) := by decide +kernel
theorem dX7_general_102 : decode cX7_general 102 = .ok (.iinc 2 1, 3) := by decide +kernel
theorem dX7_general_105 : decode cX7_general 105 = .ok (.iinc 3 1, 3) := by decide +kernel
theorem dX7_general_108 : decode cX7_general 108 = .ok (.goto (-71), 3) := by decide +kernel
theorem dX7_general_111 : decode cX7_general 111 = .ok (.iload_n 2, 1) := by decide +kernel
theorem dX7_general_112 : decode cX7_general 112 = .ok (.ireturn, 1) := by decide +kernel
theorem dX7_told_0 : decode cX7_told 0 = .ok (.iload_n 2, 1) := by decide +kernel
theorem dX7_told_1 : decode cX7_told 1 = .ok (.ifCond .ne 12, 3) := by decide +kernel
theorem dX7_told_4 : decode cX7_told 4 = .ok (.aload_n 0, 1) := by decide +kernel
theorem dX7_told_5 : decode cX7_told 5 = .ok (.getfield 13, 3) := by decide +kernel
theorem dX7_told_8 : decode cX7_told 8 = .ok (.iload_n 1, 1) := by decide +kernel
theorem dX7_told_9 : decode cX7_told 9 = .ok (.iaload, 1) := by decide +kernel
theorem dX7_told_10 : decode cX7_told 10 = .ok (.goto 51, 3) := by decide +kernel
theorem dX7_told_13 : decode cX7_told 13 = .ok (.iload_n 2, 1) := by decide +kernel
theorem dX7_told_14 : decode cX7_told 14 = .ok (.iconst 1, 1) := by decide +kernel
theorem dX7_told_15 : decode cX7_told 15 = .ok (.if_icmp .ne 12, 3) := by decide +kernel
theorem dX7_told_18 : decode cX7_told 18 = .ok (.aload_n 0, 1) := by decide +kernel
theorem dX7_told_19 : decode cX7_told 19 = .ok (.getfield 17, 3) := by decide +kernel
theorem dX7_told_22 : decode cX7_told 22 = .ok (.iload_n 1, 1) := by decide +kernel
theorem dX7_told_23 : decode cX7_told 23 = .ok (.iaload, 1) := by decide +kernel
theorem dX7_told_24 : decode cX7_told 24 = .ok (.goto 37, 3) := by decide +kernel
theorem dX7_told_27 : decode cX7_told 27 = .ok (.iload_n 2, 1) := by decide +kernel
theorem dX7_told_28 : decode cX7_told 28 = .ok (.iconst 2, 1) := by decide +kernel
theorem dX7_told_29 : decode cX7_told 29 = .ok (.if_icmp .ne 12, 3) := by decide +kernel
theorem dX7_told_32 : decode cX7_told 32 = .ok (.aload_n 0, 1) := by decide +kernel
theorem dX7_told_33 : decode cX7_told 33 = .ok (.getfield 20, 3) := by decide +kernel
theorem dX7_told_36 : decode cX7_told 36 = .ok (.iload_n 1, 1) := by decide +kernel
theorem dX7_told_37 : decode cX7_told 37 = .ok (.iaload, 1) := by decide +kernel
theorem dX7_told_38 : decode cX7_told 38 = .ok (.goto 23, 3) := by decide +kernel
theorem dX7_told_41 : decode cX7_told 41 = .ok (.iload_n 2, 1) := by decide +kernel
theorem dX7_told_42 : decode cX7_told 42 = .ok (.iconst 3, 1) := by decide +kernel
theorem dX7_told_43 : decode cX7_told 43 = .ok (.if_icmp .ne 12, 3) := by decide +kernel
theorem dX7_told_46 : decode cX7_told 46 = .ok (.aload_n 0, 1) := by decide +kernel
theorem dX7_told_47 : decode cX7_told 47 = .ok (.getfield 23, 3) := by decide +kernel
theorem dX7_told_50 : decode cX7_told 50 = .ok (.iload_n 1, 1) := by decide +kernel
theorem dX7_told_51 : decode cX7_told 51 = .ok (.iaload, 1) := by decide +kernel
theorem dX7_told_52 : decode cX7_told 52 = .ok (.goto 9, 3) := by decide +kernel
theorem dX7_told_55 : decode cX7_told 55 = .ok (.aload_n 0, 1) := by decide +kernel
theorem dX7_told_56 : decode cX7_told 56 = .ok (.getfield 26, 3) := by decide +kernel
theorem dX7_told_59 : decode cX7_told 59 = .ok (.iload_n 1, 1) := by decide +kernel
theorem dX7_told_60 : decode cX7_told 60 = .ok (.iaload, 1) := by decide +kernel
theorem dX7_told_61 : decode cX7_told 61 = .ok (.ireturn, 1) := by decide +kernel
set_option maxRecDepth 20000 in
theorem ggX7_property_X7_isDimension : GoodIn wsX7_property wsX7_isDimension := goodIn_r _ [6, 7, 8, 9, 5, 10, 20, 21, 22, 23, 24, 25, 26, 27, 28, 29, 30, 31, 32, 33, 34, 35, 36, 37, 38, 39, 40, 41, 42, 43, 44, 45, 46, 47, 48, 49, 50, 51, 52, 53] (by decide +kernel) (by decide +kernel)
set_option maxRecDepth 20000 in
theorem gX7_property_X7_isDimension : GoodIn wsX7_property (wsV RX7 91 RX7 yX7_isDimension wsX7_isDimension) := goodIn_app (goodIn_of _ (by decide +kernel)) ggX7_property_X7_isDimension
set_option maxRecDepth 20000 in
theorem ggX7_property_X7_within : GoodIn wsX7_property wsX7_within := goodIn_r _ [10] (by decide +kernel) (by decide +kernel)
set_option maxRecDepth 20000 in
theorem gX7_property_X7_within : GoodIn wsX7_property (va_wsS RX7 70 yX7_within wsX7_within) := goodIn_app (goodIn_of _ (by decide +kernel)) ggX7_property_X7_within
set_option maxRecDepth 20000 in
theorem ggX7_property_X7_told : GoodIn wsX7_property wsX7_told := goodIn_r _ [14, 15, 16, 17, 18, 19, 20, 21, 22, 23, 24, 25, 26, 27, 28, 29, 30, 31, 32, 33, 34, 35, 36, 37, 38, 39, 40, 41, 42, 43, 44, 45, 46, 47, 48, 49, 50, 51, 52, 53] (by decide +kernel) (by decide +kernel)
set_option maxRecDepth 20000 in
theorem gX7_property_X7_told : GoodIn wsX7_property (wsV RX7 106 RX7 yX7_told wsX7_told) := goodIn_app (goodIn_of _ (by decide +kernel)) ggX7_property_X7_told
theorem dX7_property_0 : decode cX7_property 0 = .ok (.aload_n 0, 1) := by decide +kernel
theorem dX7_property_1 : decode cX7_property 1 = .ok (.aload_n 0, 1) := by decide +kernel
theorem dX7_property_2 : decode cX7_property 2 = .ok (.iload_n 1, 1) := by decide +kernel
theorem dX7_property_3 : decode cX7_property 3 = .ok (.invokevirtual 91, 3) := by decide +kernel
theorem dX7_property_6 : decode cX7_property 6 = .ok (.ifCond .ne 7, 3) := by decide +kernel
theorem dX7_property_9 : decode cX7_property 9 = .ok (.iconst 1, 1) := by decide +kernel
theorem dX7_property_10 : decode cX7_property 10 = .ok (.goto 17, 3) := by decide +kernel
theorem dX7_property_13 : decode cX7_property 13 = .ok (.iload_n 2, 1) := by decide +kernel
theorem dX7_property_14 : decode cX7_property 14 = .ok (.iconst 0, 1) := by decide +kernel
theorem dX7_property_15 : decode cX7_property 15 = .ok (.iconst 4, 1) := by decide +kernel
theorem dX7_property_16 : decode cX7_property 16 = .ok (.invokestatic 70, 3) := by decide +kernel
theorem dX7_property_19 : decode cX7_property 19 = .ok (.ifCond .eq 7, 3) := by decide +kernel
theorem dX7_property_22 : decode cX7_property 22 = .ok (.iconst 0, 1) := by decide +kernel
theorem dX7_property_23 : decode cX7_property 23 = .ok (.goto 4, 3) := by decide +kernel
theorem dX7_property_26 : decode cX7_property 26 = .ok (.iconst 2, 1) := by decide +kernel
theorem dX7_property_27 : decode cX7_property 27 = .ok (.putfield 67, 3) := by decide +kernel
theorem dX7_property_30 : decode cX7_property 30 = .ok (.aload_n 0, 1) := by decide +kernel
theorem dX7_property_31 : decode cX7_property 31 = .ok (.getfield 67, 3) := by decide +kernel
theorem dX7_property_34 : decode cX7_property 34 = .ok (.ifCond .le 7, 3) := by decide +kernel
