theorem dX7_mayTransfer_72 : decode cX7_mayTransfer 72 = .ok (.aload_n 0, 1) := by decide +kernel
theorem dX7_mayTransfer_73 : decode cX7_mayTransfer 73 = .ok (.getfield 212, 3) := by decide +kernel
theorem dX7_mayTransfer_76 : decode cX7_mayTransfer 76 = .ok (.isub, 1) := by decide +kernel
theorem dX7_mayTransfer_77 : decode cX7_mayTransfer 77 = .ok (.putfield 215, 3) := by decide +kernel
theorem dX7_mayTransfer_80 : decode cX7_mayTransfer 80 = .ok (.aload_n 0, 1) := by decide +kernel
theorem dX7_mayTransfer_81 : decode cX7_mayTransfer 81 = .ok (.aload_n 0, 1) := by decide +kernel
theorem dX7_mayTransfer_82 : decode cX7_mayTransfer 82 = .ok (.getfield 20, 3) := by decide +kernel
theorem dX7_mayTransfer_85 : decode cX7_mayTransfer 85 = .ok (.iload_n 1, 1) := by decide +kernel
theorem dX7_mayTransfer_86 : decode cX7_mayTransfer 86 = .ok (.iaload, 1) := by decide +kernel
theorem dX7_mayTransfer_87 : decode cX7_mayTransfer 87 = .ok (.aload_n 0, 1) := by decide +kernel
theorem dX7_mayTransfer_88 : decode cX7_mayTransfer 88 = .ok (.getfield 26, 3) := by decide +kernel
theorem dX7_mayTransfer_91 : decode cX7_mayTransfer 91 = .ok (.iload_n 1, 1) := by decide +kernel
theorem dX7_mayTransfer_92 : decode cX7_mayTransfer 92 = .ok (.iaload, 1) := by decide +kernel
theorem dX7_mayTransfer_93 : decode cX7_mayTransfer 93 = .ok (.iadd, 1) := by decide +kernel
theorem dX7_mayTransfer_94 : decode cX7_mayTransfer 94 = .ok (.aload_n 0, 1) := by decide +kernel
theorem dX7_mayTransfer_95 : decode cX7_mayTransfer 95 = .ok (.getfield 174, 3) := by decide +kernel
theorem dX7_mayTransfer_98 : decode cX7_mayTransfer 98 = .ok (.iadd, 1) := by decide +kernel
theorem dX7_mayTransfer_99 : decode cX7_mayTransfer 99 = .ok (.aload_n 0, 1) := by decide +kernel
theorem dX7_mayTransfer_100 : decode cX7_mayTransfer 100 = .ok (.getfield 212, 3) := by decide +kernel
theorem dX7_mayTransfer_103 : decode cX7_mayTransfer 103 = .ok (.isub, 1) := by decide +kernel
theorem dX7_mayTransfer_104 : decode cX7_mayTransfer 104 = .ok (.putfield 218, 3) := by decide +kernel
theorem dX7_mayTransfer_107 : decode cX7_mayTransfer 107 = .ok (.aload_n 0, 1) := by decide +kernel
theorem dX7_mayTransfer_108 : decode cX7_mayTransfer 108 = .ok (.getfield 212, 3) := by decide +kernel
theorem dX7_mayTransfer_111 : decode cX7_mayTransfer 111 = .ok (.ldc 77, 2) := by decide +kernel
theorem dX7_mayTransfer_113 : decode cX7_mayTransfer 113 = .ok (.ldc 78, 2) := by decide +kernel
theorem dX7_mayTransfer_115 : decode cX7_mayTransfer 115 = .ok (.invokestatic 70, 3) := by decide +kernel
theorem dX7_mayTransfer_118 : decode cX7_mayTransfer 118 = .ok (.ifCond .eq 21, 3) := by decide +kernel
theorem dX7_mayTransfer_121 : decode cX7_mayTransfer 121 = .ok (.aload_n 0, 1) := by decide +kernel
theorem dX7_mayTransfer_122 : decode cX7_mayTransfer 122 = .ok (.getfield 215, 3) := by decide +kernel
theorem dX7_mayTransfer_125 : decode cX7_mayTransfer 125 = .ok (.aload_n 0, 1) := by decide +kernel
theorem dX7_mayTransfer_126 : decode cX7_mayTransfer 126 = .ok (.getfield 218, 3) := by decide +kernel
theorem dX7_mayTransfer_129 : decode cX7_mayTransfer 129 = .ok (.invokestatic 79, 3) := by decide +kernel
theorem dX7_mayTransfer_132 : decode cX7_mayTransfer 132 = .ok (.ifCond .eq 7, 3) := by decide +kernel
theorem dX7_mayTransfer_135 : decode cX7_mayTransfer 135 = .ok (.iconst 1, 1) := by decide +kernel
theorem dX7_mayTransfer_136 : decode cX7_mayTransfer 136 = .ok (.goto 4, 3) := by decide +kernel
theorem dX7_mayTransfer_139 : decode cX7_mayTransfer 139 = .ok (.iconst 0, 1) := by decide +kernel
theorem dX7_mayTransfer_140 : decode cX7_mayTransfer 140 = .ok (.ireturn, 1) := by decide +kernel
set_option maxRecDepth 20000 in
theorem ggX7_transfer_X7_joinAll : GoodIn wsX7_transfer wsX7_joinAll := goodIn_r _ [14, 15, 16, 17, 2, 3, 18, 61, 62, 63, 64, 65, 66, 67, 68, 69, 70, 71, 72, 73, 74, 75, 76, 77, 78, 79, 80, 81, 82, 83, 84, 85, 86, 87, 88, 89, 90, 91, 92, 93, 94] (by decide +kernel) (by decide +kernel)
set_option maxRecDepth 20000 in
theorem gX7_transfer_X7_joinAll : GoodIn wsX7_transfer (wsV RX7 156 RX7 yX7_joinAll wsX7_joinAll) := goodIn_app (goodIn_of _ (by decide +kernel)) ggX7_transfer_X7_joinAll
set_option maxRecDepth 20000 in
theorem ggX7_transfer_X7_isDimension : GoodIn wsX7_transfer wsX7_isDimension := goodIn_r _ [22, 17, 23, 24, 13, 25, 61, 62, 63, 64, 65, 66, 67, 68, 69, 70, 71, 72, 73, 74, 75, 76, 77, 78, 79, 80, 81, 82, 83, 84, 85, 86, 87, 88, 89, 90, 91, 92, 93, 94] (by decide +kernel) (by decide +kernel)
set_option maxRecDepth 20000 in
theorem gX7_transfer_X7_isDimension : GoodIn wsX7_transfer (wsV RX7 91 RX7 yX7_isDimension wsX7_isDimension) := goodIn_app (goodIn_of _ (by decide +kernel)) ggX7_transfer_X7_isDimension
set_option maxRecDepth 20000 in
theorem ggX7_transfer_X7_isFace : GoodIn wsX7_transfer wsX7_isFace := goodIn_r _ [29, 15, 23, 24, 13, 25, 61, 62, 63, 64, 65, 66, 67, 68, 69, 70, 71, 72, 73, 74, 75, 76, 77, 78, 79, 80, 81, 82, 83, 84, 85, 86, 87, 88, 89, 90, 91, 92, 93, 94] (by decide +kernel) (by decide +kernel)
set_option maxRecDepth 20000 in
theorem gX7_transfer_X7_isFace : GoodIn wsX7_transfer (wsV RX7 83 RX7 yX7_isFace wsX7_isFace) := goodIn_app (goodIn_of _ (by decide +kernel)) ggX7_transfer_X7_isFace
set_option maxRecDepth 20000 in
theorem ggX7_transfer_X7_mayTransfer : GoodIn wsX7_transfer wsX7_mayTransfer := goodIn_r _ [33, 18, 2, 34, 4, 5, 6, 35, 7, 8, 36, 9, 37, 38, 39, 40, 41, 13, 42, 43, 16, 15, 44, 17, 3, 45, 46, 47, 48, 49, 50, 51, 52, 53, 23, 24, 25, 54, 55, 56, 61, 62, 63, 64, 65, 66, 67, 68, 69, 70, 71, 72, 73, 74, 75, 76, 77, 78, 79, 80, 81, 82, 83, 84, 85, 86, 87, 88, 89, 90, 91, 92, 93, 94] (by decide +kernel) (by decide +kernel)
set_option maxRecDepth 20000 in
theorem gX7_transfer_X7_mayTransfer : GoodIn wsX7_transfer (wsV RX7 221 RX7 yX7_mayTransfer wsX7_mayTransfer) := goodIn_app (goodIn_of _ (by decide +kernel)) ggX7_transfer_X7_mayTransfer
set_option maxRecDepth 20000 in
theorem ggX7_transfer_X7_width : GoodIn wsX7_transfer wsX7_width := goodIn_r _ [60, 8, 6, 61, 62, 63, 64, 65, 66, 67, 68, 69, 70, 71, 72, 73, 74, 75, 76, 77, 78, 79, 80, 81, 82, 83, 84, 85, 86, 87, 88, 89, 90, 91, 92, 93, 94] (by decide +kernel) (by decide +kernel)
set_option maxRecDepth 20000 in
theorem gX7_transfer_X7_width : GoodIn wsX7_transfer (wsV RX7 94 RX7 yX7_width wsX7_width) := goodIn_app (goodIn_of _ (by decide +kernel)) ggX7_transfer_X7_width
theorem dX7_transfer_0 : decode cX7_transfer 0 = .ok (.aload_n 0, 1) := by decide +kernel
theorem dX7_transfer_1 : decode cX7_transfer 1 = .ok (.invokevirtual 156, 3) := by decide +kernel
theorem dX7_transfer_4 : decode cX7_transfer 4 = .ok (.aload_n 0, 1) := by decide +kernel
theorem dX7_transfer_5 : decode cX7_transfer 5 = .ok (.iload_n 1, 1) := by decide +kernel
theorem dX7_transfer_6 : decode cX7_transfer 6 = .ok (.invokevirtual 91, 3) := by decide +kernel
theorem dX7_transfer_9 : decode cX7_transfer 9 = .ok (.ifCond .eq 11, 3) := by decide +kernel
theorem dX7_transfer_12 : decode cX7_transfer 12 = .ok (.aload_n 0, 1) := by decide +kernel
theorem dX7_transfer_13 : decode cX7_transfer 13 = .ok (.iload_n 2, 1) := by decide +kernel
theorem dX7_transfer_14 : decode cX7_transfer 14 = .ok (.invokevirtual 83, 3) := by decide +kernel
theorem dX7_transfer_17 : decode cX7_transfer 17 = .ok (.ifCond .ne 11, 3) := by decide +kernel
theorem dX7_transfer_20 : decode cX7_transfer 20 = .ok (.aload_n 0, 1) := by decide +kernel
theorem dX7_transfer_21 : decode cX7_transfer 21 = .ok (.iconst 1, 1) := by decide +kernel
theorem dX7_transfer_22 : decode cX7_transfer 22 = .ok (.putfield 67, 3) := by decide +kernel
theorem dX7_transfer_25 : decode cX7_transfer 25 = .ok (.goto 49, 3) := by decide +kernel
theorem dX7_transfer_28 : decode cX7_transfer 28 = .ok (.iload_n 2, 1) := by decide +kernel
theorem dX7_transfer_29 : decode cX7_transfer 29 = .ok (.aload_n 0, 1) := by decide +kernel
theorem dX7_transfer_30 : decode cX7_transfer 30 = .ok (.getfield 13, 3) := by decide +kernel
theorem dX7_transfer_33 : decode cX7_transfer 33 = .ok (.iload_n 1, 1) := by decide +kernel
theorem dX7_transfer_34 : decode cX7_transfer 34 = .ok (.iaload, 1) := by decide +kernel
theorem dX7_transfer_35 : decode cX7_transfer 35 = .ok (.if_icmp .eq 13, 3) := by decide +kernel
theorem dX7_transfer_38 : decode cX7_transfer 38 = .ok (.iload_n 2, 1) := by decide +kernel
theorem dX7_transfer_39 : decode cX7_transfer 39 = .ok (.aload_n 0, 1) := by decide +kernel
theorem dX7_transfer_40 : decode cX7_transfer 40 = .ok (.getfield 17, 3) := by decide +kernel
theorem dX7_transfer_43 : decode cX7_transfer 43 = .ok (.iload_n 1, 1) := by decide +kernel
theorem dX7_transfer_44 : decode cX7_transfer 44 = .ok (.iaload, 1) := by decide +kernel
theorem dX7_transfer_45 : decode cX7_transfer 45 = .ok (.if_icmp .ne 11, 3) := by decide +kernel
theorem dX7_transfer_48 : decode cX7_transfer 48 = .ok (.aload_n 0, 1) := by decide +kernel
theorem dX7_transfer_49 : decode cX7_transfer 49 = .ok (.iconst 2, 1) := by decide +kernel
theorem dX7_transfer_50 : decode cX7_transfer 50 = .ok (.putfield 67, 3) := by decide +kernel
theorem dX7_transfer_53 : decode cX7_transfer 53 = .ok (.goto 21, 3) := by decide +kernel
theorem dX7_transfer_56 : decode cX7_transfer 56 = .ok (.aload_n 0, 1) := by decide +kernel
theorem dX7_transfer_57 : decode cX7_transfer 57 = .ok (.aload_n 0, 1) := by decide +kernel
theorem dX7_transfer_58 : decode cX7_transfer 58 = .ok (.iload_n 1, 1) := by decide +kernel
theorem dX7_transfer_59 : decode cX7_transfer 59 = .ok (.iload_n 2, 1) := by decide +kernel
theorem dX7_transfer_60 : decode cX7_transfer 60 = .ok (.invokevirtual 221, 3) := by decide +kernel
theorem dX7_transfer_63 : decode cX7_transfer 63 = .ok (.ifCond .eq 7, 3) := by decide +kernel
theorem dX7_transfer_66 : decode cX7_transfer 66 = .ok (.iconst 0, 1) := by decide +kernel
theorem dX7_transfer_67 : decode cX7_transfer 67 = .ok (.goto 4, 3) := by decide +kernel
theorem dX7_transfer_70 : decode cX7_transfer 70 = .ok (.iconst 3, 1) := by decide +kernel
theorem dX7_transfer_71 : decode cX7_transfer 71 = .ok (.putfield 67, 3) := by decide +kernel
theorem dX7_transfer_74 : decode cX7_transfer 74 = .ok (.aload_n 0, 1) := by decide +kernel
theorem dX7_transfer_75 : decode cX7_transfer 75 = .ok (.getfield 67, 3) := by decide +kernel
theorem dX7_transfer_78 : decode cX7_transfer 78 = .ok (.ifCond .le 5, 3) := by decide +kernel
theorem dX7_transfer_81 : decode cX7_transfer 81 = .ok (.iconst 0, 1) := by decide +kernel
theorem dX7_transfer_82 : decode cX7_transfer 82 = .ok (.ireturn, 1) := by decide +kernel
theorem dX7_transfer_83 : decode cX7_transfer 83 = .ok (.aload_n 0, 1) := by decide +kernel
theorem dX7_transfer_84 : decode cX7_transfer 84 = .ok (.getfield 13, 3) := by decide +kernel
theorem dX7_transfer_87 : decode cX7_transfer 87 = .ok (.iload_n 1, 1) := by decide +kernel
theorem dX7_transfer_88 : decode cX7_transfer 88 = .ok (.iload_n 2, 1) := by decide +kernel
theorem dX7_transfer_89 : decode cX7_transfer 89 = .ok (.iastore, 1) := by decide +kernel
theorem dX7_transfer_90 : decode cX7_transfer 90 = .ok (.aload_n 0, 1) := by decide +kernel
theorem dX7_transfer_91 : decode cX7_transfer 91 = .ok (.getfield 20, 3) := by decide +kernel
theorem dX7_transfer_94 : decode cX7_transfer 94 = .ok (.iload_n 1, 1) := by decide +kernel
theorem dX7_transfer_95 : decode cX7_transfer 95 = .ok (.aload_n 0, 1) := by decide +kernel
theorem dX7_transfer_96 : decode cX7_transfer 96 = .ok (.getfield 212, 3) := by decide +kernel
theorem dX7_transfer_99 : decode cX7_transfer 99 = .ok (.iastore, 1) := by decide +kernel
theorem dX7_transfer_100 : decode cX7_transfer 100 = .ok (.aload_n 0, 1) := by decide +kernel
theorem dX7_transfer_101 : decode cX7_transfer 101 = .ok (.getfield 23, 3) := by decide +kernel
theorem dX7_transfer_104 : decode cX7_transfer 104 = .ok (.iload_n 1, 1) := by decide +kernel
theorem dX7_transfer_105 : decode cX7_transfer 105 = .ok (.aload_n 0, 1) := by decide +kernel
theorem dX7_transfer_106 : decode cX7_transfer 106 = .ok (.getfield 215, 3) := by decide +kernel
theorem dX7_transfer_109 : decode cX7_transfer 109 = .ok (.iastore, 1) := by decide +kernel
theorem dX7_transfer_110 : decode cX7_transfer 110 = .ok (.aload_n 0, 1) := by decide +kernel
theorem dX7_transfer_111 : decode cX7_transfer 111 = .ok (.getfield 26, 3) := by decide +kernel
theorem dX7_transfer_114 : decode cX7_transfer 114 = .ok (.iload_n 1, 1) := by decide +kernel
theorem dX7_transfer_115 : decode cX7_transfer 115 = .ok (.aload_n 0, 1) := by decide +kernel
theorem dX7_transfer_116 : decode cX7_transfer 116 = .ok (.getfield 218, 3) := by decide +kernel
theorem dX7_transfer_119 : decode cX7_transfer 119 = .ok (.iastore, 1) := by decide +kernel
theorem dX7_transfer_120 : decode cX7_transfer 120 = .ok (.aload_n 0, 1) := by decide +kernel
theorem dX7_transfer_121 : decode cX7_transfer 121 = .ok (.iload_n 1, 1) := by decide +kernel
theorem dX7_transfer_122 : decode cX7_transfer 122 = .ok (.invokevirtual 94, 3) := by decide +kernel
theorem dX7_transfer_125 : decode cX7_transfer 125 = .ok (.ireturn, 1) := by decide +kernel
theorem dX7_half_0 : decode cX7_half 0 = .ok (.iload_n 0, 1) := by decide +kernel
theorem dX7_half_1 : decode cX7_half 1 = .ok (.ifCond .ge 17, 3) := by decide +kernel
theorem dX7_half_4 : decode cX7_half 4 = .ok (.iload_n 0, 1) := by decide +kernel
theorem dX7_half_5 : decode cX7_half 5 = .ok (.iconst 2, 1) := by decide +kernel
theorem dX7_half_6 : decode cX7_half 6 = .ok (.irem, 1) := by decide +kernel
theorem dX7_half_7 : decode cX7_half 7 = .ok (.ifCond .eq 11, 3) := by decide +kernel
theorem dX7_half_10 : decode cX7_half 10 = .ok (.iload_n 0, 1) := by decide +kernel
theorem dX7_half_11 : decode cX7_half 11 = .ok (.iconst 2, 1) := by decide +kernel
theorem dX7_half_12 : decode cX7_half 12 = .ok (.idiv, 1) := by decide +kernel
theorem dX7_half_13 : decode cX7_half 13 = .ok (.iconst 1, 1) := by decide +kernel
theorem dX7_half_14 : decode cX7_half 14 = .ok (.isub, 1) := by decide +kernel
theorem dX7_half_15 : decode cX7_half 15 = .ok (.goto 6, 3) := by decide +kernel
theorem dX7_half_18 : decode cX7_half 18 = .ok (.iload_n 0, 1) := by decide +kernel
theorem dX7_half_19 : decode cX7_half 19 = .ok (.iconst 2, 1) := by decide +kernel
theorem dX7_half_20 : decode cX7_half 20 = .ok (.idiv, 1) := by decide +kernel
theorem dX7_half_21 : decode cX7_half 21 = .ok (.ireturn, 1) := by decide +kernel
set_option maxRecDepth 20000 in
theorem ggX7_share_X7_widths : GoodIn wsX7_share wsX7_widths := goodIn_r _ [11, 1, 3, 12, 13, 14, 10, 15, 6, 5, 29, 30, 31, 32, 33, 34, 35, 36, 37, 38, 39, 40, 41, 42, 43, 44, 45, 46, 47, 48, 49, 50, 51, 52, 53, 54, 55, 56, 57, 58, 59, 60, 61, 62] (by decide +kernel) (by decide +kernel)
set_option maxRecDepth 20000 in
theorem gX7_share_X7_widths : GoodIn wsX7_share (wsV RX7 193 RX7 yX7_widths wsX7_widths) := goodIn_app (goodIn_of _ (by decide +kernel)) ggX7_share_X7_widths
set_option maxRecDepth 20000 in
theorem ggX7_share_X7_width : GoodIn wsX7_share wsX7_width := goodIn_r _ [15, 6, 5, 29, 30, 31, 32, 33, 34, 35, 36, 37, 38, 39, 40, 41, 42, 43, 44, 45, 46, 47, 48, 49, 50, 51, 52, 53, 54, 55, 56, 57, 58, 59, 60, 61, 62] (by decide +kernel) (by decide +kernel)
set_option maxRecDepth 20000 in
theorem gX7_share_X7_width : GoodIn wsX7_share (wsV RX7 94 RX7 yX7_width wsX7_width) := goodIn_app (goodIn_of _ (by decide +kernel)) ggX7_share_X7_width
set_option maxRecDepth 20000 in
theorem ggX7_share_X7_isInChain : GoodIn wsX7_share wsX7_isInChain := goodIn_r _ [19, 1, 3, 29, 30, 31, 32, 33, 34, 35, 36, 37, 38, 39, 40, 41, 42, 43, 44, 45, 46, 47, 48, 49, 50, 51, 52, 53, 54, 55, 56, 57, 58, 59, 60, 61, 62] (by decide +kernel) (by decide +kernel)
set_option maxRecDepth 20000 in
theorem gX7_share_X7_isInChain : GoodIn wsX7_share (wsV RX7 190 RX7 yX7_isInChain wsX7_isInChain) := goodIn_app (goodIn_of _ (by decide +kernel)) ggX7_share_X7_isInChain
set_option maxRecDepth 20000 in
theorem ggX7_share_X7_half : GoodIn wsX7_share wsX7_half := goodIn_r _ [22] (by decide +kernel) (by decide +kernel)
set_option maxRecDepth 20000 in
theorem gX7_share_X7_half : GoodIn wsX7_share (va_wsS RX7 224 yX7_half wsX7_half) := goodIn_app (goodIn_of _ (by decide +kernel)) ggX7_share_X7_half
set_option maxRecDepth 20000 in
theorem ggX7_share_X7_areDeviations : GoodIn wsX7_share wsX7_areDeviations := goodIn_r _ [25, 26, 27, 10, 28] (by decide +kernel) (by decide +kernel)
set_option maxRecDepth 20000 in
theorem gX7_share_X7_areDeviations : GoodIn wsX7_share (va_wsS RX7 79 yX7_areDeviations wsX7_areDeviations) := goodIn_app (goodIn_of _ (by decide +kernel)) ggX7_share_X7_areDeviations
theorem dX7_share_0 : decode cX7_share 0 = .ok (.aload_n 0, 1) := by decide +kernel
theorem dX7_share_1 : decode cX7_share 1 = .ok (.invokevirtual 193, 3) := by decide +kernel
theorem dX7_share_4 : decode cX7_share 4 = .ok (.istore_n 2, 1) := by decide +kernel
theorem dX7_share_5 : decode cX7_share 5 = .ok (.iload_n 2, 1) := by decide +kernel
theorem dX7_share_6 : decode cX7_share 6 = .ok (.ifCond .ne 5, 3) := by decide +kernel
theorem dX7_share_9 : decode cX7_share 9 = .ok (.iconst 0, 1) := by decide +kernel
theorem dX7_share_10 : decode cX7_share 10 = .ok (.ireturn, 1) := by decide +kernel
theorem dX7_share_11 : decode cX7_share 11 = .ok (.iload_n 1, 1) := by decide +kernel
theorem dX7_share_12 : decode cX7_share 12 = .ok (.istore_n 3, 1) := by decide +kernel
theorem dX7_share_13 : decode cX7_share 13 = .ok (.iconst 0, 1) := by decide +kernel
theorem dX7_share_14 : decode cX7_share 14 = .ok (.istore 4, 2) := by decide +kernel
theorem dX7_share_16 : decode cX7_share 16 = .ok (.iload 4, 2) := by decide +kernel
theorem dX7_share_18 : decode cX7_share 18 = .ok (.aload_n 0, 1) := by decide +kernel
theorem dX7_share_19 : decode cX7_share 19 = .ok (.getfield 159, 3) := by decide +kernel
theorem dX7_share_22 : decode cX7_share 22 = .ok (.if_icmp .ge 51, 3) := by decide +kernel
theorem dX7_share_25 : decode cX7_share 25 = .ok (.aload_n 0, 1) := by decide +kernel
theorem dX7_share_26 : decode cX7_share 26 = .ok (.getfield 64, 3) := by decide +kernel
theorem dX7_share_29 : decode cX7_share 29 = .ok (.aload_n 0, 1) := by decide +kernel
theorem dX7_share_30 : decode cX7_share 30 = .ok (.getfield 54, 3) := by decide +kernel
theorem dX7_share_33 : decode cX7_share 33 = .ok (.iload 4, 2) := by decide +kernel
theorem dX7_share_35 : decode cX7_share 35 = .ok (.iaload, 1) := by decide +kernel
theorem dX7_share_36 : decode cX7_share 36 = .ok (.iload_n 1, 1) := by decide +kernel
theorem dX7_share_37 : decode cX7_share 37 = .ok (.aload_n 0, 1) := by decide +kernel
theorem dX7_share_38 : decode cX7_share 38 = .ok (.aload_n 0, 1) := by decide +kernel
theorem dX7_share_39 : decode cX7_share 39 = .ok (.getfield 54, 3) := by decide +kernel
theorem dX7_share_42 : decode cX7_share 42 = .ok (.iload 4, 2) := by decide +kernel
theorem dX7_share_44 : decode cX7_share 44 = .ok (.iaload, 1) := by decide +kernel
theorem dX7_share_45 : decode cX7_share 45 = .ok (.invokevirtual 94, 3) := by decide +kernel
theorem dX7_share_48 : decode cX7_share 48 = .ok (.imul, 1) := by decide +kernel
theorem dX7_share_49 : decode cX7_share 49 = .ok (.iload_n 2, 1) := by decide +kernel
theorem dX7_share_50 : decode cX7_share 50 = .ok (.idiv, 1) := by decide +kernel
theorem dX7_share_51 : decode cX7_share 51 = .ok (.iastore, 1) := by decide +kernel
theorem dX7_share_52 : decode cX7_share 52 = .ok (.iload_n 3, 1) := by decide +kernel
theorem dX7_share_53 : decode cX7_share 53 = .ok (.aload_n 0, 1) := by decide +kernel
theorem dX7_share_54 : decode cX7_share 54 = .ok (.getfield 64, 3) := by decide +kernel
theorem dX7_share_57 : decode cX7_share 57 = .ok (.aload_n 0, 1) := by decide +kernel
theorem dX7_share_58 : decode cX7_share 58 = .ok (.getfield 54, 3) := by decide +kernel
theorem dX7_share_61 : decode cX7_share 61 = .ok (.iload 4, 2) := by decide +kernel
theorem dX7_share_63 : decode cX7_share 63 = .ok (.iaload, 1) := by decide +kernel
theorem dX7_share_64 : decode cX7_share 64 = .ok (.iaload, 1) := by decide +kernel
theorem dX7_share_65 : decode cX7_share 65 = .ok (.isub, 1) := by decide +kernel
theorem dX7_share_66 : decode cX7_share 66 = .ok (.istore_n 3, 1) := by decide +kernel
theorem dX7_share_67 : decode cX7_share 67 = .ok (.iinc 4 1, 3) := by decide +kernel
theorem dX7_share_70 : decode cX7_share 70 = .ok (.goto (-54), 3) := by decide +kernel
theorem dX7_share_73 : decode cX7_share 73 = .ok (.iconst 1, 1) := by decide +kernel
theorem dX7_share_74 : decode cX7_share 74 = .ok (.istore 4, 2) := by decide +kernel
theorem dX7_share_76 : decode cX7_share 76 = .ok (.iconst 0, 1) := by decide +kernel
theorem dX7_share_77 : decode cX7_share 77 = .ok (.istore 5, 2) := by decide +kernel
theorem dX7_share_79 : decode cX7_share 79 = .ok (.iload 5, 2) := by decide +kernel
theorem dX7_share_81 : decode cX7_share 81 = .ok (.aload_n 0, 1) := by decide +kernel
theorem dX7_share_82 : decode cX7_share 82 = .ok (.getfield 74, 3) := by decide +kernel
theorem dX7_share_85 : decode cX7_share 85 = .ok (.if_icmp .ge 123, 3) := by decide +kernel
theorem dX7_share_88 : decode cX7_share 88 = .ok (.aload_n 0, 1) := by decide +kernel
theorem dX7_share_89 : decode cX7_share 89 = .ok (.iload 5, 2) := by decide +kernel
theorem dX7_share_91 : decode cX7_share 91 = .ok (.invokevirtual 190, 3) := by decide +kernel
theorem dX7_share_94 : decode cX7_share 94 = .ok (.ifCond .eq 108, 3) := by decide +kernel
theorem dX7_share_97 : decode cX7_share 97 = .ok (.aload_n 0, 1) := by decide +kernel
theorem dX7_share_98 : decode cX7_share 98 = .ok (.getfield 64, 3) := by decide +kernel
theorem dX7_share_101 : decode cX7_share 101 = .ok (.iload 5, 2) := by decide +kernel
theorem dX7_share_103 : decode cX7_share 103 = .ok (.dup2, 1) := by decide +kernel
theorem dX7_share_104 : decode cX7_share 104 = .ok (.iaload, 1) := by decide +kernel
theorem dX7_share_105 : decode cX7_share 105 = .ok (.iload_n 3, 1) := by decide +kernel
theorem dX7_share_106 : decode cX7_share 106 = .ok (.ifCond .le 7, 3) := by decide +kernel
theorem dX7_share_109 : decode cX7_share 109 = .ok (.iconst 1, 1) := by decide +kernel
theorem dX7_share_110 : decode cX7_share 110 = .ok (.goto 4, 3) := by decide +kernel
theorem dX7_share_113 : decode cX7_share 113 = .ok (.iconst 0, 1) := by decide +kernel
theorem dX7_share_114 : decode cX7_share 114 = .ok (.iadd, 1) := by decide +kernel
theorem dX7_share_115 : decode cX7_share 115 = .ok (.iastore, 1) := by decide +kernel
theorem dX7_share_116 : decode cX7_share 116 = .ok (.iload_n 3, 1) := by decide +kernel
theorem dX7_share_117 : decode cX7_share 117 = .ok (.iload_n 3, 1) := by decide +kernel
theorem dX7_share_118 : decode cX7_share 118 = .ok (.ifCond .le 7, 3) := by decide +kernel
theorem dX7_share_121 : decode cX7_share 121 = .ok (.iconst 1, 1) := by decide +kernel
theorem dX7_share_122 : decode cX7_share 122 = .ok (.goto 4, 3) := by decide +kernel
theorem dX7_share_125 : decode cX7_share 125 = .ok (.iconst 0, 1) := by decide +kernel
theorem dX7_share_126 : decode cX7_share 126 = .ok (.isub, 1) := by decide +kernel
theorem dX7_share_127 : decode cX7_share 127 = .ok (.istore_n 3, 1) := by decide +kernel
theorem dX7_share_128 : decode cX7_share 128 = .ok (.aload_n 0, 1) := by decide +kernel
theorem dX7_share_129 : decode cX7_share 129 = .ok (.getfield 23, 3) := by decide +kernel
theorem dX7_share_132 : decode cX7_share 132 = .ok (.iload 5, 2) := by decide +kernel
theorem dX7_share_134 : decode cX7_share 134 = .ok (.iaload, 1) := by decide +kernel
theorem dX7_share_135 : decode cX7_share 135 = .ok (.aload_n 0, 1) := by decide +kernel
theorem dX7_share_136 : decode cX7_share 136 = .ok (.getfield 26, 3) := by decide +kernel
theorem dX7_share_139 : decode cX7_share 139 = .ok (.iload 5, 2) := by decide +kernel
theorem dX7_share_141 : decode cX7_share 141 = .ok (.iaload, 1) := by decide +kernel
theorem dX7_share_142 : decode cX7_share 142 = .ok (.iadd, 1) := by decide +kernel
theorem dX7_share_143 : decode cX7_share 143 = .ok (.aload_n 0, 1) := by decide +kernel
theorem dX7_share_144 : decode cX7_share 144 = .ok (.getfield 64, 3) := by decide +kernel
theorem dX7_share_147 : decode cX7_share 147 = .ok (.iload 5, 2) := by decide +kernel
theorem dX7_share_149 : decode cX7_share 149 = .ok (.iaload, 1) := by decide +kernel
theorem dX7_share_150 : decode cX7_share 150 = .ok (.isub, 1) := by decide +kernel
theorem dX7_share_151 : decode cX7_share 151 = .ok (.invokestatic 224, 3) := by decide +kernel
theorem dX7_share_154 : decode cX7_share 154 = .ok (.istore 6, 2) := by decide +kernel
theorem dX7_share_156 : decode cX7_share 156 = .ok (.iload 4, 2) := by decide +kernel
theorem dX7_share_158 : decode cX7_share 158 = .ok (.ifCond .eq 41, 3) := by decide +kernel
theorem dX7_share_161 : decode cX7_share 161 = .ok (.aload_n 0, 1) := by decide +kernel
theorem dX7_share_162 : decode cX7_share 162 = .ok (.getfield 64, 3) := by decide +kernel
theorem dX7_share_165 : decode cX7_share 165 = .ok (.iload 5, 2) := by decide +kernel
theorem dX7_share_167 : decode cX7_share 167 = .ok (.iaload, 1) := by decide +kernel
theorem dX7_share_168 : decode cX7_share 168 = .ok (.aload_n 0, 1) := by decide +kernel
theorem dX7_share_169 : decode cX7_share 169 = .ok (.iload 5, 2) := by decide +kernel
theorem dX7_share_171 : decode cX7_share 171 = .ok (.invokevirtual 94, 3) := by decide +kernel
theorem dX7_share_174 : decode cX7_share 174 = .ok (.if_icmp .eq 21, 3) := by decide +kernel
theorem dX7_share_177 : decode cX7_share 177 = .ok (.iload 6, 2) := by decide +kernel
theorem dX7_share_179 : decode cX7_share 179 = .ok (.iload 6, 2) := by decide +kernel
theorem dX7_share_181 : decode cX7_share 181 = .ok (.aload_n 0, 1) := by decide +kernel
theorem dX7_share_182 : decode cX7_share 182 = .ok (.getfield 64, 3) := by decide +kernel
theorem dX7_share_185 : decode cX7_share 185 = .ok (.iload 5, 2) := by decide +kernel
theorem dX7_share_187 : decode cX7_share 187 = .ok (.iaload, 1) := by decide +kernel
theorem dX7_share_188 : decode cX7_share 188 = .ok (.iadd, 1) := by decide +kernel
theorem dX7_share_189 : decode cX7_share 189 = .ok (.invokestatic 79, 3) := by decide +kernel
theorem dX7_share_192 : decode cX7_share 192 = .ok (.ifCond .eq 7, 3) := by decide +kernel
theorem dX7_share_195 : decode cX7_share 195 = .ok (.iconst 1, 1) := by decide +kernel
theorem dX7_share_196 : decode cX7_share 196 = .ok (.goto 4, 3) := by decide +kernel
theorem dX7_share_199 : decode cX7_share 199 = .ok (.iconst 0, 1) := by decide +kernel
theorem dX7_share_200 : decode cX7_share 200 = .ok (.istore 4, 2) := by decide +kernel
theorem dX7_share_202 : decode cX7_share 202 = .ok (.iinc 5 1, 3) := by decide +kernel
theorem dX7_share_205 : decode cX7_share 205 = .ok (.goto (-126), 3) := by decide +kernel
theorem dX7_share_208 : decode cX7_share 208 = .ok (.iload 4, 2) := by decide +kernel
theorem dX7_share_210 : decode cX7_share 210 = .ok (.ireturn, 1) := by decide +kernel
set_option maxRecDepth 20000 in
theorem ggX7_distribute_X7_areFaces : GoodIn wsX7_distribute wsX7_areFaces := goodIn_r _ [11, 12, 13, 14, 10, 15, 16, 17, 18, 19, 60, 61, 62, 63, 64, 65, 66, 67, 68, 69, 70, 71, 72, 73, 74, 75, 76, 77, 78, 79, 80, 81, 82, 83, 84, 85, 86, 87, 88, 89, 90, 91, 92, 93] (by decide +kernel) (by decide +kernel)
set_option maxRecDepth 20000 in
theorem gX7_distribute_X7_areFaces : GoodIn wsX7_distribute (wsV RX7 162 RX7 yX7_areFaces wsX7_areFaces) := goodIn_app (goodIn_of _ (by decide +kernel)) ggX7_distribute_X7_areFaces
set_option maxRecDepth 20000 in
theorem ggX7_distribute_X7_within : GoodIn wsX7_distribute wsX7_within := goodIn_r _ [19] (by decide +kernel) (by decide +kernel)
set_option maxRecDepth 20000 in
theorem gX7_distribute_X7_within : GoodIn wsX7_distribute (va_wsS RX7 70 yX7_within wsX7_within) := goodIn_app (goodIn_of _ (by decide +kernel)) ggX7_distribute_X7_within
set_option maxRecDepth 20000 in
theorem ggX7_distribute_X7_findChain : GoodIn wsX7_distribute wsX7_findChain := goodIn_r _ [23, 24, 25, 26, 10, 27, 16, 28, 29, 30, 31, 32, 7, 8, 9, 11, 12, 13, 14, 15, 17, 18, 19, 33, 34, 35, 36, 2, 37, 3, 60, 61, 62, 63, 64, 65, 66, 67, 68, 69, 70, 71, 72, 73, 74, 75, 76, 77, 78, 79, 80, 81, 82, 83, 84, 85, 86, 87, 88, 89, 90, 91, 92, 93] (by decide +kernel) (by decide +kernel)
set_option maxRecDepth 20000 in
theorem gX7_distribute_X7_findChain : GoodIn wsX7_distribute (wsV RX7 168 RX7 yX7_findChain wsX7_findChain) := goodIn_app (goodIn_of _ (by decide +kernel)) ggX7_distribute_X7_findChain
set_option maxRecDepth 20000 in
theorem ggX7_distribute_X7_share : GoodIn wsX7_distribute wsX7_share := goodIn_r _ [41, 2, 4, 3, 29, 5, 6, 42, 43, 44, 10, 45, 46, 47, 48, 49, 50, 51, 52, 53, 54, 55, 56, 57, 58, 59, 17, 18, 19, 60, 61, 62, 63, 64, 65, 66, 67, 68, 69, 70, 71, 72, 73, 74, 75, 76, 77, 78, 79, 80, 81, 82, 83, 84, 85, 86, 87, 88, 89, 90, 91, 92, 93] (by decide +kernel) (by decide +kernel)
set_option maxRecDepth 20000 in
theorem gX7_distribute_X7_share : GoodIn wsX7_distribute (wsV RX7 227 RX7 yX7_share wsX7_share) := goodIn_app (goodIn_of _ (by decide +kernel)) ggX7_distribute_X7_share
set_option maxRecDepth 20000 in
theorem ggX7_distribute_X7_width : GoodIn wsX7_distribute wsX7_width := goodIn_r _ [49, 6, 5, 60, 61, 62, 63, 64, 65, 66, 67, 68, 69, 70, 71, 72, 73, 74, 75, 76, 77, 78, 79, 80, 81, 82, 83, 84, 85, 86, 87, 88, 89, 90, 91, 92, 93] (by decide +kernel) (by decide +kernel)
set_option maxRecDepth 20000 in
theorem gX7_distribute_X7_width : GoodIn wsX7_distribute (wsV RX7 94 RX7 yX7_width wsX7_width) := goodIn_app (goodIn_of _ (by decide +kernel)) ggX7_distribute_X7_width
set_option maxRecDepth 20000 in
theorem ggX7_distribute_X7_half : GoodIn wsX7_distribute wsX7_half := goodIn_r _ [56] (by decide +kernel) (by decide +kernel)
set_option maxRecDepth 20000 in
theorem gX7_distribute_X7_half : GoodIn wsX7_distribute (va_wsS RX7 224 yX7_half wsX7_half) := goodIn_app (goodIn_of _ (by decide +kernel)) ggX7_distribute_X7_half
theorem dX7_distribute_0 : decode cX7_distribute 0 = .ok (.aload_n 0, 1) := by decide +kernel
theorem dX7_distribute_1 : decode cX7_distribute 1 = .ok (.aload_n 0, 1) := by decide +kernel
theorem dX7_distribute_2 : decode cX7_distribute 2 = .ok (.iload_n 1, 1) := by decide +kernel
theorem dX7_distribute_3 : decode cX7_distribute 3 = .ok (.iload_n 2, 1) := by decide +kernel
theorem dX7_distribute_4 : decode cX7_distribute 4 = .ok (.invokevirtual 162, 3) := by decide +kernel
theorem dX7_distribute_7 : decode cX7_distribute 7 = .ok (.ifCond .ne 7, 3) := by decide +kernel
theorem dX7_distribute_10 : decode cX7_distribute 10 = .ok (.iconst 1, 1) := by decide +kernel
theorem dX7_distribute_11 : decode cX7_distribute 11 = .ok (.goto 40, 3) := by decide +kernel
theorem dX7_distribute_14 : decode cX7_distribute 14 = .ok (.iload_n 3, 1) := by decide +kernel
theorem dX7_distribute_15 : decode cX7_distribute 15 = .ok (.iconst 0, 1) := by decide +kernel
theorem dX7_distribute_16 : decode cX7_distribute 16 = .ok (.sipush 1998, 3) := by decide +kernel
theorem dX7_distribute_19 : decode cX7_distribute 19 = .ok (.invokestatic 70, 3) := by decide +kernel
theorem dX7_distribute_22 : decode cX7_distribute 22 = .ok (.ifCond .ne 7, 3) := by decide +kernel
theorem dX7_distribute_25 : decode cX7_distribute 25 = .ok (.iconst 2, 1) := by decide +kernel
theorem dX7_distribute_26 : decode cX7_distribute 26 = .ok (.goto 25, 3) := by decide +kernel
theorem dX7_distribute_29 : decode cX7_distribute 29 = .ok (.aload_n 0, 1) := by decide +kernel
theorem dX7_distribute_30 : decode cX7_distribute 30 = .ok (.iload_n 1, 1) := by decide +kernel
theorem dX7_distribute_31 : decode cX7_distribute 31 = .ok (.iload_n 2, 1) := by decide +kernel
theorem dX7_distribute_32 : decode cX7_distribute 32 = .ok (.invokevirtual 168, 3) := by decide +kernel
theorem dX7_distribute_35 : decode cX7_distribute 35 = .ok (.ifCond .eq 15, 3) := by decide +kernel
theorem dX7_distribute_38 : decode cX7_distribute 38 = .ok (.aload_n 0, 1) := by decide +kernel
theorem dX7_distribute_39 : decode cX7_distribute 39 = .ok (.iload_n 3, 1) := by decide +kernel
theorem dX7_distribute_40 : decode cX7_distribute 40 = .ok (.invokevirtual 227, 3) := by decide +kernel
theorem dX7_distribute_43 : decode cX7_distribute 43 = .ok (.ifCond .eq 7, 3) := by decide +kernel
theorem dX7_distribute_46 : decode cX7_distribute 46 = .ok (.iconst 0, 1) := by decide +kernel
theorem dX7_distribute_47 : decode cX7_distribute 47 = .ok (.goto 4, 3) := by decide +kernel
theorem dX7_distribute_50 : decode cX7_distribute 50 = .ok (.iconst 3, 1) := by decide +kernel
theorem dX7_distribute_51 : decode cX7_distribute 51 = .ok (.putfield 67, 3) := by decide +kernel
theorem dX7_distribute_54 : decode cX7_distribute 54 = .ok (.iconst 0, 1) := by decide +kernel
theorem dX7_distribute_55 : decode cX7_distribute 55 = .ok (.istore 4, 2) := by decide +kernel
theorem dX7_distribute_57 : decode cX7_distribute 57 = .ok (.iconst 0, 1) := by decide +kernel
theorem dX7_distribute_58 : decode cX7_distribute 58 = .ok (.istore 5, 2) := by decide +kernel
theorem dX7_distribute_60 : decode cX7_distribute 60 = .ok (.iload 5, 2) := by decide +kernel
theorem dX7_distribute_62 : decode cX7_distribute 62 = .ok (.aload_n 0, 1) := by decide +kernel
theorem dX7_distribute_63 : decode cX7_distribute 63 = .ok (.getfield 159, 3) := by decide +kernel
theorem dX7_distribute_66 : decode cX7_distribute 66 = .ok (.if_icmp .ge 99, 3) := by decide +kernel
theorem dX7_distribute_69 : decode cX7_distribute 69 = .ok (.aload_n 0, 1) := by decide +kernel
theorem dX7_distribute_70 : decode cX7_distribute 70 = .ok (.getfield 67, 3) := by decide +kernel
theorem dX7_distribute_73 : decode cX7_distribute 73 = .ok (.ifCond .ne 92, 3) := by decide +kernel
theorem dX7_distribute_76 : decode cX7_distribute 76 = .ok (.aload_n 0, 1) := by decide +kernel
theorem dX7_distribute_77 : decode cX7_distribute 77 = .ok (.getfield 54, 3) := by decide +kernel
theorem dX7_distribute_80 : decode cX7_distribute 80 = .ok (.iload 5, 2) := by decide +kernel
theorem dX7_distribute_82 : decode cX7_distribute 82 = .ok (.iaload, 1) := by decide +kernel
theorem dX7_distribute_83 : decode cX7_distribute 83 = .ok (.istore 6, 2) := by decide +kernel
theorem dX7_distribute_85 : decode cX7_distribute 85 = .ok (.aload_n 0, 1) := by decide +kernel
theorem dX7_distribute_86 : decode cX7_distribute 86 = .ok (.getfield 64, 3) := by decide +kernel
theorem dX7_distribute_89 : decode cX7_distribute 89 = .ok (.iload 6, 2) := by decide +kernel
theorem dX7_distribute_91 : decode cX7_distribute 91 = .ok (.iaload, 1) := by decide +kernel
theorem dX7_distribute_92 : decode cX7_distribute 92 = .ok (.aload_n 0, 1) := by decide +kernel
theorem dX7_distribute_93 : decode cX7_distribute 93 = .ok (.iload 6, 2) := by decide +kernel
theorem dX7_distribute_95 : decode cX7_distribute 95 = .ok (.invokevirtual 94, 3) := by decide +kernel
theorem dX7_distribute_98 : decode cX7_distribute 98 = .ok (.if_icmp .eq 61, 3) := by decide +kernel
theorem dX7_distribute_101 : decode cX7_distribute 101 = .ok (.aload_n 0, 1) := by decide +kernel
theorem dX7_distribute_102 : decode cX7_distribute 102 = .ok (.getfield 23, 3) := by decide +kernel
theorem dX7_distribute_105 : decode cX7_distribute 105 = .ok (.iload 6, 2) := by decide +kernel
theorem dX7_distribute_107 : decode cX7_distribute 107 = .ok (.aload_n 0, 1) := by decide +kernel
theorem dX7_distribute_108 : decode cX7_distribute 108 = .ok (.getfield 23, 3) := by decide +kernel
theorem dX7_distribute_111 : decode cX7_distribute 111 = .ok (.iload 6, 2) := by decide +kernel
theorem dX7_distribute_113 : decode cX7_distribute 113 = .ok (.iaload, 1) := by decide +kernel
theorem dX7_distribute_114 : decode cX7_distribute 114 = .ok (.aload_n 0, 1) := by decide +kernel
theorem dX7_distribute_115 : decode cX7_distribute 115 = .ok (.getfield 26, 3) := by decide +kernel
theorem dX7_distribute_118 : decode cX7_distribute 118 = .ok (.iload 6, 2) := by decide +kernel
theorem dX7_distribute_120 : decode cX7_distribute 120 = .ok (.iaload, 1) := by decide +kernel
theorem dX7_distribute_121 : decode cX7_distribute 121 = .ok (.iadd, 1) := by decide +kernel
theorem dX7_distribute_122 : decode cX7_distribute 122 = .ok (.aload_n 0, 1) := by decide +kernel
theorem dX7_distribute_123 : decode cX7_distribute 123 = .ok (.getfield 64, 3) := by decide +kernel
theorem dX7_distribute_126 : decode cX7_distribute 126 = .ok (.iload 6, 2) := by decide +kernel
theorem dX7_distribute_128 : decode cX7_distribute 128 = .ok (.iaload, 1) := by decide +kernel
theorem dX7_distribute_129 : decode cX7_distribute 129 = .ok (.isub, 1) := by decide +kernel
theorem dX7_distribute_130 : decode cX7_distribute 130 = .ok (.invokestatic 224, 3) := by decide +kernel
theorem dX7_distribute_133 : decode cX7_distribute 133 = .ok (.iastore, 1) := by decide +kernel
theorem dX7_distribute_134 : decode cX7_distribute 134 = .ok (.aload_n 0, 1) := by decide +kernel
theorem dX7_distribute_135 : decode cX7_distribute 135 = .ok (.getfield 26, 3) := by decide +kernel
theorem dX7_distribute_138 : decode cX7_distribute 138 = .ok (.iload 6, 2) := by decide +kernel
theorem dX7_distribute_140 : decode cX7_distribute 140 = .ok (.aload_n 0, 1) := by decide +kernel
theorem dX7_distribute_141 : decode cX7_distribute 141 = .ok (.getfield 23, 3) := by decide +kernel
theorem dX7_distribute_144 : decode cX7_distribute 144 = .ok (.iload 6, 2) := by decide +kernel
theorem dX7_distribute_146 : decode cX7_distribute 146 = .ok (.iaload, 1) := by decide +kernel
theorem dX7_distribute_147 : decode cX7_distribute 147 = .ok (.aload_n 0, 1) := by decide +kernel
theorem dX7_distribute_148 : decode cX7_distribute 148 = .ok (.getfield 64, 3) := by decide +kernel
theorem dX7_distribute_151 : decode cX7_distribute 151 = .ok (.iload 6, 2) := by decide +kernel
theorem dX7_distribute_153 : decode cX7_distribute 153 = .ok (.iaload, 1) := by decide +kernel
theorem dX7_distribute_154 : decode cX7_distribute 154 = .ok (.iadd, 1) := by decide +kernel
theorem dX7_distribute_155 : decode cX7_distribute 155 = .ok (.iastore, 1) := by decide +kernel
theorem dX7_distribute_156 : decode cX7_distribute 156 = .ok (.iinc 4 1, 3) := by decide +kernel
theorem dX7_distribute_159 : decode cX7_distribute 159 = .ok (.iinc 5 1, 3) := by decide +kernel
theorem dX7_distribute_162 : decode cX7_distribute 162 = .ok (.goto (-102), 3) := by decide +kernel
theorem dX7_distribute_165 : decode cX7_distribute 165 = .ok (.iload 4, 2) := by decide +kernel
theorem dX7_distribute_167 : decode cX7_distribute 167 = .ok (.ireturn, 1) := by decide +kernel
theorem dX7_mix_0 : decode cX7_mix 0 = .ok (.aload_n 0, 1) := by decide +kernel
theorem dX7_mix_1 : decode cX7_mix 1 = .ok (.ldc2_w 230, 3) := by decide +kernel
theorem dX7_mix_4 : decode cX7_mix 4 = .ok (.aload_n 0, 1) := by decide +kernel
theorem dX7_mix_5 : decode cX7_mix 5 = .ok (.getfield 232, 3) := by decide +kernel
theorem dX7_mix_8 : decode cX7_mix 8 = .ok (.lmul, 1) := by decide +kernel
theorem dX7_mix_9 : decode cX7_mix 9 = .ok (.lload_n 1, 1) := by decide +kernel
theorem dX7_mix_10 : decode cX7_mix 10 = .ok (.ladd, 1) := by decide +kernel
theorem dX7_mix_11 : decode cX7_mix 11 = .ok (.putfield 232, 3) := by decide +kernel
theorem dX7_mix_14 : decode cX7_mix 14 = .ok (.return_, 1) := by decide +kernel
set_option maxRecDepth 20000 in
theorem ggX7_mixGaps_X7_layChain : GoodIn wsX7_mixGaps wsX7_layChain := goodIn_r _ [9, 10, 11, 1, 12, 13, 14, 15, 16, 17, 48, 49, 50, 51, 52, 53, 54, 55, 56, 57, 58, 59, 60, 61, 62, 63, 64, 65, 66, 67, 68, 69, 70, 71, 72, 73, 74, 75, 76, 77, 78, 79, 80, 81] (by decide +kernel) (by decide +kernel)
set_option maxRecDepth 20000 in
theorem gX7_mixGaps_X7_layChain : GoodIn wsX7_mixGaps (wsV RX7 165 RX7 yX7_layChain wsX7_layChain) := goodIn_app (goodIn_of _ (by decide +kernel)) ggX7_mixGaps_X7_layChain
set_option maxRecDepth 20000 in
theorem ggX7_mixGaps_X7_addUp : GoodIn wsX7_mixGaps wsX7_addUp := goodIn_r _ [21, 2, 3, 4, 10, 17, 15, 22, 23, 24, 16, 48, 49, 50, 51, 52, 53, 54, 55, 56, 57, 58, 59, 60, 61, 62, 63, 64, 65, 66, 67, 68, 69, 70, 71, 72, 73, 74, 75, 76, 77, 78, 79, 80, 81] (by decide +kernel) (by decide +kernel)
set_option maxRecDepth 20000 in
theorem gX7_mixGaps_X7_addUp : GoodIn wsX7_mixGaps (wsV RX7 180 RX7 yX7_addUp wsX7_addUp) := goodIn_app (goodIn_of _ (by decide +kernel)) ggX7_mixGaps_X7_addUp
set_option maxRecDepth 20000 in
theorem ggX7_mixGaps_X7_mix : GoodIn wsX7_mixGaps wsX7_mix := goodIn_r _ [28, 29, 30, 48, 49, 50, 51, 52, 53, 54, 55, 56, 57, 58, 59, 60, 61, 62, 63, 64, 65, 66, 67, 68, 69, 70, 71, 72, 73, 74, 75, 76, 77, 78, 79, 80, 81] (by decide +kernel) (by decide +kernel)
set_option maxRecDepth 20000 in
theorem gX7_mixGaps_X7_mix : GoodIn wsX7_mixGaps (wsV RX7 236 RX7 yX7_mix wsX7_mix) := goodIn_app (goodIn_of _ (by decide +kernel)) ggX7_mixGaps_X7_mix
set_option maxRecDepth 20000 in
theorem ggX7_mixGaps_X7_spreadNow : GoodIn wsX7_mixGaps wsX7_spreadNow := goodIn_r _ [34, 10, 17, 35, 36, 37, 8, 38, 24, 23, 48, 49, 50, 51, 52, 53, 54, 55, 56, 57, 58, 59, 60, 61, 62, 63, 64, 65, 66, 67, 68, 69, 70, 71, 72, 73, 74, 75, 76, 77, 78, 79, 80, 81] (by decide +kernel) (by decide +kernel)
set_option maxRecDepth 20000 in
theorem gX7_mixGaps_X7_spreadNow : GoodIn wsX7_mixGaps (wsV RX7 184 RX7 yX7_spreadNow wsX7_spreadNow) := goodIn_app (goodIn_of _ (by decide +kernel)) ggX7_mixGaps_X7_spreadNow
set_option maxRecDepth 20000 in
theorem ggX7_mixGaps_X7_contributorNow : GoodIn wsX7_mixGaps wsX7_contributorNow := goodIn_r _ [42, 10, 17, 35, 36, 37, 8, 38, 24, 23, 48, 49, 50, 51, 52, 53, 54, 55, 56, 57, 58, 59, 60, 61, 62, 63, 64, 65, 66, 67, 68, 69, 70, 71, 72, 73, 74, 75, 76, 77, 78, 79, 80, 81] (by decide +kernel) (by decide +kernel)
set_option maxRecDepth 20000 in
theorem gX7_mixGaps_X7_contributorNow : GoodIn wsX7_mixGaps (wsV RX7 187 RX7 yX7_contributorNow wsX7_contributorNow) := goodIn_app (goodIn_of _ (by decide +kernel)) ggX7_mixGaps_X7_contributorNow
set_option maxRecDepth 20000 in
theorem ggX7_mixGaps_X7_tightNow : GoodIn wsX7_mixGaps wsX7_tightNow := goodIn_r _ [46, 47, 48, 49, 50, 51, 52, 53, 54, 55, 56, 57, 58, 59, 60, 61, 62, 63, 64, 65, 66, 67, 68, 69, 70, 71, 72, 73, 74, 75, 76, 77, 78, 79, 80, 81] (by decide +kernel) (by decide +kernel)
set_option maxRecDepth 20000 in
theorem gX7_mixGaps_X7_tightNow : GoodIn wsX7_mixGaps (wsV RX7 208 RX7 yX7_tightNow wsX7_tightNow) := goodIn_app (goodIn_of _ (by decide +kernel)) ggX7_mixGaps_X7_tightNow
theorem dX7_mixGaps_0 : decode cX7_mixGaps 0 = .ok (.iconst 1, 1) := by decide +kernel
theorem dX7_mixGaps_1 : decode cX7_mixGaps 1 = .ok (.istore_n 2, 1) := by decide +kernel
theorem dX7_mixGaps_2 : decode cX7_mixGaps 2 = .ok (.iload_n 2, 1) := by decide +kernel
theorem dX7_mixGaps_3 : decode cX7_mixGaps 3 = .ok (.aload_n 0, 1) := by decide +kernel
theorem dX7_mixGaps_4 : decode cX7_mixGaps 4 = .ok (.getfield 7, 3) := by decide +kernel
theorem dX7_mixGaps_7 : decode cX7_mixGaps 7 = .ok (.if_icmp .ge 96, 3) := by decide +kernel
theorem dX7_mixGaps_10 : decode cX7_mixGaps 10 = .ok (.aload_n 0, 1) := by decide +kernel
theorem dX7_mixGaps_11 : decode cX7_mixGaps 11 = .ok (.iconst 0, 1) := by decide +kernel
theorem dX7_mixGaps_12 : decode cX7_mixGaps 12 = .ok (.iload_n 2, 1) := by decide +kernel
theorem dX7_mixGaps_13 : decode cX7_mixGaps 13 = .ok (.invokevirtual 165, 3) := by decide +kernel
theorem dX7_mixGaps_16 : decode cX7_mixGaps 16 = .ok (.ifCond .eq 81, 3) := by decide +kernel
theorem dX7_mixGaps_19 : decode cX7_mixGaps 19 = .ok (.aload_n 0, 1) := by decide +kernel
theorem dX7_mixGaps_20 : decode cX7_mixGaps 20 = .ok (.iconst 0, 1) := by decide +kernel
theorem dX7_mixGaps_21 : decode cX7_mixGaps 21 = .ok (.invokevirtual 180, 3) := by decide +kernel
theorem dX7_mixGaps_24 : decode cX7_mixGaps 24 = .ok (.aload_n 0, 1) := by decide +kernel
theorem dX7_mixGaps_25 : decode cX7_mixGaps 25 = .ok (.aload_n 0, 1) := by decide +kernel
theorem dX7_mixGaps_26 : decode cX7_mixGaps 26 = .ok (.getfield 171, 3) := by decide +kernel
theorem dX7_mixGaps_29 : decode cX7_mixGaps 29 = .ok (.i2l, 1) := by decide +kernel
theorem dX7_mixGaps_30 : decode cX7_mixGaps 30 = .ok (.invokevirtual 236, 3) := by decide +kernel
theorem dX7_mixGaps_33 : decode cX7_mixGaps 33 = .ok (.aload_n 0, 1) := by decide +kernel
theorem dX7_mixGaps_34 : decode cX7_mixGaps 34 = .ok (.aload_n 0, 1) := by decide +kernel
theorem dX7_mixGaps_35 : decode cX7_mixGaps 35 = .ok (.getfield 174, 3) := by decide +kernel
theorem dX7_mixGaps_38 : decode cX7_mixGaps 38 = .ok (.i2l, 1) := by decide +kernel
theorem dX7_mixGaps_39 : decode cX7_mixGaps 39 = .ok (.invokevirtual 236, 3) := by decide +kernel
theorem dX7_mixGaps_42 : decode cX7_mixGaps 42 = .ok (.aload_n 0, 1) := by decide +kernel
theorem dX7_mixGaps_43 : decode cX7_mixGaps 43 = .ok (.aload_n 0, 1) := by decide +kernel
theorem dX7_mixGaps_44 : decode cX7_mixGaps 44 = .ok (.getfield 177, 3) := by decide +kernel
theorem dX7_mixGaps_47 : decode cX7_mixGaps 47 = .ok (.i2l, 1) := by decide +kernel
theorem dX7_mixGaps_48 : decode cX7_mixGaps 48 = .ok (.invokevirtual 236, 3) := by decide +kernel
theorem dX7_mixGaps_51 : decode cX7_mixGaps 51 = .ok (.aload_n 0, 1) := by decide +kernel
theorem dX7_mixGaps_52 : decode cX7_mixGaps 52 = .ok (.aload_n 0, 1) := by decide +kernel
theorem dX7_mixGaps_53 : decode cX7_mixGaps 53 = .ok (.invokevirtual 184, 3) := by decide +kernel
theorem dX7_mixGaps_56 : decode cX7_mixGaps 56 = .ok (.i2l, 1) := by decide +kernel
theorem dX7_mixGaps_57 : decode cX7_mixGaps 57 = .ok (.invokevirtual 236, 3) := by decide +kernel
theorem dX7_mixGaps_60 : decode cX7_mixGaps 60 = .ok (.aload_n 0, 1) := by decide +kernel
theorem dX7_mixGaps_61 : decode cX7_mixGaps 61 = .ok (.aload_n 0, 1) := by decide +kernel
theorem dX7_mixGaps_62 : decode cX7_mixGaps 62 = .ok (.invokevirtual 187, 3) := by decide +kernel
theorem dX7_mixGaps_65 : decode cX7_mixGaps 65 = .ok (.i2l, 1) := by decide +kernel
theorem dX7_mixGaps_66 : decode cX7_mixGaps 66 = .ok (.invokevirtual 236, 3) := by decide +kernel
theorem dX7_mixGaps_69 : decode cX7_mixGaps 69 = .ok (.iload_n 1, 1) := by decide +kernel
theorem dX7_mixGaps_70 : decode cX7_mixGaps 70 = .ok (.ifCond .eq 27, 3) := by decide +kernel
theorem dX7_mixGaps_73 : decode cX7_mixGaps 73 = .ok (.aload_n 0, 1) := by decide +kernel
theorem dX7_mixGaps_74 : decode cX7_mixGaps 74 = .ok (.aload_n 0, 1) := by decide +kernel
theorem dX7_mixGaps_75 : decode cX7_mixGaps 75 = .ok (.iconst 0, 1) := by decide +kernel
theorem dX7_mixGaps_76 : decode cX7_mixGaps 76 = .ok (.iload_n 2, 1) := by decide +kernel
theorem dX7_mixGaps_77 : decode cX7_mixGaps 77 = .ok (.iconst 0, 1) := by decide +kernel
theorem dX7_mixGaps_78 : decode cX7_mixGaps 78 = .ok (.invokevirtual 208, 3) := by decide +kernel
theorem dX7_mixGaps_81 : decode cX7_mixGaps 81 = .ok (.i2l, 1) := by decide +kernel
theorem dX7_mixGaps_82 : decode cX7_mixGaps 82 = .ok (.invokevirtual 236, 3) := by decide +kernel
theorem dX7_mixGaps_85 : decode cX7_mixGaps 85 = .ok (.aload_n 0, 1) := by decide +kernel
theorem dX7_mixGaps_86 : decode cX7_mixGaps 86 = .ok (.aload_n 0, 1) := by decide +kernel
theorem dX7_mixGaps_87 : decode cX7_mixGaps 87 = .ok (.iconst 0, 1) := by decide +kernel
theorem dX7_mixGaps_88 : decode cX7_mixGaps 88 = .ok (.iload_n 2, 1) := by decide +kernel
theorem dX7_mixGaps_89 : decode cX7_mixGaps 89 = .ok (.iconst 1, 1) := by decide +kernel
theorem dX7_mixGaps_90 : decode cX7_mixGaps 90 = .ok (.invokevirtual 208, 3) := by decide +kernel
theorem dX7_mixGaps_93 : decode cX7_mixGaps 93 = .ok (.i2l, 1) := by decide +kernel
theorem dX7_mixGaps_94 : decode cX7_mixGaps 94 = .ok (.invokevirtual 236, 3) := by decide +kernel
theorem dX7_mixGaps_97 : decode cX7_mixGaps 97 = .ok (.iinc 2 1, 3) := by decide +kernel
theorem dX7_mixGaps_100 : decode cX7_mixGaps 100 = .ok (.goto (-98), 3) := by decide +kernel
theorem dX7_mixGaps_103 : decode cX7_mixGaps 103 = .ok (.return_, 1) := by decide +kernel
set_option maxRecDepth 20000 in
theorem ggX7_digest_X7_mix : GoodIn wsX7_digest wsX7_mix := goodIn_r _ [14, 15, 3, 77, 78, 79, 80, 81, 82, 83, 84, 85, 86, 87, 88, 89, 90, 91, 92, 93, 94, 95, 96, 97, 98, 99, 100, 101, 102, 103, 104, 105, 106, 107, 108, 109, 110] (by decide +kernel) (by decide +kernel)
set_option maxRecDepth 20000 in
theorem gX7_digest_X7_mix : GoodIn wsX7_digest (wsV RX7 236 RX7 yX7_mix wsX7_mix) := goodIn_app (goodIn_of _ (by decide +kernel)) ggX7_digest_X7_mix
set_option maxRecDepth 20000 in
theorem ggX7_digest_X7_joinAll : GoodIn wsX7_digest wsX7_joinAll := goodIn_r _ [19, 4, 7, 5, 20, 21, 6, 77, 78, 79, 80, 81, 82, 83, 84, 85, 86, 87, 88, 89, 90, 91, 92, 93, 94, 95, 96, 97, 98, 99, 100, 101, 102, 103, 104, 105, 106, 107, 108, 109, 110] (by decide +kernel) (by decide +kernel)
set_option maxRecDepth 20000 in
theorem gX7_digest_X7_joinAll : GoodIn wsX7_digest (wsV RX7 156 RX7 yX7_joinAll wsX7_joinAll) := goodIn_app (goodIn_of _ (by decide +kernel)) ggX7_digest_X7_joinAll
set_option maxRecDepth 20000 in
theorem ggX7_digest_X7_told : GoodIn wsX7_digest wsX7_told := goodIn_r _ [25, 20, 21, 26, 27, 28, 77, 78, 79, 80, 81, 82, 83, 84, 85, 86, 87, 88, 89, 90, 91, 92, 93, 94, 95, 96, 97, 98, 99, 100, 101, 102, 103, 104, 105, 106, 107, 108, 109, 110] (by decide +kernel) (by decide +kernel)
set_option maxRecDepth 20000 in
theorem gX7_digest_X7_told : GoodIn wsX7_digest (wsV RX7 106 RX7 yX7_told wsX7_told) := goodIn_app (goodIn_of _ (by decide +kernel)) ggX7_digest_X7_told
set_option maxRecDepth 20000 in
theorem ggX7_digest_X7_contradictionsNow : GoodIn wsX7_digest wsX7_contradictionsNow := goodIn_r _ [32, 5, 6, 20, 21, 26, 28, 33, 27, 34, 16, 17, 18, 13, 19, 4, 7, 35, 36, 37, 38, 39, 40, 41, 42, 43, 44, 45, 46, 77, 78, 79, 80, 81, 82, 83, 84, 85, 86, 87, 88, 89, 90, 91, 92, 93, 94, 95, 96, 97, 98, 99, 100, 101, 102, 103, 104, 105, 106, 107, 108, 109, 110] (by decide +kernel) (by decide +kernel)
set_option maxRecDepth 20000 in
theorem gX7_digest_X7_contradictionsNow : GoodIn wsX7_digest (wsV RX7 196 RX7 yX7_contradictionsNow wsX7_contradictionsNow) := goodIn_app (goodIn_of _ (by decide +kernel)) ggX7_digest_X7_contradictionsNow
set_option maxRecDepth 20000 in
theorem ggX7_digest_X7_layBounds : GoodIn wsX7_digest wsX7_layBounds := goodIn_r _ [50, 51, 52, 5, 20, 21, 26, 28, 27, 4, 53, 54, 55, 13, 56, 77, 78, 79, 80, 81, 82, 83, 84, 85, 86, 87, 88, 89, 90, 91, 92, 93, 94, 95, 96, 97, 98, 99, 100, 101, 102, 103, 104, 105, 106, 107, 108, 109, 110] (by decide +kernel) (by decide +kernel)
set_option maxRecDepth 20000 in
theorem gX7_digest_X7_layBounds : GoodIn wsX7_digest (wsV RX7 205 RX7 yX7_layBounds wsX7_layBounds) := goodIn_app (goodIn_of _ (by decide +kernel)) ggX7_digest_X7_layBounds
set_option maxRecDepth 20000 in
theorem ggX7_digest_X7_mixGaps : GoodIn wsX7_digest wsX7_mixGaps := goodIn_r _ [60, 4, 46, 33, 34, 35, 36, 37, 13, 38, 39, 7, 40, 5, 6, 20, 21, 41, 42, 43, 44, 45, 26, 27, 28, 10, 11, 12, 14, 15, 3, 61, 62, 63, 64, 65, 66, 67, 68, 69, 70, 71, 72, 73, 74, 75, 76, 51, 77, 78, 79, 80, 81, 82, 83, 84, 85, 86, 87, 88, 89, 90, 91, 92, 93, 94, 95, 96, 97, 98, 99, 100, 101, 102, 103, 104, 105, 106, 107, 108, 109, 110] (by decide +kernel) (by decide +kernel)
set_option maxRecDepth 20000 in
theorem gX7_digest_X7_mixGaps : GoodIn wsX7_digest (wsV RX7 242 RX7 yX7_mixGaps wsX7_mixGaps) := goodIn_app (goodIn_of _ (by decide +kernel)) ggX7_digest_X7_mixGaps
theorem dX7_digest_0 : decode cX7_digest 0 = .ok (.aload_n 0, 1) := by decide +kernel
theorem dX7_digest_1 : decode cX7_digest 1 = .ok (.iconst 0, 1) := by decide +kernel
theorem dX7_digest_2 : decode cX7_digest 2 = .ok (.putfield 67, 3) := by decide +kernel
theorem dX7_digest_5 : decode cX7_digest 5 = .ok (.aload_n 0, 1) := by decide +kernel
theorem dX7_digest_6 : decode cX7_digest 6 = .ok (.ldc2_w 240, 3) := by decide +kernel
theorem dX7_digest_9 : decode cX7_digest 9 = .ok (.putfield 232, 3) := by decide +kernel
theorem dX7_digest_12 : decode cX7_digest 12 = .ok (.aload_n 0, 1) := by decide +kernel
theorem dX7_digest_13 : decode cX7_digest 13 = .ok (.aload_n 0, 1) := by decide +kernel
theorem dX7_digest_14 : decode cX7_digest 14 = .ok (.getfield 7, 3) := by decide +kernel
theorem dX7_digest_17 : decode cX7_digest 17 = .ok (.i2l, 1) := by decide +kernel
theorem dX7_digest_18 : decode cX7_digest 18 = .ok (.invokevirtual 236, 3) := by decide +kernel
theorem dX7_digest_21 : decode cX7_digest 21 = .ok (.aload_n 0, 1) := by decide +kernel
theorem dX7_digest_22 : decode cX7_digest 22 = .ok (.aload_n 0, 1) := by decide +kernel
theorem dX7_digest_23 : decode cX7_digest 23 = .ok (.getfield 74, 3) := by decide +kernel
theorem dX7_digest_26 : decode cX7_digest 26 = .ok (.i2l, 1) := by decide +kernel
theorem dX7_digest_27 : decode cX7_digest 27 = .ok (.invokevirtual 236, 3) := by decide +kernel
theorem dX7_digest_30 : decode cX7_digest 30 = .ok (.aload_n 0, 1) := by decide +kernel
theorem dX7_digest_31 : decode cX7_digest 31 = .ok (.invokevirtual 156, 3) := by decide +kernel
theorem dX7_digest_34 : decode cX7_digest 34 = .ok (.iconst 0, 1) := by decide +kernel
theorem dX7_digest_35 : decode cX7_digest 35 = .ok (.istore_n 1, 1) := by decide +kernel
theorem dX7_digest_36 : decode cX7_digest 36 = .ok (.iload_n 1, 1) := by decide +kernel
theorem dX7_digest_37 : decode cX7_digest 37 = .ok (.aload_n 0, 1) := by decide +kernel
theorem dX7_digest_38 : decode cX7_digest 38 = .ok (.getfield 74, 3) := by decide +kernel
theorem dX7_digest_41 : decode cX7_digest 41 = .ok (.if_icmp .ge 51, 3) := by decide +kernel
theorem dX7_digest_44 : decode cX7_digest 44 = .ok (.iconst 0, 1) := by decide +kernel
theorem dX7_digest_45 : decode cX7_digest 45 = .ok (.istore_n 2, 1) := by decide +kernel
theorem dX7_digest_46 : decode cX7_digest 46 = .ok (.iload_n 2, 1) := by decide +kernel
theorem dX7_digest_47 : decode cX7_digest 47 = .ok (.iconst 5, 1) := by decide +kernel
theorem dX7_digest_48 : decode cX7_digest 48 = .ok (.if_icmp .ge 20, 3) := by decide +kernel
theorem dX7_digest_51 : decode cX7_digest 51 = .ok (.aload_n 0, 1) := by decide +kernel
theorem dX7_digest_52 : decode cX7_digest 52 = .ok (.aload_n 0, 1) := by decide +kernel
theorem dX7_digest_53 : decode cX7_digest 53 = .ok (.iload_n 1, 1) := by decide +kernel
theorem dX7_digest_54 : decode cX7_digest 54 = .ok (.iload_n 2, 1) := by decide +kernel
theorem dX7_digest_55 : decode cX7_digest 55 = .ok (.invokevirtual 106, 3) := by decide +kernel
theorem dX7_digest_58 : decode cX7_digest 58 = .ok (.i2l, 1) := by decide +kernel
theorem dX7_digest_59 : decode cX7_digest 59 = .ok (.invokevirtual 236, 3) := by decide +kernel
theorem dX7_digest_62 : decode cX7_digest 62 = .ok (.iinc 2 1, 3) := by decide +kernel
theorem dX7_digest_65 : decode cX7_digest 65 = .ok (.goto (-19), 3) := by decide +kernel
theorem dX7_digest_68 : decode cX7_digest 68 = .ok (.aload_n 0, 1) := by decide +kernel
theorem dX7_digest_69 : decode cX7_digest 69 = .ok (.aload_n 0, 1) := by decide +kernel
theorem dX7_digest_70 : decode cX7_digest 70 = .ok (.getfield 50, 3) := by decide +kernel
theorem dX7_digest_73 : decode cX7_digest 73 = .ok (.iload_n 1, 1) := by decide +kernel
theorem dX7_digest_74 : decode cX7_digest 74 = .ok (.baload, 1) := by decide +kernel
theorem dX7_digest_75 : decode cX7_digest 75 = .ok (.ifCond .eq 7, 3) := by decide +kernel
theorem dX7_digest_78 : decode cX7_digest 78 = .ok (.lconst 1, 1) := by decide +kernel
theorem dX7_digest_79 : decode cX7_digest 79 = .ok (.goto 4, 3) := by decide +kernel
theorem dX7_digest_82 : decode cX7_digest 82 = .ok (.lconst 0, 1) := by decide +kernel
theorem dX7_digest_83 : decode cX7_digest 83 = .ok (.invokevirtual 236, 3) := by decide +kernel
theorem dX7_digest_86 : decode cX7_digest 86 = .ok (.iinc 1 1, 3) := by decide +kernel
theorem dX7_digest_89 : decode cX7_digest 89 = .ok (.goto (-53), 3) := by decide +kernel
theorem dX7_digest_92 : decode cX7_digest 92 = .ok (.iconst 0, 1) := by decide +kernel
theorem dX7_digest_93 : decode cX7_digest 93 = .ok (.istore_n 1, 1) := by decide +kernel
theorem dX7_digest_94 : decode cX7_digest 94 = .ok (.iload_n 1, 1) := by decide +kernel
theorem dX7_digest_95 : decode cX7_digest 95 = .ok (.aload_n 0, 1) := by decide +kernel
theorem dX7_digest_96 : decode cX7_digest 96 = .ok (.getfield 7, 3) := by decide +kernel
theorem dX7_digest_99 : decode cX7_digest 99 = .ok (.if_icmp .ge 20, 3) := by decide +kernel
theorem dX7_digest_102 : decode cX7_digest 102 = .ok (.aload_n 0, 1) := by decide +kernel
theorem dX7_digest_103 : decode cX7_digest 103 = .ok (.aload_n 0, 1) := by decide +kernel
theorem dX7_digest_104 : decode cX7_digest 104 = .ok (.getfield 47, 3) := by decide +kernel
theorem dX7_digest_107 : decode cX7_digest 107 = .ok (.iload_n 1, 1) := by decide +kernel
theorem dX7_digest_108 : decode cX7_digest 108 = .ok (.iaload, 1) := by decide +kernel
theorem dX7_digest_109 : decode cX7_digest 109 = .ok (.i2l, 1) := by decide +kernel
theorem dX7_digest_110 : decode cX7_digest 110 = .ok (.invokevirtual 236, 3) := by decide +kernel
theorem dX7_digest_113 : decode cX7_digest 113 = .ok (.iinc 1 1, 3) := by decide +kernel
theorem dX7_digest_116 : decode cX7_digest 116 = .ok (.goto (-22), 3) := by decide +kernel
theorem dX7_digest_119 : decode cX7_digest 119 = .ok (.aload_n 0, 1) := by decide +kernel
theorem dX7_digest_120 : decode cX7_digest 120 = .ok (.aload_n 0, 1) := by decide +kernel
theorem dX7_digest_121 : decode cX7_digest 121 = .ok (.invokevirtual 196, 3) := by decide +kernel
theorem dX7_digest_124 : decode cX7_digest 124 = .ok (.i2l, 1) := by decide +kernel
theorem dX7_digest_125 : decode cX7_digest 125 = .ok (.invokevirtual 236, 3) := by decide +kernel
theorem dX7_digest_128 : decode cX7_digest 128 = .ok (.aload_n 0, 1) := by decide +kernel
theorem dX7_digest_129 : decode cX7_digest 129 = .ok (.invokevirtual 205, 3) := by decide +kernel
theorem dX7_digest_132 : decode cX7_digest 132 = .ok (.istore_n 1, 1) := by decide +kernel
theorem dX7_digest_133 : decode cX7_digest 133 = .ok (.aload_n 0, 1) := by decide +kernel
theorem dX7_digest_134 : decode cX7_digest 134 = .ok (.iload_n 1, 1) := by decide +kernel
theorem dX7_digest_135 : decode cX7_digest 135 = .ok (.ifCond .eq 7, 3) := by decide +kernel
theorem dX7_digest_138 : decode cX7_digest 138 = .ok (.lconst 1, 1) := by decide +kernel
theorem dX7_digest_139 : decode cX7_digest 139 = .ok (.goto 4, 3) := by decide +kernel
theorem dX7_digest_142 : decode cX7_digest 142 = .ok (.lconst 0, 1) := by decide +kernel
theorem dX7_digest_143 : decode cX7_digest 143 = .ok (.invokevirtual 236, 3) := by decide +kernel
theorem dX7_digest_146 : decode cX7_digest 146 = .ok (.aload_n 0, 1) := by decide +kernel
theorem dX7_digest_147 : decode cX7_digest 147 = .ok (.iload_n 1, 1) := by decide +kernel
theorem dX7_digest_148 : decode cX7_digest 148 = .ok (.invokevirtual 242, 3) := by decide +kernel
theorem dX7_digest_151 : decode cX7_digest 151 = .ok (.aload_n 0, 1) := by decide +kernel
theorem dX7_digest_152 : decode cX7_digest 152 = .ok (.aload_n 0, 1) := by decide +kernel
theorem dX7_digest_153 : decode cX7_digest 153 = .ok (.getfield 110, 3) := by decide +kernel
theorem dX7_digest_156 : decode cX7_digest 156 = .ok (.i2l, 1) := by decide +kernel
theorem dX7_digest_157 : decode cX7_digest 157 = .ok (.invokevirtual 236, 3) := by decide +kernel
theorem dX7_digest_160 : decode cX7_digest 160 = .ok (.iconst 0, 1) := by decide +kernel
theorem dX7_digest_161 : decode cX7_digest 161 = .ok (.istore_n 2, 1) := by decide +kernel
theorem dX7_digest_162 : decode cX7_digest 162 = .ok (.iload_n 2, 1) := by decide +kernel
theorem dX7_digest_163 : decode cX7_digest 163 = .ok (.aload_n 0, 1) := by decide +kernel
theorem dX7_digest_164 : decode cX7_digest 164 = .ok (.getfield 110, 3) := by decide +kernel
theorem dX7_digest_167 : decode cX7_digest 167 = .ok (.if_icmp .ge 20, 3) := by decide +kernel
theorem dX7_digest_170 : decode cX7_digest 170 = .ok (.aload_n 0, 1) := by decide +kernel
theorem dX7_digest_171 : decode cX7_digest 171 = .ok (.aload_n 0, 1) := by decide +kernel
theorem dX7_digest_172 : decode cX7_digest 172 = .ok (.getfield 29, 3) := by decide +kernel
theorem dX7_digest_175 : decode cX7_digest 175 = .ok (.iload_n 2, 1) := by decide +kernel
theorem dX7_digest_176 : decode cX7_digest 176 = .ok (.iaload, 1) := by decide +kernel
theorem dX7_digest_177 : decode cX7_digest 177 = .ok (.i2l, 1) := by decide +kernel
theorem dX7_digest_178 : decode cX7_digest 178 = .ok (.invokevirtual 236, 3) := by decide +kernel
theorem dX7_digest_181 : decode cX7_digest 181 = .ok (.iinc 2 1, 3) := by decide +kernel
theorem dX7_digest_184 : decode cX7_digest 184 = .ok (.goto (-22), 3) := by decide +kernel
theorem dX7_digest_187 : decode cX7_digest 187 = .ok (.aload_n 0, 1) := by decide +kernel
theorem dX7_digest_188 : decode cX7_digest 188 = .ok (.getfield 232, 3) := by decide +kernel
theorem dX7_digest_191 : decode cX7_digest 191 = .ok (.lreturn, 1) := by decide +kernel
theorem dJ9_floorDiv_7cf53_0 : decode cJ9_floorDiv_7cf53 0 = .ok (.iload_n 0, 1) := by decide +kernel
theorem dJ9_floorDiv_7cf53_1 : decode cJ9_floorDiv_7cf53 1 = .ok (.iload_n 1, 1) := by decide +kernel
theorem dJ9_floorDiv_7cf53_2 : decode cJ9_floorDiv_7cf53 2 = .ok (.idiv, 1) := by decide +kernel
theorem dJ9_floorDiv_7cf53_3 : decode cJ9_floorDiv_7cf53 3 = .ok (.istore_n 2, 1) := by decide +kernel
theorem dJ9_floorDiv_7cf53_4 : decode cJ9_floorDiv_7cf53 4 = .ok (.iload_n 0, 1) := by decide +kernel
theorem dJ9_floorDiv_7cf53_5 : decode cJ9_floorDiv_7cf53 5 = .ok (.iload_n 1, 1) := by decide +kernel
theorem dJ9_floorDiv_7cf53_6 : decode cJ9_floorDiv_7cf53 6 = .ok (.ixor, 1) := by decide +kernel
theorem dJ9_floorDiv_7cf53_7 : decode cJ9_floorDiv_7cf53 7 = .ok (.ifCond .ge 14, 3) := by decide +kernel
theorem dJ9_floorDiv_7cf53_10 : decode cJ9_floorDiv_7cf53 10 = .ok (.iload_n 2, 1) := by decide +kernel
theorem dJ9_floorDiv_7cf53_11 : decode cJ9_floorDiv_7cf53 11 = .ok (.iload_n 1, 1) := by decide +kernel
theorem dJ9_floorDiv_7cf53_12 : decode cJ9_floorDiv_7cf53 12 = .ok (.imul, 1) := by decide +kernel
theorem dJ9_floorDiv_7cf53_13 : decode cJ9_floorDiv_7cf53 13 = .ok (.iload_n 0, 1) := by decide +kernel
theorem dJ9_floorDiv_7cf53_14 : decode cJ9_floorDiv_7cf53 14 = .ok (.if_icmp .eq 7, 3) := by decide +kernel
theorem dJ9_floorDiv_7cf53_17 : decode cJ9_floorDiv_7cf53 17 = .ok (.iload_n 2, 1) := by decide +kernel
theorem dJ9_floorDiv_7cf53_18 : decode cJ9_floorDiv_7cf53 18 = .ok (.iconst 1, 1) := by decide +kernel
theorem dJ9_floorDiv_7cf53_19 : decode cJ9_floorDiv_7cf53 19 = .ok (.isub, 1) := by decide +kernel
theorem dJ9_floorDiv_7cf53_20 : decode cJ9_floorDiv_7cf53 20 = .ok (.ireturn, 1) := by decide +kernel
theorem dJ9_floorDiv_7cf53_21 : decode cJ9_floorDiv_7cf53 21 = .ok (.iload_n 2, 1) := by decide +kernel
theorem dJ9_floorDiv_7cf53_22 : decode cJ9_floorDiv_7cf53 22 = .ok (.ireturn, 1) := by decide +kernel
theorem dJ9_abs_0f7a4_0 : decode cJ9_abs_0f7a4 0 = .ok (.iload_n 0, 1) := by decide +kernel
theorem dJ9_abs_0f7a4_1 : decode cJ9_abs_0f7a4 1 = .ok (.ifCond .ge 8, 3) := by decide +kernel
theorem dJ9_abs_0f7a4_4 : decode cJ9_abs_0f7a4 4 = .ok (.iload_n 0, 1) := by decide +kernel
theorem dJ9_abs_0f7a4_5 : decode cJ9_abs_0f7a4 5 = .ok (.ineg, 1) := by decide +kernel
theorem dJ9_abs_0f7a4_6 : decode cJ9_abs_0f7a4 6 = .ok (.goto 4, 3) := by decide +kernel
theorem dJ9_abs_0f7a4_9 : decode cJ9_abs_0f7a4 9 = .ok (.iload_n 0, 1) := by decide +kernel
theorem dJ9_abs_0f7a4_10 : decode cJ9_abs_0f7a4 10 = .ok (.ireturn, 1) := by decide +kernel
theorem dJ9_max_7cf53_0 : decode cJ9_max_7cf53 0 = .ok (.iload_n 0, 1) := by decide +kernel
theorem dJ9_max_7cf53_1 : decode cJ9_max_7cf53 1 = .ok (.iload_n 1, 1) := by decide +kernel
theorem dJ9_max_7cf53_2 : decode cJ9_max_7cf53 2 = .ok (.if_icmp .lt 7, 3) := by decide +kernel
theorem dJ9_max_7cf53_5 : decode cJ9_max_7cf53 5 = .ok (.iload_n 0, 1) := by decide +kernel
theorem dJ9_max_7cf53_6 : decode cJ9_max_7cf53 6 = .ok (.goto 4, 3) := by decide +kernel
theorem dJ9_max_7cf53_9 : decode cJ9_max_7cf53 9 = .ok (.iload_n 1, 1) := by decide +kernel
theorem dJ9_max_7cf53_10 : decode cJ9_max_7cf53 10 = .ok (.ireturn, 1) := by decide +kernel
theorem dJ9_min_7cf53_0 : decode cJ9_min_7cf53 0 = .ok (.iload_n 0, 1) := by decide +kernel
theorem dJ9_min_7cf53_1 : decode cJ9_min_7cf53 1 = .ok (.iload_n 1, 1) := by decide +kernel
theorem dJ9_min_7cf53_2 : decode cJ9_min_7cf53 2 = .ok (.if_icmp .gt 7, 3) := by decide +kernel
theorem dJ9_min_7cf53_5 : decode cJ9_min_7cf53 5 = .ok (.iload_n 0, 1) := by decide +kernel
theorem dJ9_min_7cf53_6 : decode cJ9_min_7cf53 6 = .ok (.goto 4, 3) := by decide +kernel
theorem dJ9_min_7cf53_9 : decode cJ9_min_7cf53 9 = .ok (.iload_n 1, 1) := by decide +kernel
theorem dJ9_min_7cf53_10 : decode cJ9_min_7cf53 10 = .ok (.ireturn, 1) := by decide +kernel
theorem dJ7_fill_53178_0 : decode cJ7_fill_53178 0 = .ok (.iconst 0, 1) := by decide +kernel
theorem dJ7_fill_53178_1 : decode cJ7_fill_53178 1 = .ok (.istore_n 2, 1) := by decide +kernel
theorem dJ7_fill_53178_2 : decode cJ7_fill_53178 2 = .ok (.aload_n 0, 1) := by decide +kernel
theorem dJ7_fill_53178_3 : decode cJ7_fill_53178 3 = .ok (.arraylength, 1) := by decide +kernel
theorem dJ7_fill_53178_4 : decode cJ7_fill_53178 4 = .ok (.istore_n 3, 1) := by decide +kernel
theorem dJ7_fill_53178_5 : decode cJ7_fill_53178 5 = .ok (.iload_n 2, 1) := by decide +kernel
theorem dJ7_fill_53178_6 : decode cJ7_fill_53178 6 = .ok (.iload_n 3, 1) := by decide +kernel
theorem dJ7_fill_53178_7 : decode cJ7_fill_53178 7 = .ok (.if_icmp .ge 13, 3) := by decide +kernel
theorem dJ7_fill_53178_10 : decode cJ7_fill_53178 10 = .ok (.aload_n 0, 1) := by decide +kernel
theorem dJ7_fill_53178_11 : decode cJ7_fill_53178 11 = .ok (.iload_n 2, 1) := by decide +kernel
theorem dJ7_fill_53178_12 : decode cJ7_fill_53178 12 = .ok (.iload_n 1, 1) := by decide +kernel
theorem dJ7_fill_53178_13 : decode cJ7_fill_53178 13 = .ok (.iastore, 1) := by decide +kernel
theorem dJ7_fill_53178_14 : decode cJ7_fill_53178 14 = .ok (.iinc 2 1, 3) := by decide +kernel
theorem dJ7_fill_53178_17 : decode cJ7_fill_53178 17 = .ok (.goto (-12), 3) := by decide +kernel
theorem dJ7_fill_53178_20 : decode cJ7_fill_53178 20 = .ok (.return_, 1) := by decide +kernel
set_option maxRecDepth 20000 in
theorem ggL_setFaces_X6_setFaces : GoodIn wsL_setFaces wsX6_setFaces := goodIn_ca (goodIn_r _ [6, 7, 8, 9, 10, 11, 12, 13, 14, 15, 16, 17, 18, 19, 20, 21, 22, 23, 24, 25, 26, 27, 28, 29, 30, 31, 32, 33, 34, 35, 36, 37, 38, 39, 40, 41, 42, 43, 44, 45, 46, 47, 48, 49, 50, 51, 52, 53, 54, 55, 56] (by decide +kernel) (by decide +kernel)) (goodIn_sub (fun _ h => List.mem_cons_of_mem _ (List.mem_append_right _ h)) (by decide +kernel))
set_option maxRecDepth 20000 in
theorem gL_setFaces_X6_setFaces : GoodIn wsL_setFaces (wsV RL 7 RX6 yX6_setFaces wsX6_setFaces) := goodIn_app (goodIn_of _ (by decide +kernel)) ggL_setFaces_X6_setFaces
theorem dL_setFaces_0 : decode cL_setFaces 0 = .ok (.aload_n 2, 1) := by decide +kernel
theorem dL_setFaces_1 : decode cL_setFaces 1 = .ok (.iconst 0, 1) := by decide +kernel
theorem dL_setFaces_2 : decode cL_setFaces 2 = .ok (.aload_n 0, 1) := by decide +kernel
theorem dL_setFaces_3 : decode cL_setFaces 3 = .ok (.iload_n 1, 1) := by decide +kernel
theorem dL_setFaces_4 : decode cL_setFaces 4 = .ok (.invokevirtual 7, 3) := by decide +kernel
theorem dL_setFaces_7 : decode cL_setFaces 7 = .ok (.i2l, 1) := by decide +kernel
theorem dL_setFaces_8 : decode cL_setFaces 8 = .ok (.lastore, 1) := by decide +kernel
theorem dL_setFaces_9 : decode cL_setFaces 9 = .ok (.goto 6, 3) := by decide +kernel
theorem dL_setFaces_12 : decode cL_setFaces 12 = .ok (.astore_n 3, 1) := by decide +kernel
theorem dL_setFaces_13 : decode cL_setFaces 13 = .ok (.iconst 1, 1) := by decide +kernel
theorem dL_setFaces_14 : decode cL_setFaces 14 = .ok (.ireturn, 1) := by decide +kernel
theorem dL_setFaces_15 : decode cL_setFaces 15 = .ok (.iconst 0, 1) := by decide +kernel
theorem dL_setFaces_16 : decode cL_setFaces 16 = .ok (.ireturn, 1) := by decide +kernel
set_option maxRecDepth 20000 in
theorem ggL_addDimension_X6_addDimension : GoodIn wsL_addDimension wsX6_addDimension := goodIn_ca (goodIn_ca (goodIn_ca (goodIn_r _ [8, 9, 10, 11, 12, 13, 14, 15, 16, 17, 18, 7, 19, 20, 21, 22, 23, 24, 25, 26, 27, 28, 29, 30, 31, 32, 33, 34, 35, 36, 37, 38, 39, 40, 41, 42, 43, 44, 45, 46, 47, 48, 49, 50, 51, 52, 53, 54, 55, 56, 57, 58, 59, 60, 61, 62, 63, 64, 65, 66, 67, 68, 69, 70, 71, 72, 73, 74, 75, 76, 77, 78, 79, 80, 81, 82, 83, 84, 85] (by decide +kernel) (by decide +kernel)) (goodIn_sub (fun _ h => List.mem_cons_of_mem _ (List.mem_append_left _ (List.mem_append_left _ (List.mem_append_right _ h)))) (by decide +kernel))) (goodIn_sub (fun _ h => List.mem_cons_of_mem _ (List.mem_append_left _ (List.mem_append_right _ h))) (by decide +kernel))) (goodIn_sub (fun _ h => List.mem_cons_of_mem _ (List.mem_append_right _ h)) (by decide +kernel))
set_option maxRecDepth 20000 in
theorem gL_addDimension_X6_addDimension : GoodIn wsL_addDimension (wsV RL 15 RX6 yX6_addDimension wsX6_addDimension) := goodIn_app (goodIn_of _ (by decide +kernel)) ggL_addDimension_X6_addDimension
theorem dL_addDimension_0 : decode cL_addDimension 0 = .ok (.aload 6, 2) := by decide +kernel
theorem dL_addDimension_2 : decode cL_addDimension 2 = .ok (.iconst 0, 1) := by decide +kernel
theorem dL_addDimension_3 : decode cL_addDimension 3 = .ok (.aload_n 0, 1) := by decide +kernel
theorem dL_addDimension_4 : decode cL_addDimension 4 = .ok (.iload_n 1, 1) := by decide +kernel
theorem dL_addDimension_5 : decode cL_addDimension 5 = .ok (.iload_n 2, 1) := by decide +kernel
theorem dL_addDimension_6 : decode cL_addDimension 6 = .ok (.iload_n 3, 1) := by decide +kernel
theorem dL_addDimension_7 : decode cL_addDimension 7 = .ok (.iload 4, 2) := by decide +kernel
theorem dL_addDimension_9 : decode cL_addDimension 9 = .ok (.iload 5, 2) := by decide +kernel
theorem dL_addDimension_11 : decode cL_addDimension 11 = .ok (.invokevirtual 15, 3) := by decide +kernel
theorem dL_addDimension_14 : decode cL_addDimension 14 = .ok (.i2l, 1) := by decide +kernel
theorem dL_addDimension_15 : decode cL_addDimension 15 = .ok (.lastore, 1) := by decide +kernel
theorem dL_addDimension_16 : decode cL_addDimension 16 = .ok (.goto 15, 3) := by decide +kernel
theorem dL_addDimension_19 : decode cL_addDimension 19 = .ok (.astore 7, 2) := by decide +kernel
theorem dL_addDimension_21 : decode cL_addDimension 21 = .ok (.iconst 1, 1) := by decide +kernel
theorem dL_addDimension_22 : decode cL_addDimension 22 = .ok (.ireturn, 1) := by decide +kernel
theorem dL_addDimension_23 : decode cL_addDimension 23 = .ok (.astore 7, 2) := by decide +kernel
theorem dL_addDimension_25 : decode cL_addDimension 25 = .ok (.iconst 2, 1) := by decide +kernel
theorem dL_addDimension_26 : decode cL_addDimension 26 = .ok (.ireturn, 1) := by decide +kernel
theorem dL_addDimension_27 : decode cL_addDimension 27 = .ok (.astore 7, 2) := by decide +kernel
theorem dL_addDimension_29 : decode cL_addDimension 29 = .ok (.iconst 3, 1) := by decide +kernel
theorem dL_addDimension_30 : decode cL_addDimension 30 = .ok (.ireturn, 1) := by decide +kernel
theorem dL_addDimension_31 : decode cL_addDimension 31 = .ok (.iconst 0, 1) := by decide +kernel
theorem dL_addDimension_32 : decode cL_addDimension 32 = .ok (.ireturn, 1) := by decide +kernel
set_option maxRecDepth 20000 in
theorem ggL_removeDimension_X6_removeDimension : GoodIn wsL_removeDimension wsX6_removeDimension := goodIn_ca (goodIn_r _ [6, 7, 8, 9, 10, 11, 12, 5, 13, 14, 15, 16, 17, 18, 19, 20, 21, 22, 23, 24, 25, 26, 27, 28, 29, 30, 31, 32, 33, 34, 35, 36, 37, 38, 39, 40, 41, 42, 43, 44, 45, 46, 47, 48, 49, 50, 51, 52, 53, 54, 55, 56, 57, 58, 59, 60, 61, 62, 63, 64, 65, 66, 67, 68, 69, 70, 71, 72, 73, 74, 75] (by decide +kernel) (by decide +kernel)) (goodIn_sub (fun _ h => List.mem_cons_of_mem _ (List.mem_append_right _ h)) (by decide +kernel))
set_option maxRecDepth 20000 in
theorem gL_removeDimension_X6_removeDimension : GoodIn wsL_removeDimension (wsV RL 23 RX6 yX6_removeDimension wsX6_removeDimension) := goodIn_app (goodIn_of _ (by decide +kernel)) ggL_removeDimension_X6_removeDimension
theorem dL_removeDimension_0 : decode cL_removeDimension 0 = .ok (.aload_n 2, 1) := by decide +kernel
theorem dL_removeDimension_1 : decode cL_removeDimension 1 = .ok (.iconst 0, 1) := by decide +kernel
theorem dL_removeDimension_2 : decode cL_removeDimension 2 = .ok (.aload_n 0, 1) := by decide +kernel
theorem dL_removeDimension_3 : decode cL_removeDimension 3 = .ok (.iload_n 1, 1) := by decide +kernel
theorem dL_removeDimension_4 : decode cL_removeDimension 4 = .ok (.invokevirtual 23, 3) := by decide +kernel
theorem dL_removeDimension_7 : decode cL_removeDimension 7 = .ok (.i2l, 1) := by decide +kernel
theorem dL_removeDimension_8 : decode cL_removeDimension 8 = .ok (.lastore, 1) := by decide +kernel
theorem dL_removeDimension_9 : decode cL_removeDimension 9 = .ok (.goto 6, 3) := by decide +kernel
theorem dL_removeDimension_12 : decode cL_removeDimension 12 = .ok (.astore_n 3, 1) := by decide +kernel
theorem dL_removeDimension_13 : decode cL_removeDimension 13 = .ok (.iconst 1, 1) := by decide +kernel
theorem dL_removeDimension_14 : decode cL_removeDimension 14 = .ok (.ireturn, 1) := by decide +kernel
theorem dL_removeDimension_15 : decode cL_removeDimension 15 = .ok (.iconst 0, 1) := by decide +kernel
theorem dL_removeDimension_16 : decode cL_removeDimension 16 = .ok (.ireturn, 1) := by decide +kernel
set_option maxRecDepth 20000 in
theorem ggL_setDeviations_X6_setDeviations : GoodIn wsL_setDeviations wsX6_setDeviations := goodIn_ca (goodIn_ca (goodIn_r _ [7, 8, 9, 10, 11, 12, 13, 14, 15, 6, 16, 17, 18, 19, 20, 21, 22, 23, 24, 25, 26, 27, 28, 29, 30, 31, 32, 33, 34, 35, 36, 37, 38, 39, 40, 41, 42, 43] (by decide +kernel) (by decide +kernel)) (goodIn_sub (fun _ h => List.mem_cons_of_mem _ (List.mem_append_left _ (List.mem_append_right _ h))) (by decide +kernel))) (goodIn_sub (fun _ h => List.mem_cons_of_mem _ (List.mem_append_right _ h)) (by decide +kernel))
set_option maxRecDepth 20000 in
theorem gL_setDeviations_X6_setDeviations : GoodIn wsL_setDeviations (wsV RL 26 RX6 yX6_setDeviations wsX6_setDeviations) := goodIn_app (goodIn_of _ (by decide +kernel)) ggL_setDeviations_X6_setDeviations
theorem dL_setDeviations_0 : decode cL_setDeviations 0 = .ok (.aload 4, 2) := by decide +kernel
theorem dL_setDeviations_2 : decode cL_setDeviations 2 = .ok (.iconst 0, 1) := by decide +kernel
theorem dL_setDeviations_3 : decode cL_setDeviations 3 = .ok (.aload_n 0, 1) := by decide +kernel
theorem dL_setDeviations_4 : decode cL_setDeviations 4 = .ok (.iload_n 1, 1) := by decide +kernel
theorem dL_setDeviations_5 : decode cL_setDeviations 5 = .ok (.iload_n 2, 1) := by decide +kernel
theorem dL_setDeviations_6 : decode cL_setDeviations 6 = .ok (.iload_n 3, 1) := by decide +kernel
theorem dL_setDeviations_7 : decode cL_setDeviations 7 = .ok (.invokevirtual 26, 3) := by decide +kernel
theorem dL_setDeviations_10 : decode cL_setDeviations 10 = .ok (.i2l, 1) := by decide +kernel
theorem dL_setDeviations_11 : decode cL_setDeviations 11 = .ok (.lastore, 1) := by decide +kernel
theorem dL_setDeviations_12 : decode cL_setDeviations 12 = .ok (.goto 11, 3) := by decide +kernel
theorem dL_setDeviations_15 : decode cL_setDeviations 15 = .ok (.astore 5, 2) := by decide +kernel
theorem dL_setDeviations_17 : decode cL_setDeviations 17 = .ok (.iconst 1, 1) := by decide +kernel
theorem dL_setDeviations_18 : decode cL_setDeviations 18 = .ok (.ireturn, 1) := by decide +kernel
theorem dL_setDeviations_19 : decode cL_setDeviations 19 = .ok (.astore 5, 2) := by decide +kernel
theorem dL_setDeviations_21 : decode cL_setDeviations 21 = .ok (.iconst 2, 1) := by decide +kernel
theorem dL_setDeviations_22 : decode cL_setDeviations 22 = .ok (.ireturn, 1) := by decide +kernel
theorem dL_setDeviations_23 : decode cL_setDeviations 23 = .ok (.iconst 0, 1) := by decide +kernel
theorem dL_setDeviations_24 : decode cL_setDeviations 24 = .ok (.ireturn, 1) := by decide +kernel
set_option maxRecDepth 20000 in
theorem ggL_general_X6_general : GoodIn wsL_general wsX6_general := goodIn_ca (goodIn_r _ [6, 7, 8, 9, 10, 11, 12, 13, 14, 15, 5, 16, 17, 18, 19, 20, 21, 22, 23, 24, 25, 26, 27, 28, 29, 30, 31, 32, 33, 34, 35, 36, 37, 38, 39, 40, 41, 42, 43] (by decide +kernel) (by decide +kernel)) (goodIn_sub (fun _ h => List.mem_cons_of_mem _ (List.mem_append_right _ h)) (by decide +kernel))
set_option maxRecDepth 20000 in
theorem gL_general_X6_general : GoodIn wsL_general (wsV RL 30 RX6 yX6_general wsX6_general) := goodIn_app (goodIn_of _ (by decide +kernel)) ggL_general_X6_general
theorem dL_general_0 : decode cL_general 0 = .ok (.aload_n 2, 1) := by decide +kernel
theorem dL_general_1 : decode cL_general 1 = .ok (.iconst 0, 1) := by decide +kernel
theorem dL_general_2 : decode cL_general 2 = .ok (.aload_n 0, 1) := by decide +kernel
theorem dL_general_3 : decode cL_general 3 = .ok (.iload_n 1, 1) := by decide +kernel
theorem dL_general_4 : decode cL_general 4 = .ok (.invokevirtual 30, 3) := by decide +kernel
theorem dL_general_7 : decode cL_general 7 = .ok (.i2l, 1) := by decide +kernel
theorem dL_general_8 : decode cL_general 8 = .ok (.lastore, 1) := by decide +kernel
theorem dL_general_9 : decode cL_general 9 = .ok (.goto 6, 3) := by decide +kernel
theorem dL_general_12 : decode cL_general 12 = .ok (.astore_n 3, 1) := by decide +kernel
theorem dL_general_13 : decode cL_general 13 = .ok (.iconst 1, 1) := by decide +kernel
theorem dL_general_14 : decode cL_general 14 = .ok (.ireturn, 1) := by decide +kernel
theorem dL_general_15 : decode cL_general 15 = .ok (.iconst 0, 1) := by decide +kernel
theorem dL_general_16 : decode cL_general 16 = .ok (.ireturn, 1) := by decide +kernel
set_option maxRecDepth 20000 in
theorem ggL_property_X6_property : GoodIn wsL_property wsX6_property := goodIn_ca (goodIn_ca (goodIn_r _ [7, 8, 9, 10, 11, 12, 13, 14, 15, 16, 17, 18, 6, 19, 20, 21, 22, 23, 24, 25, 26, 27, 28, 29, 30, 31, 32, 33, 34, 35, 36] (by decide +kernel) (by decide +kernel)) (goodIn_sub (fun _ h => List.mem_cons_of_mem _ (List.mem_append_left _ (List.mem_append_right _ h))) (by decide +kernel))) (goodIn_sub (fun _ h => List.mem_cons_of_mem _ (List.mem_append_right _ h)) (by decide +kernel))
set_option maxRecDepth 20000 in
theorem gL_property_X6_property : GoodIn wsL_property (wsV RL 34 RX6 yX6_property wsX6_property) := goodIn_app (goodIn_of _ (by decide +kernel)) ggL_property_X6_property
theorem dL_property_0 : decode cL_property 0 = .ok (.aload_n 3, 1) := by decide +kernel
theorem dL_property_1 : decode cL_property 1 = .ok (.iconst 0, 1) := by decide +kernel
theorem dL_property_2 : decode cL_property 2 = .ok (.aload_n 0, 1) := by decide +kernel
theorem dL_property_3 : decode cL_property 3 = .ok (.iload_n 1, 1) := by decide +kernel
theorem dL_property_4 : decode cL_property 4 = .ok (.iload_n 2, 1) := by decide +kernel
theorem dL_property_5 : decode cL_property 5 = .ok (.invokevirtual 34, 3) := by decide +kernel
theorem dL_property_8 : decode cL_property 8 = .ok (.i2l, 1) := by decide +kernel
theorem dL_property_9 : decode cL_property 9 = .ok (.lastore, 1) := by decide +kernel
theorem dL_property_10 : decode cL_property 10 = .ok (.goto 11, 3) := by decide +kernel
theorem dL_property_13 : decode cL_property 13 = .ok (.astore 4, 2) := by decide +kernel
theorem dL_property_15 : decode cL_property 15 = .ok (.iconst 1, 1) := by decide +kernel
theorem dL_property_16 : decode cL_property 16 = .ok (.ireturn, 1) := by decide +kernel
theorem dL_property_17 : decode cL_property 17 = .ok (.astore 4, 2) := by decide +kernel
theorem dL_property_19 : decode cL_property 19 = .ok (.iconst 2, 1) := by decide +kernel
theorem dL_property_20 : decode cL_property 20 = .ok (.ireturn, 1) := by decide +kernel
theorem dL_property_21 : decode cL_property 21 = .ok (.iconst 0, 1) := by decide +kernel
theorem dL_property_22 : decode cL_property 22 = .ok (.ireturn, 1) := by decide +kernel
set_option maxRecDepth 20000 in
theorem ggL_append_X6_append : GoodIn wsL_append wsX6_append := goodIn_ca (goodIn_ca (goodIn_r _ [7, 8, 9, 10, 11, 12, 13, 14, 15, 16, 17, 18, 19, 20, 21] (by decide +kernel) (by decide +kernel)) (goodIn_sub (fun _ h => List.mem_cons_of_mem _ (List.mem_append_left _ (List.mem_append_right _ h))) (by decide +kernel))) (goodIn_sub (fun _ h => List.mem_cons_of_mem _ (List.mem_append_right _ h)) (by decide +kernel))
set_option maxRecDepth 20000 in
theorem gL_append_X6_append : GoodIn wsL_append (wsV RL 38 RX6 yX6_append wsX6_append) := goodIn_app (goodIn_of _ (by decide +kernel)) ggL_append_X6_append
theorem dL_append_0 : decode cL_append 0 = .ok (.aload_n 2, 1) := by decide +kernel
theorem dL_append_1 : decode cL_append 1 = .ok (.iconst 0, 1) := by decide +kernel
theorem dL_append_2 : decode cL_append 2 = .ok (.aload_n 0, 1) := by decide +kernel
theorem dL_append_3 : decode cL_append 3 = .ok (.iload_n 1, 1) := by decide +kernel
theorem dL_append_4 : decode cL_append 4 = .ok (.invokevirtual 38, 3) := by decide +kernel
theorem dL_append_7 : decode cL_append 7 = .ok (.i2l, 1) := by decide +kernel
theorem dL_append_8 : decode cL_append 8 = .ok (.lastore, 1) := by decide +kernel
theorem dL_append_9 : decode cL_append 9 = .ok (.goto 9, 3) := by decide +kernel
theorem dL_append_12 : decode cL_append 12 = .ok (.astore_n 3, 1) := by decide +kernel
theorem dL_append_13 : decode cL_append 13 = .ok (.iconst 1, 1) := by decide +kernel
theorem dL_append_14 : decode cL_append 14 = .ok (.ireturn, 1) := by decide +kernel
theorem dL_append_15 : decode cL_append 15 = .ok (.astore_n 3, 1) := by decide +kernel
theorem dL_append_16 : decode cL_append 16 = .ok (.iconst 2, 1) := by decide +kernel
theorem dL_append_17 : decode cL_append 17 = .ok (.ireturn, 1) := by decide +kernel
theorem dL_append_18 : decode cL_append 18 = .ok (.iconst 0, 1) := by decide +kernel
theorem dL_append_19 : decode cL_append 19 = .ok (.ireturn, 1) := by decide +kernel
set_option maxRecDepth 20000 in
theorem ggL_load_X6_load : GoodIn wsL_load wsX6_load := goodIn_ca (goodIn_r _ [6, 7, 8, 9, 10, 11, 12, 13, 14, 15, 16, 17, 18, 19, 20, 21, 22, 23, 24, 25, 26, 27, 28, 29, 30, 31, 32, 33, 34, 35, 36, 37, 38, 39, 40, 41, 42, 43, 44, 45, 46, 47, 48, 49, 50, 51, 52, 53, 54, 55, 56, 57, 58, 59, 60, 61, 62, 63, 64, 65, 66, 67, 68, 69, 70, 71, 72, 73, 74, 75, 76, 77, 78, 79, 80, 81, 82, 83, 84, 85, 86, 87, 88, 89, 90, 91, 92, 93, 94, 95, 96, 97, 98, 99, 100, 101, 102, 103, 104, 105, 106, 107, 108, 109, 110, 111, 112, 113, 114, 115, 116, 117, 118, 119, 120, 121, 122, 123, 124, 125, 126, 127, 128, 129, 130, 131, 132, 133, 134, 135, 136, 137, 138, 139, 140, 141, 142, 143, 144, 145, 146, 147, 148, 149, 150, 151, 152, 153, 154, 155, 156, 157, 158, 159, 160, 161, 162] (by decide +kernel) (by decide +kernel)) (goodIn_sub (fun _ h => List.mem_cons_of_mem _ (List.mem_append_right _ h)) (by decide +kernel))
set_option maxRecDepth 20000 in
theorem gL_load_X6_load : GoodIn wsL_load (wsV RL 41 RX6 yX6_load wsX6_load) := goodIn_app (goodIn_of _ (by decide +kernel)) ggL_load_X6_load
theorem dL_load_0 : decode cL_load 0 = .ok (.aload_n 1, 1) := by decide +kernel
theorem dL_load_1 : decode cL_load 1 = .ok (.iconst 0, 1) := by decide +kernel
theorem dL_load_2 : decode cL_load 2 = .ok (.aload_n 0, 1) := by decide +kernel
theorem dL_load_3 : decode cL_load 3 = .ok (.invokevirtual 41, 3) := by decide +kernel
theorem dL_load_6 : decode cL_load 6 = .ok (.i2l, 1) := by decide +kernel
theorem dL_load_7 : decode cL_load 7 = .ok (.lastore, 1) := by decide +kernel
theorem dL_load_8 : decode cL_load 8 = .ok (.goto 6, 3) := by decide +kernel
theorem dL_load_11 : decode cL_load 11 = .ok (.astore_n 2, 1) := by decide +kernel
theorem dL_load_12 : decode cL_load 12 = .ok (.iconst 1, 1) := by decide +kernel
theorem dL_load_13 : decode cL_load 13 = .ok (.ireturn, 1) := by decide +kernel
theorem dL_load_14 : decode cL_load 14 = .ok (.iconst 0, 1) := by decide +kernel
theorem dL_load_15 : decode cL_load 15 = .ok (.ireturn, 1) := by decide +kernel
set_option maxRecDepth 20000 in
theorem ggL_isDoubled_X6_isDoubled : GoodIn wsL_isDoubled wsX6_isDoubled := goodIn_ca (goodIn_r _ [6, 7, 8, 9, 10, 11, 5, 12, 13, 14, 15, 16, 17, 18, 19, 20, 21, 22, 23, 24, 25, 26, 27, 28, 29, 30, 31, 32, 33, 34] (by decide +kernel) (by decide +kernel)) (goodIn_sub (fun _ h => List.mem_cons_of_mem _ (List.mem_append_right _ h)) (by decide +kernel))
set_option maxRecDepth 20000 in
theorem gL_isDoubled_X6_isDoubled : GoodIn wsL_isDoubled (wsV RL 45 RX6 yX6_isDoubled wsX6_isDoubled) := goodIn_app (goodIn_of _ (by decide +kernel)) ggL_isDoubled_X6_isDoubled
theorem dL_isDoubled_0 : decode cL_isDoubled 0 = .ok (.aload_n 2, 1) := by decide +kernel
theorem dL_isDoubled_1 : decode cL_isDoubled 1 = .ok (.iconst 0, 1) := by decide +kernel
theorem dL_isDoubled_2 : decode cL_isDoubled 2 = .ok (.aload_n 0, 1) := by decide +kernel
theorem dL_isDoubled_3 : decode cL_isDoubled 3 = .ok (.iload_n 1, 1) := by decide +kernel
theorem dL_isDoubled_4 : decode cL_isDoubled 4 = .ok (.invokevirtual 45, 3) := by decide +kernel
theorem dL_isDoubled_7 : decode cL_isDoubled 7 = .ok (.ifCond .eq 7, 3) := by decide +kernel
theorem dL_isDoubled_10 : decode cL_isDoubled 10 = .ok (.lconst 1, 1) := by decide +kernel
theorem dL_isDoubled_11 : decode cL_isDoubled 11 = .ok (.goto 4, 3) := by decide +kernel
theorem dL_isDoubled_14 : decode cL_isDoubled 14 = .ok (.lconst 0, 1) := by decide +kernel
theorem dL_isDoubled_15 : decode cL_isDoubled 15 = .ok (.lastore, 1) := by decide +kernel
theorem dL_isDoubled_16 : decode cL_isDoubled 16 = .ok (.goto 6, 3) := by decide +kernel
theorem dL_isDoubled_19 : decode cL_isDoubled 19 = .ok (.astore_n 3, 1) := by decide +kernel
theorem dL_isDoubled_20 : decode cL_isDoubled 20 = .ok (.iconst 1, 1) := by decide +kernel
theorem dL_isDoubled_21 : decode cL_isDoubled 21 = .ok (.ireturn, 1) := by decide +kernel
theorem dL_isDoubled_22 : decode cL_isDoubled 22 = .ok (.iconst 0, 1) := by decide +kernel
theorem dL_isDoubled_23 : decode cL_isDoubled 23 = .ok (.ireturn, 1) := by decide +kernel
set_option maxRecDepth 20000 in
theorem ggL_partOf_X6_partOf : GoodIn wsL_partOf wsX6_partOf := goodIn_ca (goodIn_r _ [6, 7, 8, 9, 10, 11, 5, 12, 13, 14, 15, 16, 17, 18, 19, 20, 21, 22, 23, 24, 25, 26, 27] (by decide +kernel) (by decide +kernel)) (goodIn_sub (fun _ h => List.mem_cons_of_mem _ (List.mem_append_right _ h)) (by decide +kernel))
set_option maxRecDepth 20000 in
theorem gL_partOf_X6_partOf : GoodIn wsL_partOf (wsV RL 49 RX6 yX6_partOf wsX6_partOf) := goodIn_app (goodIn_of _ (by decide +kernel)) ggL_partOf_X6_partOf
theorem dL_partOf_0 : decode cL_partOf 0 = .ok (.aload_n 2, 1) := by decide +kernel
theorem dL_partOf_1 : decode cL_partOf 1 = .ok (.iconst 0, 1) := by decide +kernel
theorem dL_partOf_2 : decode cL_partOf 2 = .ok (.aload_n 0, 1) := by decide +kernel
theorem dL_partOf_3 : decode cL_partOf 3 = .ok (.iload_n 1, 1) := by decide +kernel
theorem dL_partOf_4 : decode cL_partOf 4 = .ok (.invokevirtual 49, 3) := by decide +kernel
theorem dL_partOf_7 : decode cL_partOf 7 = .ok (.i2l, 1) := by decide +kernel
theorem dL_partOf_8 : decode cL_partOf 8 = .ok (.lastore, 1) := by decide +kernel
theorem dL_partOf_9 : decode cL_partOf 9 = .ok (.goto 6, 3) := by decide +kernel
theorem dL_partOf_12 : decode cL_partOf 12 = .ok (.astore_n 3, 1) := by decide +kernel
theorem dL_partOf_13 : decode cL_partOf 13 = .ok (.iconst 1, 1) := by decide +kernel
theorem dL_partOf_14 : decode cL_partOf 14 = .ok (.ireturn, 1) := by decide +kernel
theorem dL_partOf_15 : decode cL_partOf 15 = .ok (.iconst 0, 1) := by decide +kernel
theorem dL_partOf_16 : decode cL_partOf 16 = .ok (.ireturn, 1) := by decide +kernel
set_option maxRecDepth 20000 in
theorem ggL_chainLength_X6_chainLength : GoodIn wsL_chainLength wsX6_chainLength := goodIn_ca (goodIn_r _ [6, 7, 8, 9, 10, 11, 5, 12, 13, 14, 15, 16, 17, 18, 19, 20, 21, 22, 23, 24, 25, 26, 27, 28, 29, 30, 31, 32, 33, 34, 35, 36, 37, 38, 39, 40, 41, 42, 43, 44, 45, 46, 47, 48, 49, 50, 51, 52, 53, 54, 55, 56, 57, 58, 59, 60, 61, 62, 63, 64, 65, 66, 67, 68, 69, 70, 71, 72, 73, 74, 75, 76, 77, 78, 79, 80, 81, 82, 83, 84, 85, 86, 87, 88, 89, 90, 91, 92, 93] (by decide +kernel) (by decide +kernel)) (goodIn_sub (fun _ h => List.mem_cons_of_mem _ (List.mem_append_right _ h)) (by decide +kernel))
set_option maxRecDepth 20000 in
theorem gL_chainLength_X6_chainLength : GoodIn wsL_chainLength (wsV RL 52 RX6 yX6_chainLength wsX6_chainLength) := goodIn_app (goodIn_of _ (by decide +kernel)) ggL_chainLength_X6_chainLength
theorem dL_chainLength_0 : decode cL_chainLength 0 = .ok (.aload_n 3, 1) := by decide +kernel
theorem dL_chainLength_1 : decode cL_chainLength 1 = .ok (.iconst 0, 1) := by decide +kernel
theorem dL_chainLength_2 : decode cL_chainLength 2 = .ok (.aload_n 0, 1) := by decide +kernel
theorem dL_chainLength_3 : decode cL_chainLength 3 = .ok (.iload_n 1, 1) := by decide +kernel
theorem dL_chainLength_4 : decode cL_chainLength 4 = .ok (.iload_n 2, 1) := by decide +kernel
theorem dL_chainLength_5 : decode cL_chainLength 5 = .ok (.invokevirtual 52, 3) := by decide +kernel
theorem dL_chainLength_8 : decode cL_chainLength 8 = .ok (.i2l, 1) := by decide +kernel
theorem dL_chainLength_9 : decode cL_chainLength 9 = .ok (.lastore, 1) := by decide +kernel
theorem dL_chainLength_10 : decode cL_chainLength 10 = .ok (.goto 7, 3) := by decide +kernel
theorem dL_chainLength_13 : decode cL_chainLength 13 = .ok (.astore 4, 2) := by decide +kernel
theorem dL_chainLength_15 : decode cL_chainLength 15 = .ok (.iconst 1, 1) := by decide +kernel
theorem dL_chainLength_16 : decode cL_chainLength 16 = .ok (.ireturn, 1) := by decide +kernel
theorem dL_chainLength_17 : decode cL_chainLength 17 = .ok (.iconst 0, 1) := by decide +kernel
theorem dL_chainLength_18 : decode cL_chainLength 18 = .ok (.ireturn, 1) := by decide +kernel
set_option maxRecDepth 20000 in
theorem ggL_chainDimension_X6_chainDimension : GoodIn wsL_chainDimension wsX6_chainDimension := goodIn_ca (goodIn_r _ [6, 7, 8, 9, 10, 11, 12, 13, 14, 5, 15, 16, 17, 18, 19, 20, 21, 22, 23, 24, 25, 26, 27, 28, 29, 30, 31, 32, 33, 34, 35, 36, 37, 38, 39, 40, 41, 42, 43, 44, 45, 46, 47, 48, 49, 50, 51, 52, 53, 54, 55, 56, 57, 58, 59, 60, 61, 62, 63, 64, 65, 66, 67, 68, 69, 70, 71, 72, 73, 74, 75, 76, 77, 78, 79, 80, 81, 82, 83, 84, 85, 86, 87, 88, 89, 90, 91, 92, 93, 94] (by decide +kernel) (by decide +kernel)) (goodIn_sub (fun _ h => List.mem_cons_of_mem _ (List.mem_append_right _ h)) (by decide +kernel))
set_option maxRecDepth 20000 in
theorem gL_chainDimension_X6_chainDimension : GoodIn wsL_chainDimension (wsV RL 55 RX6 yX6_chainDimension wsX6_chainDimension) := goodIn_app (goodIn_of _ (by decide +kernel)) ggL_chainDimension_X6_chainDimension
theorem dL_chainDimension_0 : decode cL_chainDimension 0 = .ok (.aload 4, 2) := by decide +kernel
theorem dL_chainDimension_2 : decode cL_chainDimension 2 = .ok (.iconst 0, 1) := by decide +kernel
theorem dL_chainDimension_3 : decode cL_chainDimension 3 = .ok (.aload_n 0, 1) := by decide +kernel
theorem dL_chainDimension_4 : decode cL_chainDimension 4 = .ok (.iload_n 1, 1) := by decide +kernel
theorem dL_chainDimension_5 : decode cL_chainDimension 5 = .ok (.iload_n 2, 1) := by decide +kernel
theorem dL_chainDimension_6 : decode cL_chainDimension 6 = .ok (.iload_n 3, 1) := by decide +kernel
theorem dL_chainDimension_7 : decode cL_chainDimension 7 = .ok (.invokevirtual 55, 3) := by decide +kernel
theorem dL_chainDimension_10 : decode cL_chainDimension 10 = .ok (.i2l, 1) := by decide +kernel
theorem dL_chainDimension_11 : decode cL_chainDimension 11 = .ok (.lastore, 1) := by decide +kernel
theorem dL_chainDimension_12 : decode cL_chainDimension 12 = .ok (.goto 7, 3) := by decide +kernel
theorem dL_chainDimension_15 : decode cL_chainDimension 15 = .ok (.astore 5, 2) := by decide +kernel
theorem dL_chainDimension_17 : decode cL_chainDimension 17 = .ok (.iconst 1, 1) := by decide +kernel
theorem dL_chainDimension_18 : decode cL_chainDimension 18 = .ok (.ireturn, 1) := by decide +kernel
theorem dL_chainDimension_19 : decode cL_chainDimension 19 = .ok (.iconst 0, 1) := by decide +kernel
theorem dL_chainDimension_20 : decode cL_chainDimension 20 = .ok (.ireturn, 1) := by decide +kernel
set_option maxRecDepth 20000 in
theorem ggL_gap_X6_gap : GoodIn wsL_gap wsX6_gap := goodIn_ca (goodIn_ca (goodIn_ca (goodIn_r _ [8, 9, 10, 11, 12, 13, 14, 15, 16, 17, 7, 18, 19, 20, 21, 22, 23, 24, 25, 26, 27, 28, 29, 30, 31, 32, 33, 34, 35, 36, 37, 38, 39, 40, 41, 42, 43, 44, 45, 46, 47, 48, 49, 50, 51, 52, 53, 54, 55, 56, 57, 58, 59, 60, 61, 62, 63, 64, 65, 66, 67, 68, 69, 70, 71, 72, 73, 74, 75, 76, 77, 78, 79, 80, 81, 82, 83, 84, 85, 86, 87, 88, 89, 90, 91, 92, 93, 94, 95, 96, 97, 98, 99, 100, 101, 102, 103, 104, 105] (by decide +kernel) (by decide +kernel)) (goodIn_sub (fun _ h => List.mem_cons_of_mem _ (List.mem_append_left _ (List.mem_append_left _ (List.mem_append_right _ h)))) (by decide +kernel))) (goodIn_sub (fun _ h => List.mem_cons_of_mem _ (List.mem_append_left _ (List.mem_append_right _ h))) (by decide +kernel))) (goodIn_sub (fun _ h => List.mem_cons_of_mem _ (List.mem_append_right _ h)) (by decide +kernel))
set_option maxRecDepth 20000 in
theorem gL_gap_X6_gap : GoodIn wsL_gap (wsV RL 58 RX6 yX6_gap wsX6_gap) := goodIn_app (goodIn_of _ (by decide +kernel)) ggL_gap_X6_gap
theorem dL_gap_0 : decode cL_gap 0 = .ok (.aload 4, 2) := by decide +kernel
theorem dL_gap_2 : decode cL_gap 2 = .ok (.iconst 0, 1) := by decide +kernel
theorem dL_gap_3 : decode cL_gap 3 = .ok (.aload_n 0, 1) := by decide +kernel
theorem dL_gap_4 : decode cL_gap 4 = .ok (.iload_n 1, 1) := by decide +kernel
theorem dL_gap_5 : decode cL_gap 5 = .ok (.iload_n 2, 1) := by decide +kernel
theorem dL_gap_6 : decode cL_gap 6 = .ok (.iload_n 3, 1) := by decide +kernel
theorem dL_gap_7 : decode cL_gap 7 = .ok (.invokevirtual 58, 3) := by decide +kernel
theorem dL_gap_10 : decode cL_gap 10 = .ok (.i2l, 1) := by decide +kernel
theorem dL_gap_11 : decode cL_gap 11 = .ok (.lastore, 1) := by decide +kernel
theorem dL_gap_12 : decode cL_gap 12 = .ok (.goto 15, 3) := by decide +kernel
theorem dL_gap_15 : decode cL_gap 15 = .ok (.astore 5, 2) := by decide +kernel
theorem dL_gap_17 : decode cL_gap 17 = .ok (.iconst 1, 1) := by decide +kernel
theorem dL_gap_18 : decode cL_gap 18 = .ok (.ireturn, 1) := by decide +kernel
theorem dL_gap_19 : decode cL_gap 19 = .ok (.astore 5, 2) := by decide +kernel
theorem dL_gap_21 : decode cL_gap 21 = .ok (.iconst 2, 1) := by decide +kernel
theorem dL_gap_22 : decode cL_gap 22 = .ok (.ireturn, 1) := by decide +kernel
theorem dL_gap_23 : decode cL_gap 23 = .ok (.astore 5, 2) := by decide +kernel
theorem dL_gap_25 : decode cL_gap 25 = .ok (.iconst 3, 1) := by decide +kernel
theorem dL_gap_26 : decode cL_gap 26 = .ok (.ireturn, 1) := by decide +kernel
theorem dL_gap_27 : decode cL_gap 27 = .ok (.iconst 0, 1) := by decide +kernel
theorem dL_gap_28 : decode cL_gap 28 = .ok (.ireturn, 1) := by decide +kernel
set_option maxRecDepth 20000 in
theorem ggL_spread_X6_spread : GoodIn wsL_spread wsX6_spread := goodIn_ca (goodIn_ca (goodIn_r _ [7, 8, 9, 10, 11, 6, 12, 13, 14, 15, 16, 17, 18, 19, 20, 21, 22, 23, 24, 25, 26, 27, 28, 29, 30, 31, 32, 33, 34, 35, 36, 37, 38, 39, 40, 41, 42, 43, 44, 45, 46, 47, 48, 49, 50, 51, 52, 53, 54, 55, 56, 57, 58, 59, 60, 61, 62, 63, 64, 65, 66, 67, 68, 69, 70, 71, 72, 73, 74, 75, 76, 77, 78, 79, 80, 81, 82, 83, 84, 85, 86, 87, 88, 89, 90, 91, 92, 93, 94, 95, 96, 97, 98, 99, 100, 101, 102, 103, 104, 105, 106, 107] (by decide +kernel) (by decide +kernel)) (goodIn_sub (fun _ h => List.mem_cons_of_mem _ (List.mem_append_left _ (List.mem_append_right _ h))) (by decide +kernel))) (goodIn_sub (fun _ h => List.mem_cons_of_mem _ (List.mem_append_right _ h)) (by decide +kernel))
set_option maxRecDepth 20000 in
theorem gL_spread_X6_spread : GoodIn wsL_spread (wsV RL 61 RX6 yX6_spread wsX6_spread) := goodIn_app (goodIn_of _ (by decide +kernel)) ggL_spread_X6_spread
theorem dL_spread_0 : decode cL_spread 0 = .ok (.aload_n 3, 1) := by decide +kernel
theorem dL_spread_1 : decode cL_spread 1 = .ok (.iconst 0, 1) := by decide +kernel
theorem dL_spread_2 : decode cL_spread 2 = .ok (.aload_n 0, 1) := by decide +kernel
theorem dL_spread_3 : decode cL_spread 3 = .ok (.iload_n 1, 1) := by decide +kernel
theorem dL_spread_4 : decode cL_spread 4 = .ok (.iload_n 2, 1) := by decide +kernel
theorem dL_spread_5 : decode cL_spread 5 = .ok (.invokevirtual 61, 3) := by decide +kernel
theorem dL_spread_8 : decode cL_spread 8 = .ok (.i2l, 1) := by decide +kernel
theorem dL_spread_9 : decode cL_spread 9 = .ok (.lastore, 1) := by decide +kernel
theorem dL_spread_10 : decode cL_spread 10 = .ok (.goto 11, 3) := by decide +kernel
theorem dL_spread_13 : decode cL_spread 13 = .ok (.astore 4, 2) := by decide +kernel
theorem dL_spread_15 : decode cL_spread 15 = .ok (.iconst 1, 1) := by decide +kernel
theorem dL_spread_16 : decode cL_spread 16 = .ok (.ireturn, 1) := by decide +kernel
theorem dL_spread_17 : decode cL_spread 17 = .ok (.astore 4, 2) := by decide +kernel
theorem dL_spread_19 : decode cL_spread 19 = .ok (.iconst 2, 1) := by decide +kernel
theorem dL_spread_20 : decode cL_spread 20 = .ok (.ireturn, 1) := by decide +kernel
theorem dL_spread_21 : decode cL_spread 21 = .ok (.iconst 0, 1) := by decide +kernel
theorem dL_spread_22 : decode cL_spread 22 = .ok (.ireturn, 1) := by decide +kernel
set_option maxRecDepth 20000 in
theorem ggL_contributor_X6_contributor : GoodIn wsL_contributor wsX6_contributor := goodIn_ca (goodIn_ca (goodIn_r _ [7, 8, 9, 10, 11, 6, 12, 13, 14, 15, 16, 17, 18, 19, 20, 21, 22, 23, 24, 25, 26, 27, 28, 29, 30, 31, 32, 33, 34, 35, 36, 37, 38, 39, 40, 41, 42, 43, 44, 45, 46, 47, 48, 49, 50, 51, 52, 53, 54, 55, 56, 57, 58, 59, 60, 61, 62, 63, 64, 65, 66, 67, 68, 69, 70, 71, 72, 73, 74, 75, 76, 77, 78, 79, 80, 81, 82, 83, 84, 85, 86, 87, 88, 89, 90, 91, 92, 93, 94, 95, 96, 97, 98, 99, 100, 101, 102, 103, 104, 105, 106, 107, 108, 109, 110, 111] (by decide +kernel) (by decide +kernel)) (goodIn_sub (fun _ h => List.mem_cons_of_mem _ (List.mem_append_left _ (List.mem_append_right _ h))) (by decide +kernel))) (goodIn_sub (fun _ h => List.mem_cons_of_mem _ (List.mem_append_right _ h)) (by decide +kernel))
set_option maxRecDepth 20000 in
theorem gL_contributor_X6_contributor : GoodIn wsL_contributor (wsV RL 64 RX6 yX6_contributor wsX6_contributor) := goodIn_app (goodIn_of _ (by decide +kernel)) ggL_contributor_X6_contributor
theorem dL_contributor_0 : decode cL_contributor 0 = .ok (.aload_n 3, 1) := by decide +kernel
theorem dL_contributor_1 : decode cL_contributor 1 = .ok (.iconst 0, 1) := by decide +kernel
theorem dL_contributor_2 : decode cL_contributor 2 = .ok (.aload_n 0, 1) := by decide +kernel
theorem dL_contributor_3 : decode cL_contributor 3 = .ok (.iload_n 1, 1) := by decide +kernel
theorem dL_contributor_4 : decode cL_contributor 4 = .ok (.iload_n 2, 1) := by decide +kernel
theorem dL_contributor_5 : decode cL_contributor 5 = .ok (.invokevirtual 64, 3) := by decide +kernel
theorem dL_contributor_8 : decode cL_contributor 8 = .ok (.i2l, 1) := by decide +kernel
theorem dL_contributor_9 : decode cL_contributor 9 = .ok (.lastore, 1) := by decide +kernel
theorem dL_contributor_10 : decode cL_contributor 10 = .ok (.goto 11, 3) := by decide +kernel
theorem dL_contributor_13 : decode cL_contributor 13 = .ok (.astore 4, 2) := by decide +kernel
theorem dL_contributor_15 : decode cL_contributor 15 = .ok (.iconst 1, 1) := by decide +kernel
theorem dL_contributor_16 : decode cL_contributor 16 = .ok (.ireturn, 1) := by decide +kernel
theorem dL_contributor_17 : decode cL_contributor 17 = .ok (.astore 4, 2) := by decide +kernel
theorem dL_contributor_19 : decode cL_contributor 19 = .ok (.iconst 2, 1) := by decide +kernel
theorem dL_contributor_20 : decode cL_contributor 20 = .ok (.ireturn, 1) := by decide +kernel
theorem dL_contributor_21 : decode cL_contributor 21 = .ok (.iconst 0, 1) := by decide +kernel
theorem dL_contributor_22 : decode cL_contributor 22 = .ok (.ireturn, 1) := by decide +kernel
set_option maxRecDepth 20000 in
theorem ggL_part_X6_part : GoodIn wsL_part wsX6_part := goodIn_ca (goodIn_ca (goodIn_r _ [7, 8, 9, 10, 11, 12, 6, 13, 14, 15, 16, 17, 18, 19, 20, 21, 22, 23, 24, 25, 26, 27, 28, 29, 30, 31, 32, 33, 34, 35, 36, 37, 38, 39, 40, 41, 42, 43, 44, 45, 46, 47, 48, 49, 50, 51, 52, 53, 54, 55, 56, 57, 58, 59, 60, 61, 62, 63, 64, 65, 66, 67, 68, 69, 70, 71, 72, 73, 74, 75, 76, 77, 78, 79, 80, 81, 82, 83, 84, 85, 86, 87, 88, 89, 90, 91, 92, 93, 94, 95, 96, 97, 98, 99, 100, 101, 102, 103, 104, 105, 106, 107, 108, 109, 110, 111, 112, 113, 114, 115, 116, 117, 118] (by decide +kernel) (by decide +kernel)) (goodIn_sub (fun _ h => List.mem_cons_of_mem _ (List.mem_append_left _ (List.mem_append_right _ h))) (by decide +kernel))) (goodIn_sub (fun _ h => List.mem_cons_of_mem _ (List.mem_append_right _ h)) (by decide +kernel))
set_option maxRecDepth 20000 in
theorem gL_part_X6_part : GoodIn wsL_part (wsV RL 67 RX6 yX6_part wsX6_part) := goodIn_app (goodIn_of _ (by decide +kernel)) ggL_part_X6_part
theorem dL_part_0 : decode cL_part 0 = .ok (.aload 4, 2) := by decide +kernel
theorem dL_part_2 : decode cL_part 2 = .ok (.iconst 0, 1) := by decide +kernel
theorem dL_part_3 : decode cL_part 3 = .ok (.aload_n 0, 1) := by decide +kernel
theorem dL_part_4 : decode cL_part 4 = .ok (.iload_n 1, 1) := by decide +kernel
theorem dL_part_5 : decode cL_part 5 = .ok (.iload_n 2, 1) := by decide +kernel
theorem dL_part_6 : decode cL_part 6 = .ok (.iload_n 3, 1) := by decide +kernel
theorem dL_part_7 : decode cL_part 7 = .ok (.invokevirtual 67, 3) := by decide +kernel
theorem dL_part_10 : decode cL_part 10 = .ok (.dastore, 1) := by decide +kernel
theorem dL_part_11 : decode cL_part 11 = .ok (.goto 11, 3) := by decide +kernel
theorem dL_part_14 : decode cL_part 14 = .ok (.astore 5, 2) := by decide +kernel
theorem dL_part_16 : decode cL_part 16 = .ok (.iconst 1, 1) := by decide +kernel
