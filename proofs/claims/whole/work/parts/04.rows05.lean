theorem dX7_chainDimension_7 : decode cX7_chainDimension 7 = .ok (.ifCond .eq 21, 3) := by decide +kernel
theorem dX7_chainDimension_10 : decode cX7_chainDimension 10 = .ok (.iload_n 3, 1) := by decide +kernel
theorem dX7_chainDimension_11 : decode cX7_chainDimension 11 = .ok (.iconst 0, 1) := by decide +kernel
theorem dX7_chainDimension_12 : decode cX7_chainDimension 12 = .ok (.aload_n 0, 1) := by decide +kernel
theorem dX7_chainDimension_13 : decode cX7_chainDimension 13 = .ok (.getfield 159, 3) := by decide +kernel
theorem dX7_chainDimension_16 : decode cX7_chainDimension 16 = .ok (.iconst 1, 1) := by decide +kernel
theorem dX7_chainDimension_17 : decode cX7_chainDimension 17 = .ok (.isub, 1) := by decide +kernel
theorem dX7_chainDimension_18 : decode cX7_chainDimension 18 = .ok (.invokestatic 70, 3) := by decide +kernel
theorem dX7_chainDimension_21 : decode cX7_chainDimension 21 = .ok (.ifCond .eq 7, 3) := by decide +kernel
theorem dX7_chainDimension_24 : decode cX7_chainDimension 24 = .ok (.iconst 0, 1) := by decide +kernel
theorem dX7_chainDimension_25 : decode cX7_chainDimension 25 = .ok (.goto 4, 3) := by decide +kernel
theorem dX7_chainDimension_28 : decode cX7_chainDimension 28 = .ok (.iconst 1, 1) := by decide +kernel
theorem dX7_chainDimension_29 : decode cX7_chainDimension 29 = .ok (.putfield 67, 3) := by decide +kernel
theorem dX7_chainDimension_32 : decode cX7_chainDimension 32 = .ok (.aload_n 0, 1) := by decide +kernel
theorem dX7_chainDimension_33 : decode cX7_chainDimension 33 = .ok (.getfield 67, 3) := by decide +kernel
theorem dX7_chainDimension_36 : decode cX7_chainDimension 36 = .ok (.ifCond .le 7, 3) := by decide +kernel
theorem dX7_chainDimension_39 : decode cX7_chainDimension 39 = .ok (.iconst 0, 1) := by decide +kernel
theorem dX7_chainDimension_40 : decode cX7_chainDimension 40 = .ok (.goto 9, 3) := by decide +kernel
theorem dX7_chainDimension_43 : decode cX7_chainDimension 43 = .ok (.aload_n 0, 1) := by decide +kernel
theorem dX7_chainDimension_44 : decode cX7_chainDimension 44 = .ok (.getfield 54, 3) := by decide +kernel
theorem dX7_chainDimension_47 : decode cX7_chainDimension 47 = .ok (.iload_n 3, 1) := by decide +kernel
theorem dX7_chainDimension_48 : decode cX7_chainDimension 48 = .ok (.iaload, 1) := by decide +kernel
theorem dX7_chainDimension_49 : decode cX7_chainDimension 49 = .ok (.ireturn, 1) := by decide +kernel
theorem dX7_addUp_0 : decode cX7_addUp 0 = .ok (.aload_n 0, 1) := by decide +kernel
theorem dX7_addUp_1 : decode cX7_addUp 1 = .ok (.iconst 0, 1) := by decide +kernel
theorem dX7_addUp_2 : decode cX7_addUp 2 = .ok (.putfield 171, 3) := by decide +kernel
theorem dX7_addUp_5 : decode cX7_addUp 5 = .ok (.aload_n 0, 1) := by decide +kernel
theorem dX7_addUp_6 : decode cX7_addUp 6 = .ok (.iconst 0, 1) := by decide +kernel
theorem dX7_addUp_7 : decode cX7_addUp 7 = .ok (.putfield 174, 3) := by decide +kernel
theorem dX7_addUp_10 : decode cX7_addUp 10 = .ok (.aload_n 0, 1) := by decide +kernel
theorem dX7_addUp_11 : decode cX7_addUp 11 = .ok (.iconst 0, 1) := by decide +kernel
theorem dX7_addUp_12 : decode cX7_addUp 12 = .ok (.putfield 177, 3) := by decide +kernel
theorem dX7_addUp_15 : decode cX7_addUp 15 = .ok (.iload_n 1, 1) := by decide +kernel
theorem dX7_addUp_16 : decode cX7_addUp 16 = .ok (.istore_n 2, 1) := by decide +kernel
theorem dX7_addUp_17 : decode cX7_addUp 17 = .ok (.iconst 0, 1) := by decide +kernel
theorem dX7_addUp_18 : decode cX7_addUp 18 = .ok (.istore_n 3, 1) := by decide +kernel
theorem dX7_addUp_19 : decode cX7_addUp 19 = .ok (.iload_n 3, 1) := by decide +kernel
theorem dX7_addUp_20 : decode cX7_addUp 20 = .ok (.aload_n 0, 1) := by decide +kernel
theorem dX7_addUp_21 : decode cX7_addUp 21 = .ok (.getfield 159, 3) := by decide +kernel
theorem dX7_addUp_24 : decode cX7_addUp 24 = .ok (.if_icmp .ge 166, 3) := by decide +kernel
theorem dX7_addUp_27 : decode cX7_addUp 27 = .ok (.aload_n 0, 1) := by decide +kernel
theorem dX7_addUp_28 : decode cX7_addUp 28 = .ok (.getfield 54, 3) := by decide +kernel
theorem dX7_addUp_31 : decode cX7_addUp 31 = .ok (.iload_n 3, 1) := by decide +kernel
theorem dX7_addUp_32 : decode cX7_addUp 32 = .ok (.iaload, 1) := by decide +kernel
theorem dX7_addUp_33 : decode cX7_addUp 33 = .ok (.istore 4, 2) := by decide +kernel
theorem dX7_addUp_35 : decode cX7_addUp 35 = .ok (.aload_n 0, 1) := by decide +kernel
theorem dX7_addUp_36 : decode cX7_addUp 36 = .ok (.getfield 13, 3) := by decide +kernel
theorem dX7_addUp_39 : decode cX7_addUp 39 = .ok (.iload 4, 2) := by decide +kernel
theorem dX7_addUp_41 : decode cX7_addUp 41 = .ok (.iaload, 1) := by decide +kernel
theorem dX7_addUp_42 : decode cX7_addUp 42 = .ok (.iload_n 2, 1) := by decide +kernel
theorem dX7_addUp_43 : decode cX7_addUp 43 = .ok (.if_icmp .ne 7, 3) := by decide +kernel
theorem dX7_addUp_46 : decode cX7_addUp 46 = .ok (.iconst 1, 1) := by decide +kernel
theorem dX7_addUp_47 : decode cX7_addUp 47 = .ok (.goto 4, 3) := by decide +kernel
theorem dX7_addUp_50 : decode cX7_addUp 50 = .ok (.iconst (-1), 1) := by decide +kernel
theorem dX7_addUp_51 : decode cX7_addUp 51 = .ok (.istore 5, 2) := by decide +kernel
theorem dX7_addUp_53 : decode cX7_addUp 53 = .ok (.aload_n 0, 1) := by decide +kernel
theorem dX7_addUp_54 : decode cX7_addUp 54 = .ok (.dup, 1) := by decide +kernel
theorem dX7_addUp_55 : decode cX7_addUp 55 = .ok (.getfield 171, 3) := by decide +kernel
theorem dX7_addUp_58 : decode cX7_addUp 58 = .ok (.iload 5, 2) := by decide +kernel
theorem dX7_addUp_60 : decode cX7_addUp 60 = .ok (.aload_n 0, 1) := by decide +kernel
theorem dX7_addUp_61 : decode cX7_addUp 61 = .ok (.getfield 20, 3) := by decide +kernel
theorem dX7_addUp_64 : decode cX7_addUp 64 = .ok (.iload 4, 2) := by decide +kernel
theorem dX7_addUp_66 : decode cX7_addUp 66 = .ok (.iaload, 1) := by decide +kernel
theorem dX7_addUp_67 : decode cX7_addUp 67 = .ok (.imul, 1) := by decide +kernel
theorem dX7_addUp_68 : decode cX7_addUp 68 = .ok (.iadd, 1) := by decide +kernel
theorem dX7_addUp_69 : decode cX7_addUp 69 = .ok (.putfield 171, 3) := by decide +kernel
theorem dX7_addUp_72 : decode cX7_addUp 72 = .ok (.aload_n 0, 1) := by decide +kernel
theorem dX7_addUp_73 : decode cX7_addUp 73 = .ok (.dup, 1) := by decide +kernel
theorem dX7_addUp_74 : decode cX7_addUp 74 = .ok (.getfield 174, 3) := by decide +kernel
theorem dX7_addUp_77 : decode cX7_addUp 77 = .ok (.iload 5, 2) := by decide +kernel
theorem dX7_addUp_79 : decode cX7_addUp 79 = .ok (.aload_n 0, 1) := by decide +kernel
theorem dX7_addUp_80 : decode cX7_addUp 80 = .ok (.getfield 20, 3) := by decide +kernel
theorem dX7_addUp_83 : decode cX7_addUp 83 = .ok (.iload 4, 2) := by decide +kernel
theorem dX7_addUp_85 : decode cX7_addUp 85 = .ok (.iaload, 1) := by decide +kernel
theorem dX7_addUp_86 : decode cX7_addUp 86 = .ok (.imul, 1) := by decide +kernel
theorem dX7_addUp_87 : decode cX7_addUp 87 = .ok (.iload 5, 2) := by decide +kernel
theorem dX7_addUp_89 : decode cX7_addUp 89 = .ok (.iconst 1, 1) := by decide +kernel
theorem dX7_addUp_90 : decode cX7_addUp 90 = .ok (.if_icmp .ne 13, 3) := by decide +kernel
theorem dX7_addUp_93 : decode cX7_addUp 93 = .ok (.aload_n 0, 1) := by decide +kernel
theorem dX7_addUp_94 : decode cX7_addUp 94 = .ok (.getfield 23, 3) := by decide +kernel
theorem dX7_addUp_97 : decode cX7_addUp 97 = .ok (.iload 4, 2) := by decide +kernel
theorem dX7_addUp_99 : decode cX7_addUp 99 = .ok (.iaload, 1) := by decide +kernel
theorem dX7_addUp_100 : decode cX7_addUp 100 = .ok (.goto 11, 3) := by decide +kernel
theorem dX7_addUp_103 : decode cX7_addUp 103 = .ok (.aload_n 0, 1) := by decide +kernel
theorem dX7_addUp_104 : decode cX7_addUp 104 = .ok (.getfield 26, 3) := by decide +kernel
theorem dX7_addUp_107 : decode cX7_addUp 107 = .ok (.iload 4, 2) := by decide +kernel
theorem dX7_addUp_109 : decode cX7_addUp 109 = .ok (.iaload, 1) := by decide +kernel
theorem dX7_addUp_110 : decode cX7_addUp 110 = .ok (.ineg, 1) := by decide +kernel
theorem dX7_addUp_111 : decode cX7_addUp 111 = .ok (.iadd, 1) := by decide +kernel
theorem dX7_addUp_112 : decode cX7_addUp 112 = .ok (.iadd, 1) := by decide +kernel
theorem dX7_addUp_113 : decode cX7_addUp 113 = .ok (.putfield 174, 3) := by decide +kernel
theorem dX7_addUp_116 : decode cX7_addUp 116 = .ok (.aload_n 0, 1) := by decide +kernel
theorem dX7_addUp_117 : decode cX7_addUp 117 = .ok (.dup, 1) := by decide +kernel
theorem dX7_addUp_118 : decode cX7_addUp 118 = .ok (.getfield 177, 3) := by decide +kernel
theorem dX7_addUp_121 : decode cX7_addUp 121 = .ok (.iload 5, 2) := by decide +kernel
theorem dX7_addUp_123 : decode cX7_addUp 123 = .ok (.aload_n 0, 1) := by decide +kernel
theorem dX7_addUp_124 : decode cX7_addUp 124 = .ok (.getfield 20, 3) := by decide +kernel
theorem dX7_addUp_127 : decode cX7_addUp 127 = .ok (.iload 4, 2) := by decide +kernel
theorem dX7_addUp_129 : decode cX7_addUp 129 = .ok (.iaload, 1) := by decide +kernel
theorem dX7_addUp_130 : decode cX7_addUp 130 = .ok (.imul, 1) := by decide +kernel
theorem dX7_addUp_131 : decode cX7_addUp 131 = .ok (.iload 5, 2) := by decide +kernel
theorem dX7_addUp_133 : decode cX7_addUp 133 = .ok (.iconst 1, 1) := by decide +kernel
theorem dX7_addUp_134 : decode cX7_addUp 134 = .ok (.if_icmp .ne 13, 3) := by decide +kernel
theorem dX7_addUp_137 : decode cX7_addUp 137 = .ok (.aload_n 0, 1) := by decide +kernel
theorem dX7_addUp_138 : decode cX7_addUp 138 = .ok (.getfield 26, 3) := by decide +kernel
theorem dX7_addUp_141 : decode cX7_addUp 141 = .ok (.iload 4, 2) := by decide +kernel
theorem dX7_addUp_143 : decode cX7_addUp 143 = .ok (.iaload, 1) := by decide +kernel
theorem dX7_addUp_144 : decode cX7_addUp 144 = .ok (.goto 11, 3) := by decide +kernel
theorem dX7_addUp_147 : decode cX7_addUp 147 = .ok (.aload_n 0, 1) := by decide +kernel
theorem dX7_addUp_148 : decode cX7_addUp 148 = .ok (.getfield 23, 3) := by decide +kernel
theorem dX7_addUp_151 : decode cX7_addUp 151 = .ok (.iload 4, 2) := by decide +kernel
theorem dX7_addUp_153 : decode cX7_addUp 153 = .ok (.iaload, 1) := by decide +kernel
theorem dX7_addUp_154 : decode cX7_addUp 154 = .ok (.ineg, 1) := by decide +kernel
theorem dX7_addUp_155 : decode cX7_addUp 155 = .ok (.iadd, 1) := by decide +kernel
theorem dX7_addUp_156 : decode cX7_addUp 156 = .ok (.iadd, 1) := by decide +kernel
theorem dX7_addUp_157 : decode cX7_addUp 157 = .ok (.putfield 177, 3) := by decide +kernel
theorem dX7_addUp_160 : decode cX7_addUp 160 = .ok (.iload 5, 2) := by decide +kernel
theorem dX7_addUp_162 : decode cX7_addUp 162 = .ok (.iconst 1, 1) := by decide +kernel
theorem dX7_addUp_163 : decode cX7_addUp 163 = .ok (.if_icmp .ne 13, 3) := by decide +kernel
theorem dX7_addUp_166 : decode cX7_addUp 166 = .ok (.aload_n 0, 1) := by decide +kernel
theorem dX7_addUp_167 : decode cX7_addUp 167 = .ok (.getfield 17, 3) := by decide +kernel
theorem dX7_addUp_170 : decode cX7_addUp 170 = .ok (.iload 4, 2) := by decide +kernel
theorem dX7_addUp_172 : decode cX7_addUp 172 = .ok (.iaload, 1) := by decide +kernel
theorem dX7_addUp_173 : decode cX7_addUp 173 = .ok (.goto 10, 3) := by decide +kernel
theorem dX7_addUp_176 : decode cX7_addUp 176 = .ok (.aload_n 0, 1) := by decide +kernel
theorem dX7_addUp_177 : decode cX7_addUp 177 = .ok (.getfield 13, 3) := by decide +kernel
theorem dX7_addUp_180 : decode cX7_addUp 180 = .ok (.iload 4, 2) := by decide +kernel
theorem dX7_addUp_182 : decode cX7_addUp 182 = .ok (.iaload, 1) := by decide +kernel
theorem dX7_addUp_183 : decode cX7_addUp 183 = .ok (.istore_n 2, 1) := by decide +kernel
theorem dX7_addUp_184 : decode cX7_addUp 184 = .ok (.iinc 3 1, 3) := by decide +kernel
theorem dX7_addUp_187 : decode cX7_addUp 187 = .ok (.goto (-168), 3) := by decide +kernel
theorem dX7_addUp_190 : decode cX7_addUp 190 = .ok (.return_, 1) := by decide +kernel
set_option maxRecDepth 20000 in
theorem ggX7_gap_X7_areFaces : GoodIn wsX7_gap wsX7_areFaces := goodIn_r _ [9, 10, 11, 12, 8, 13, 14, 15, 16, 17, 45, 46, 47, 48, 49, 50, 51, 52, 53, 54, 55, 56, 57, 58, 59, 60, 61, 62, 63, 64, 65, 66, 67, 68, 69, 70, 71, 72, 73, 74, 75, 76, 77, 78] (by decide +kernel) (by decide +kernel)
set_option maxRecDepth 20000 in
theorem gX7_gap_X7_areFaces : GoodIn wsX7_gap (wsV RX7 162 RX7 yX7_areFaces wsX7_areFaces) := goodIn_app (goodIn_of _ (by decide +kernel)) ggX7_gap_X7_areFaces
set_option maxRecDepth 20000 in
theorem ggX7_gap_X7_within : GoodIn wsX7_gap wsX7_within := goodIn_r _ [17] (by decide +kernel) (by decide +kernel)
set_option maxRecDepth 20000 in
theorem gX7_gap_X7_within : GoodIn wsX7_gap (va_wsS RX7 70 yX7_within wsX7_within) := goodIn_app (goodIn_of _ (by decide +kernel)) ggX7_gap_X7_within
set_option maxRecDepth 20000 in
theorem ggX7_gap_X7_findChain : GoodIn wsX7_gap wsX7_findChain := goodIn_r _ [21, 22, 23, 24, 8, 25, 14, 26, 27, 28, 29, 30, 5, 6, 7, 9, 10, 11, 12, 13, 15, 16, 17, 31, 32, 33, 34, 35, 36, 37, 45, 46, 47, 48, 49, 50, 51, 52, 53, 54, 55, 56, 57, 58, 59, 60, 61, 62, 63, 64, 65, 66, 67, 68, 69, 70, 71, 72, 73, 74, 75, 76, 77, 78] (by decide +kernel) (by decide +kernel)
set_option maxRecDepth 20000 in
theorem gX7_gap_X7_findChain : GoodIn wsX7_gap (wsV RX7 168 RX7 yX7_findChain wsX7_findChain) := goodIn_app (goodIn_of _ (by decide +kernel)) ggX7_gap_X7_findChain
set_option maxRecDepth 20000 in
theorem ggX7_gap_X7_addUp : GoodIn wsX7_gap wsX7_addUp := goodIn_r _ [41, 2, 3, 4, 35, 37, 28, 42, 43, 44, 29, 45, 46, 47, 48, 49, 50, 51, 52, 53, 54, 55, 56, 57, 58, 59, 60, 61, 62, 63, 64, 65, 66, 67, 68, 69, 70, 71, 72, 73, 74, 75, 76, 77, 78] (by decide +kernel) (by decide +kernel)
set_option maxRecDepth 20000 in
theorem gX7_gap_X7_addUp : GoodIn wsX7_gap (wsV RX7 180 RX7 yX7_addUp wsX7_addUp) := goodIn_app (goodIn_of _ (by decide +kernel)) ggX7_gap_X7_addUp
theorem dX7_gap_0 : decode cX7_gap 0 = .ok (.aload_n 0, 1) := by decide +kernel
theorem dX7_gap_1 : decode cX7_gap 1 = .ok (.aload_n 0, 1) := by decide +kernel
theorem dX7_gap_2 : decode cX7_gap 2 = .ok (.iload_n 1, 1) := by decide +kernel
theorem dX7_gap_3 : decode cX7_gap 3 = .ok (.iload_n 2, 1) := by decide +kernel
theorem dX7_gap_4 : decode cX7_gap 4 = .ok (.invokevirtual 162, 3) := by decide +kernel
theorem dX7_gap_7 : decode cX7_gap 7 = .ok (.ifCond .ne 7, 3) := by decide +kernel
theorem dX7_gap_10 : decode cX7_gap 10 = .ok (.iconst 1, 1) := by decide +kernel
theorem dX7_gap_11 : decode cX7_gap 11 = .ok (.goto 30, 3) := by decide +kernel
theorem dX7_gap_14 : decode cX7_gap 14 = .ok (.iload_n 3, 1) := by decide +kernel
theorem dX7_gap_15 : decode cX7_gap 15 = .ok (.iconst 0, 1) := by decide +kernel
theorem dX7_gap_16 : decode cX7_gap 16 = .ok (.iconst 2, 1) := by decide +kernel
theorem dX7_gap_17 : decode cX7_gap 17 = .ok (.invokestatic 70, 3) := by decide +kernel
theorem dX7_gap_20 : decode cX7_gap 20 = .ok (.ifCond .ne 7, 3) := by decide +kernel
theorem dX7_gap_23 : decode cX7_gap 23 = .ok (.iconst 2, 1) := by decide +kernel
theorem dX7_gap_24 : decode cX7_gap 24 = .ok (.goto 17, 3) := by decide +kernel
theorem dX7_gap_27 : decode cX7_gap 27 = .ok (.aload_n 0, 1) := by decide +kernel
theorem dX7_gap_28 : decode cX7_gap 28 = .ok (.iload_n 1, 1) := by decide +kernel
theorem dX7_gap_29 : decode cX7_gap 29 = .ok (.iload_n 2, 1) := by decide +kernel
theorem dX7_gap_30 : decode cX7_gap 30 = .ok (.invokevirtual 168, 3) := by decide +kernel
theorem dX7_gap_33 : decode cX7_gap 33 = .ok (.ifCond .eq 7, 3) := by decide +kernel
theorem dX7_gap_36 : decode cX7_gap 36 = .ok (.iconst 0, 1) := by decide +kernel
theorem dX7_gap_37 : decode cX7_gap 37 = .ok (.goto 4, 3) := by decide +kernel
theorem dX7_gap_40 : decode cX7_gap 40 = .ok (.iconst 3, 1) := by decide +kernel
theorem dX7_gap_41 : decode cX7_gap 41 = .ok (.putfield 67, 3) := by decide +kernel
theorem dX7_gap_44 : decode cX7_gap 44 = .ok (.aload_n 0, 1) := by decide +kernel
theorem dX7_gap_45 : decode cX7_gap 45 = .ok (.getfield 67, 3) := by decide +kernel
theorem dX7_gap_48 : decode cX7_gap 48 = .ok (.ifCond .le 5, 3) := by decide +kernel
theorem dX7_gap_51 : decode cX7_gap 51 = .ok (.iconst 0, 1) := by decide +kernel
theorem dX7_gap_52 : decode cX7_gap 52 = .ok (.ireturn, 1) := by decide +kernel
theorem dX7_gap_53 : decode cX7_gap 53 = .ok (.aload_n 0, 1) := by decide +kernel
theorem dX7_gap_54 : decode cX7_gap 54 = .ok (.iload_n 1, 1) := by decide +kernel
theorem dX7_gap_55 : decode cX7_gap 55 = .ok (.invokevirtual 180, 3) := by decide +kernel
theorem dX7_gap_58 : decode cX7_gap 58 = .ok (.iload_n 3, 1) := by decide +kernel
theorem dX7_gap_59 : decode cX7_gap 59 = .ok (.ifCond .ne 10, 3) := by decide +kernel
theorem dX7_gap_62 : decode cX7_gap 62 = .ok (.aload_n 0, 1) := by decide +kernel
theorem dX7_gap_63 : decode cX7_gap 63 = .ok (.getfield 171, 3) := by decide +kernel
theorem dX7_gap_66 : decode cX7_gap 66 = .ok (.goto 19, 3) := by decide +kernel
theorem dX7_gap_69 : decode cX7_gap 69 = .ok (.iload_n 3, 1) := by decide +kernel
theorem dX7_gap_70 : decode cX7_gap 70 = .ok (.iconst 1, 1) := by decide +kernel
theorem dX7_gap_71 : decode cX7_gap 71 = .ok (.if_icmp .ne 10, 3) := by decide +kernel
theorem dX7_gap_74 : decode cX7_gap 74 = .ok (.aload_n 0, 1) := by decide +kernel
theorem dX7_gap_75 : decode cX7_gap 75 = .ok (.getfield 174, 3) := by decide +kernel
theorem dX7_gap_78 : decode cX7_gap 78 = .ok (.goto 7, 3) := by decide +kernel
theorem dX7_gap_81 : decode cX7_gap 81 = .ok (.aload_n 0, 1) := by decide +kernel
theorem dX7_gap_82 : decode cX7_gap 82 = .ok (.getfield 177, 3) := by decide +kernel
theorem dX7_gap_85 : decode cX7_gap 85 = .ok (.ireturn, 1) := by decide +kernel
set_option maxRecDepth 20000 in
theorem ggX7_spreadNow_X7_width : GoodIn wsX7_spreadNow wsX7_width := goodIn_r _ [7, 8, 9, 10, 11, 12, 13, 14, 15, 16, 17, 18, 19, 20, 21, 22, 23, 24, 25, 26, 27, 28, 29, 30, 31, 32, 33, 34, 35, 36, 37, 38, 39, 40, 41, 42, 43] (by decide +kernel) (by decide +kernel)
set_option maxRecDepth 20000 in
theorem gX7_spreadNow_X7_width : GoodIn wsX7_spreadNow (wsV RX7 94 RX7 yX7_width wsX7_width) := goodIn_app (goodIn_of _ (by decide +kernel)) ggX7_spreadNow_X7_width
theorem dX7_spreadNow_0 : decode cX7_spreadNow 0 = .ok (.iconst 0, 1) := by decide +kernel
theorem dX7_spreadNow_1 : decode cX7_spreadNow 1 = .ok (.istore_n 1, 1) := by decide +kernel
theorem dX7_spreadNow_2 : decode cX7_spreadNow 2 = .ok (.iconst 0, 1) := by decide +kernel
theorem dX7_spreadNow_3 : decode cX7_spreadNow 3 = .ok (.istore_n 2, 1) := by decide +kernel
theorem dX7_spreadNow_4 : decode cX7_spreadNow 4 = .ok (.iload_n 2, 1) := by decide +kernel
theorem dX7_spreadNow_5 : decode cX7_spreadNow 5 = .ok (.aload_n 0, 1) := by decide +kernel
theorem dX7_spreadNow_6 : decode cX7_spreadNow 6 = .ok (.getfield 159, 3) := by decide +kernel
theorem dX7_spreadNow_9 : decode cX7_spreadNow 9 = .ok (.if_icmp .ge 33, 3) := by decide +kernel
theorem dX7_spreadNow_12 : decode cX7_spreadNow 12 = .ok (.iload_n 1, 1) := by decide +kernel
theorem dX7_spreadNow_13 : decode cX7_spreadNow 13 = .ok (.aload_n 0, 1) := by decide +kernel
theorem dX7_spreadNow_14 : decode cX7_spreadNow 14 = .ok (.aload_n 0, 1) := by decide +kernel
theorem dX7_spreadNow_15 : decode cX7_spreadNow 15 = .ok (.getfield 54, 3) := by decide +kernel
theorem dX7_spreadNow_18 : decode cX7_spreadNow 18 = .ok (.iload_n 2, 1) := by decide +kernel
theorem dX7_spreadNow_19 : decode cX7_spreadNow 19 = .ok (.iaload, 1) := by decide +kernel
theorem dX7_spreadNow_20 : decode cX7_spreadNow 20 = .ok (.invokevirtual 94, 3) := by decide +kernel
theorem dX7_spreadNow_23 : decode cX7_spreadNow 23 = .ok (.aload_n 0, 1) := by decide +kernel
theorem dX7_spreadNow_24 : decode cX7_spreadNow 24 = .ok (.aload_n 0, 1) := by decide +kernel
theorem dX7_spreadNow_25 : decode cX7_spreadNow 25 = .ok (.getfield 54, 3) := by decide +kernel
theorem dX7_spreadNow_28 : decode cX7_spreadNow 28 = .ok (.iload_n 2, 1) := by decide +kernel
theorem dX7_spreadNow_29 : decode cX7_spreadNow 29 = .ok (.iaload, 1) := by decide +kernel
theorem dX7_spreadNow_30 : decode cX7_spreadNow 30 = .ok (.invokevirtual 94, 3) := by decide +kernel
theorem dX7_spreadNow_33 : decode cX7_spreadNow 33 = .ok (.imul, 1) := by decide +kernel
theorem dX7_spreadNow_34 : decode cX7_spreadNow 34 = .ok (.iadd, 1) := by decide +kernel
theorem dX7_spreadNow_35 : decode cX7_spreadNow 35 = .ok (.istore_n 1, 1) := by decide +kernel
theorem dX7_spreadNow_36 : decode cX7_spreadNow 36 = .ok (.iinc 2 1, 3) := by decide +kernel
theorem dX7_spreadNow_39 : decode cX7_spreadNow 39 = .ok (.goto (-35), 3) := by decide +kernel
theorem dX7_spreadNow_42 : decode cX7_spreadNow 42 = .ok (.iconst 0, 1) := by decide +kernel
theorem dX7_spreadNow_43 : decode cX7_spreadNow 43 = .ok (.istore_n 2, 1) := by decide +kernel
theorem dX7_spreadNow_44 : decode cX7_spreadNow 44 = .ok (.iload_n 2, 1) := by decide +kernel
theorem dX7_spreadNow_45 : decode cX7_spreadNow 45 = .ok (.iconst 1, 1) := by decide +kernel
theorem dX7_spreadNow_46 : decode cX7_spreadNow 46 = .ok (.iadd, 1) := by decide +kernel
theorem dX7_spreadNow_47 : decode cX7_spreadNow 47 = .ok (.iload_n 2, 1) := by decide +kernel
theorem dX7_spreadNow_48 : decode cX7_spreadNow 48 = .ok (.iconst 1, 1) := by decide +kernel
theorem dX7_spreadNow_49 : decode cX7_spreadNow 49 = .ok (.iadd, 1) := by decide +kernel
theorem dX7_spreadNow_50 : decode cX7_spreadNow 50 = .ok (.imul, 1) := by decide +kernel
theorem dX7_spreadNow_51 : decode cX7_spreadNow 51 = .ok (.iload_n 1, 1) := by decide +kernel
theorem dX7_spreadNow_52 : decode cX7_spreadNow 52 = .ok (.if_icmp .gt 9, 3) := by decide +kernel
theorem dX7_spreadNow_55 : decode cX7_spreadNow 55 = .ok (.iinc 2 1, 3) := by decide +kernel
theorem dX7_spreadNow_58 : decode cX7_spreadNow 58 = .ok (.goto (-14), 3) := by decide +kernel
theorem dX7_spreadNow_61 : decode cX7_spreadNow 61 = .ok (.iload_n 2, 1) := by decide +kernel
theorem dX7_spreadNow_62 : decode cX7_spreadNow 62 = .ok (.ireturn, 1) := by decide +kernel
set_option maxRecDepth 20000 in
theorem ggX7_spread_X7_areFaces : GoodIn wsX7_spread wsX7_areFaces := goodIn_r _ [6, 7, 8, 9, 5, 10, 11, 12, 13, 14, 45, 46, 47, 48, 49, 50, 51, 52, 53, 54, 55, 56, 57, 58, 59, 60, 61, 62, 63, 64, 65, 66, 67, 68, 69, 70, 71, 72, 73, 74, 75, 76, 77, 78] (by decide +kernel) (by decide +kernel)
set_option maxRecDepth 20000 in
theorem gX7_spread_X7_areFaces : GoodIn wsX7_spread (wsV RX7 162 RX7 yX7_areFaces wsX7_areFaces) := goodIn_app (goodIn_of _ (by decide +kernel)) ggX7_spread_X7_areFaces
set_option maxRecDepth 20000 in
theorem ggX7_spread_X7_findChain : GoodIn wsX7_spread wsX7_findChain := goodIn_r _ [18, 19, 20, 21, 5, 22, 11, 23, 24, 25, 26, 27, 2, 3, 4, 6, 7, 8, 9, 10, 12, 13, 14, 28, 29, 30, 31, 32, 33, 34, 45, 46, 47, 48, 49, 50, 51, 52, 53, 54, 55, 56, 57, 58, 59, 60, 61, 62, 63, 64, 65, 66, 67, 68, 69, 70, 71, 72, 73, 74, 75, 76, 77, 78] (by decide +kernel) (by decide +kernel)
set_option maxRecDepth 20000 in
theorem gX7_spread_X7_findChain : GoodIn wsX7_spread (wsV RX7 168 RX7 yX7_findChain wsX7_findChain) := goodIn_app (goodIn_of _ (by decide +kernel)) ggX7_spread_X7_findChain
set_option maxRecDepth 20000 in
theorem ggX7_spread_X7_spreadNow : GoodIn wsX7_spread wsX7_spreadNow := goodIn_r _ [38, 32, 34, 39, 40, 41, 5, 42, 43, 44, 45, 46, 47, 48, 49, 50, 51, 52, 53, 54, 55, 56, 57, 58, 59, 60, 61, 62, 63, 64, 65, 66, 67, 68, 69, 70, 71, 72, 73, 74, 75, 76, 77, 78] (by decide +kernel) (by decide +kernel)
set_option maxRecDepth 20000 in
theorem gX7_spread_X7_spreadNow : GoodIn wsX7_spread (wsV RX7 184 RX7 yX7_spreadNow wsX7_spreadNow) := goodIn_app (goodIn_of _ (by decide +kernel)) ggX7_spread_X7_spreadNow
theorem dX7_spread_0 : decode cX7_spread 0 = .ok (.aload_n 0, 1) := by decide +kernel
theorem dX7_spread_1 : decode cX7_spread 1 = .ok (.aload_n 0, 1) := by decide +kernel
theorem dX7_spread_2 : decode cX7_spread 2 = .ok (.iload_n 1, 1) := by decide +kernel
theorem dX7_spread_3 : decode cX7_spread 3 = .ok (.iload_n 2, 1) := by decide +kernel
theorem dX7_spread_4 : decode cX7_spread 4 = .ok (.invokevirtual 162, 3) := by decide +kernel
theorem dX7_spread_7 : decode cX7_spread 7 = .ok (.ifCond .ne 7, 3) := by decide +kernel
theorem dX7_spread_10 : decode cX7_spread 10 = .ok (.iconst 1, 1) := by decide +kernel
theorem dX7_spread_11 : decode cX7_spread 11 = .ok (.goto 17, 3) := by decide +kernel
theorem dX7_spread_14 : decode cX7_spread 14 = .ok (.aload_n 0, 1) := by decide +kernel
theorem dX7_spread_15 : decode cX7_spread 15 = .ok (.iload_n 1, 1) := by decide +kernel
theorem dX7_spread_16 : decode cX7_spread 16 = .ok (.iload_n 2, 1) := by decide +kernel
theorem dX7_spread_17 : decode cX7_spread 17 = .ok (.invokevirtual 168, 3) := by decide +kernel
theorem dX7_spread_20 : decode cX7_spread 20 = .ok (.ifCond .eq 7, 3) := by decide +kernel
theorem dX7_spread_23 : decode cX7_spread 23 = .ok (.iconst 0, 1) := by decide +kernel
theorem dX7_spread_24 : decode cX7_spread 24 = .ok (.goto 4, 3) := by decide +kernel
theorem dX7_spread_27 : decode cX7_spread 27 = .ok (.iconst 2, 1) := by decide +kernel
theorem dX7_spread_28 : decode cX7_spread 28 = .ok (.putfield 67, 3) := by decide +kernel
theorem dX7_spread_31 : decode cX7_spread 31 = .ok (.aload_n 0, 1) := by decide +kernel
theorem dX7_spread_32 : decode cX7_spread 32 = .ok (.getfield 67, 3) := by decide +kernel
theorem dX7_spread_35 : decode cX7_spread 35 = .ok (.ifCond .le 7, 3) := by decide +kernel
theorem dX7_spread_38 : decode cX7_spread 38 = .ok (.iconst 0, 1) := by decide +kernel
theorem dX7_spread_39 : decode cX7_spread 39 = .ok (.goto 7, 3) := by decide +kernel
theorem dX7_spread_42 : decode cX7_spread 42 = .ok (.aload_n 0, 1) := by decide +kernel
theorem dX7_spread_43 : decode cX7_spread 43 = .ok (.invokevirtual 184, 3) := by decide +kernel
theorem dX7_spread_46 : decode cX7_spread 46 = .ok (.ireturn, 1) := by decide +kernel
set_option maxRecDepth 20000 in
theorem ggX7_contributorNow_X7_width : GoodIn wsX7_contributorNow wsX7_width := goodIn_r _ [7, 8, 9, 10, 11, 12, 13, 14, 15, 16, 17, 18, 19, 20, 21, 22, 23, 24, 25, 26, 27, 28, 29, 30, 31, 32, 33, 34, 35, 36, 37, 38, 39, 40, 41, 42, 43] (by decide +kernel) (by decide +kernel)
set_option maxRecDepth 20000 in
theorem gX7_contributorNow_X7_width : GoodIn wsX7_contributorNow (wsV RX7 94 RX7 yX7_width wsX7_width) := goodIn_app (goodIn_of _ (by decide +kernel)) ggX7_contributorNow_X7_width
theorem dX7_contributorNow_0 : decode cX7_contributorNow 0 = .ok (.iconst (-1), 1) := by decide +kernel
theorem dX7_contributorNow_1 : decode cX7_contributorNow 1 = .ok (.istore_n 1, 1) := by decide +kernel
theorem dX7_contributorNow_2 : decode cX7_contributorNow 2 = .ok (.iconst 0, 1) := by decide +kernel
theorem dX7_contributorNow_3 : decode cX7_contributorNow 3 = .ok (.istore_n 2, 1) := by decide +kernel
theorem dX7_contributorNow_4 : decode cX7_contributorNow 4 = .ok (.iload_n 2, 1) := by decide +kernel
theorem dX7_contributorNow_5 : decode cX7_contributorNow 5 = .ok (.aload_n 0, 1) := by decide +kernel
theorem dX7_contributorNow_6 : decode cX7_contributorNow 6 = .ok (.getfield 159, 3) := by decide +kernel
theorem dX7_contributorNow_9 : decode cX7_contributorNow 9 = .ok (.if_icmp .ge 70, 3) := by decide +kernel
theorem dX7_contributorNow_12 : decode cX7_contributorNow 12 = .ok (.aload_n 0, 1) := by decide +kernel
theorem dX7_contributorNow_13 : decode cX7_contributorNow 13 = .ok (.getfield 54, 3) := by decide +kernel
theorem dX7_contributorNow_16 : decode cX7_contributorNow 16 = .ok (.iload_n 2, 1) := by decide +kernel
theorem dX7_contributorNow_17 : decode cX7_contributorNow 17 = .ok (.iaload, 1) := by decide +kernel
theorem dX7_contributorNow_18 : decode cX7_contributorNow 18 = .ok (.istore_n 3, 1) := by decide +kernel
theorem dX7_contributorNow_19 : decode cX7_contributorNow 19 = .ok (.iload_n 1, 1) := by decide +kernel
theorem dX7_contributorNow_20 : decode cX7_contributorNow 20 = .ok (.iconst (-1), 1) := by decide +kernel
theorem dX7_contributorNow_21 : decode cX7_contributorNow 21 = .ok (.if_icmp .eq 34, 3) := by decide +kernel
theorem dX7_contributorNow_24 : decode cX7_contributorNow 24 = .ok (.aload_n 0, 1) := by decide +kernel
theorem dX7_contributorNow_25 : decode cX7_contributorNow 25 = .ok (.iload_n 3, 1) := by decide +kernel
theorem dX7_contributorNow_26 : decode cX7_contributorNow 26 = .ok (.invokevirtual 94, 3) := by decide +kernel
theorem dX7_contributorNow_29 : decode cX7_contributorNow 29 = .ok (.aload_n 0, 1) := by decide +kernel
theorem dX7_contributorNow_30 : decode cX7_contributorNow 30 = .ok (.iload_n 1, 1) := by decide +kernel
theorem dX7_contributorNow_31 : decode cX7_contributorNow 31 = .ok (.invokevirtual 94, 3) := by decide +kernel
theorem dX7_contributorNow_34 : decode cX7_contributorNow 34 = .ok (.if_icmp .gt 21, 3) := by decide +kernel
theorem dX7_contributorNow_37 : decode cX7_contributorNow 37 = .ok (.aload_n 0, 1) := by decide +kernel
theorem dX7_contributorNow_38 : decode cX7_contributorNow 38 = .ok (.iload_n 3, 1) := by decide +kernel
theorem dX7_contributorNow_39 : decode cX7_contributorNow 39 = .ok (.invokevirtual 94, 3) := by decide +kernel
theorem dX7_contributorNow_42 : decode cX7_contributorNow 42 = .ok (.aload_n 0, 1) := by decide +kernel
theorem dX7_contributorNow_43 : decode cX7_contributorNow 43 = .ok (.iload_n 1, 1) := by decide +kernel
theorem dX7_contributorNow_44 : decode cX7_contributorNow 44 = .ok (.invokevirtual 94, 3) := by decide +kernel
theorem dX7_contributorNow_47 : decode cX7_contributorNow 47 = .ok (.if_icmp .ne 12, 3) := by decide +kernel
theorem dX7_contributorNow_50 : decode cX7_contributorNow 50 = .ok (.iload_n 3, 1) := by decide +kernel
theorem dX7_contributorNow_51 : decode cX7_contributorNow 51 = .ok (.iload_n 1, 1) := by decide +kernel
theorem dX7_contributorNow_52 : decode cX7_contributorNow 52 = .ok (.if_icmp .ge 7, 3) := by decide +kernel
theorem dX7_contributorNow_55 : decode cX7_contributorNow 55 = .ok (.iconst 1, 1) := by decide +kernel
theorem dX7_contributorNow_56 : decode cX7_contributorNow 56 = .ok (.goto 4, 3) := by decide +kernel
theorem dX7_contributorNow_59 : decode cX7_contributorNow 59 = .ok (.iconst 0, 1) := by decide +kernel
theorem dX7_contributorNow_60 : decode cX7_contributorNow 60 = .ok (.istore 4, 2) := by decide +kernel
theorem dX7_contributorNow_62 : decode cX7_contributorNow 62 = .ok (.iload 4, 2) := by decide +kernel
theorem dX7_contributorNow_64 : decode cX7_contributorNow 64 = .ok (.ifCond .eq 7, 3) := by decide +kernel
theorem dX7_contributorNow_67 : decode cX7_contributorNow 67 = .ok (.iload_n 3, 1) := by decide +kernel
theorem dX7_contributorNow_68 : decode cX7_contributorNow 68 = .ok (.goto 4, 3) := by decide +kernel
theorem dX7_contributorNow_71 : decode cX7_contributorNow 71 = .ok (.iload_n 1, 1) := by decide +kernel
theorem dX7_contributorNow_72 : decode cX7_contributorNow 72 = .ok (.istore_n 1, 1) := by decide +kernel
theorem dX7_contributorNow_73 : decode cX7_contributorNow 73 = .ok (.iinc 2 1, 3) := by decide +kernel
theorem dX7_contributorNow_76 : decode cX7_contributorNow 76 = .ok (.goto (-72), 3) := by decide +kernel
theorem dX7_contributorNow_79 : decode cX7_contributorNow 79 = .ok (.iload_n 1, 1) := by decide +kernel
theorem dX7_contributorNow_80 : decode cX7_contributorNow 80 = .ok (.ireturn, 1) := by decide +kernel
set_option maxRecDepth 20000 in
theorem ggX7_contributor_X7_areFaces : GoodIn wsX7_contributor wsX7_areFaces := goodIn_r _ [6, 7, 8, 9, 5, 10, 11, 12, 13, 14, 45, 46, 47, 48, 49, 50, 51, 52, 53, 54, 55, 56, 57, 58, 59, 60, 61, 62, 63, 64, 65, 66, 67, 68, 69, 70, 71, 72, 73, 74, 75, 76, 77, 78] (by decide +kernel) (by decide +kernel)
set_option maxRecDepth 20000 in
theorem gX7_contributor_X7_areFaces : GoodIn wsX7_contributor (wsV RX7 162 RX7 yX7_areFaces wsX7_areFaces) := goodIn_app (goodIn_of _ (by decide +kernel)) ggX7_contributor_X7_areFaces
set_option maxRecDepth 20000 in
theorem ggX7_contributor_X7_findChain : GoodIn wsX7_contributor wsX7_findChain := goodIn_r _ [18, 19, 20, 21, 5, 22, 11, 23, 24, 25, 26, 27, 2, 3, 4, 6, 7, 8, 9, 10, 12, 13, 14, 28, 29, 30, 31, 32, 33, 34, 45, 46, 47, 48, 49, 50, 51, 52, 53, 54, 55, 56, 57, 58, 59, 60, 61, 62, 63, 64, 65, 66, 67, 68, 69, 70, 71, 72, 73, 74, 75, 76, 77, 78] (by decide +kernel) (by decide +kernel)
set_option maxRecDepth 20000 in
theorem gX7_contributor_X7_findChain : GoodIn wsX7_contributor (wsV RX7 168 RX7 yX7_findChain wsX7_findChain) := goodIn_app (goodIn_of _ (by decide +kernel)) ggX7_contributor_X7_findChain
set_option maxRecDepth 20000 in
theorem ggX7_contributor_X7_contributorNow : GoodIn wsX7_contributor wsX7_contributorNow := goodIn_r _ [38, 32, 34, 39, 40, 41, 5, 42, 43, 44, 45, 46, 47, 48, 49, 50, 51, 52, 53, 54, 55, 56, 57, 58, 59, 60, 61, 62, 63, 64, 65, 66, 67, 68, 69, 70, 71, 72, 73, 74, 75, 76, 77, 78] (by decide +kernel) (by decide +kernel)
set_option maxRecDepth 20000 in
theorem gX7_contributor_X7_contributorNow : GoodIn wsX7_contributor (wsV RX7 187 RX7 yX7_contributorNow wsX7_contributorNow) := goodIn_app (goodIn_of _ (by decide +kernel)) ggX7_contributor_X7_contributorNow
theorem dX7_contributor_0 : decode cX7_contributor 0 = .ok (.aload_n 0, 1) := by decide +kernel
theorem dX7_contributor_1 : decode cX7_contributor 1 = .ok (.aload_n 0, 1) := by decide +kernel
theorem dX7_contributor_2 : decode cX7_contributor 2 = .ok (.iload_n 1, 1) := by decide +kernel
theorem dX7_contributor_3 : decode cX7_contributor 3 = .ok (.iload_n 2, 1) := by decide +kernel
theorem dX7_contributor_4 : decode cX7_contributor 4 = .ok (.invokevirtual 162, 3) := by decide +kernel
theorem dX7_contributor_7 : decode cX7_contributor 7 = .ok (.ifCond .ne 7, 3) := by decide +kernel
theorem dX7_contributor_10 : decode cX7_contributor 10 = .ok (.iconst 1, 1) := by decide +kernel
theorem dX7_contributor_11 : decode cX7_contributor 11 = .ok (.goto 17, 3) := by decide +kernel
theorem dX7_contributor_14 : decode cX7_contributor 14 = .ok (.aload_n 0, 1) := by decide +kernel
theorem dX7_contributor_15 : decode cX7_contributor 15 = .ok (.iload_n 1, 1) := by decide +kernel
theorem dX7_contributor_16 : decode cX7_contributor 16 = .ok (.iload_n 2, 1) := by decide +kernel
theorem dX7_contributor_17 : decode cX7_contributor 17 = .ok (.invokevirtual 168, 3) := by decide +kernel
theorem dX7_contributor_20 : decode cX7_contributor 20 = .ok (.ifCond .eq 7, 3) := by decide +kernel
theorem dX7_contributor_23 : decode cX7_contributor 23 = .ok (.iconst 0, 1) := by decide +kernel
theorem dX7_contributor_24 : decode cX7_contributor 24 = .ok (.goto 4, 3) := by decide +kernel
theorem dX7_contributor_27 : decode cX7_contributor 27 = .ok (.iconst 2, 1) := by decide +kernel
theorem dX7_contributor_28 : decode cX7_contributor 28 = .ok (.putfield 67, 3) := by decide +kernel
theorem dX7_contributor_31 : decode cX7_contributor 31 = .ok (.aload_n 0, 1) := by decide +kernel
theorem dX7_contributor_32 : decode cX7_contributor 32 = .ok (.getfield 67, 3) := by decide +kernel
theorem dX7_contributor_35 : decode cX7_contributor 35 = .ok (.ifCond .le 7, 3) := by decide +kernel
theorem dX7_contributor_38 : decode cX7_contributor 38 = .ok (.iconst 0, 1) := by decide +kernel
theorem dX7_contributor_39 : decode cX7_contributor 39 = .ok (.goto 7, 3) := by decide +kernel
theorem dX7_contributor_42 : decode cX7_contributor 42 = .ok (.aload_n 0, 1) := by decide +kernel
theorem dX7_contributor_43 : decode cX7_contributor 43 = .ok (.invokevirtual 187, 3) := by decide +kernel
theorem dX7_contributor_46 : decode cX7_contributor 46 = .ok (.ireturn, 1) := by decide +kernel
theorem dX7_isInChain_0 : decode cX7_isInChain 0 = .ok (.iconst 0, 1) := by decide +kernel
theorem dX7_isInChain_1 : decode cX7_isInChain 1 = .ok (.istore_n 2, 1) := by decide +kernel
theorem dX7_isInChain_2 : decode cX7_isInChain 2 = .ok (.iconst 0, 1) := by decide +kernel
theorem dX7_isInChain_3 : decode cX7_isInChain 3 = .ok (.istore_n 3, 1) := by decide +kernel
theorem dX7_isInChain_4 : decode cX7_isInChain 4 = .ok (.iload_n 3, 1) := by decide +kernel
theorem dX7_isInChain_5 : decode cX7_isInChain 5 = .ok (.aload_n 0, 1) := by decide +kernel
theorem dX7_isInChain_6 : decode cX7_isInChain 6 = .ok (.getfield 159, 3) := by decide +kernel
theorem dX7_isInChain_9 : decode cX7_isInChain 9 = .ok (.if_icmp .ge 29, 3) := by decide +kernel
theorem dX7_isInChain_12 : decode cX7_isInChain 12 = .ok (.iload_n 2, 1) := by decide +kernel
theorem dX7_isInChain_13 : decode cX7_isInChain 13 = .ok (.ifCond .ne 13, 3) := by decide +kernel
theorem dX7_isInChain_16 : decode cX7_isInChain 16 = .ok (.aload_n 0, 1) := by decide +kernel
theorem dX7_isInChain_17 : decode cX7_isInChain 17 = .ok (.getfield 54, 3) := by decide +kernel
theorem dX7_isInChain_20 : decode cX7_isInChain 20 = .ok (.iload_n 3, 1) := by decide +kernel
theorem dX7_isInChain_21 : decode cX7_isInChain 21 = .ok (.iaload, 1) := by decide +kernel
theorem dX7_isInChain_22 : decode cX7_isInChain 22 = .ok (.iload_n 1, 1) := by decide +kernel
theorem dX7_isInChain_23 : decode cX7_isInChain 23 = .ok (.if_icmp .ne 7, 3) := by decide +kernel
theorem dX7_isInChain_26 : decode cX7_isInChain 26 = .ok (.iconst 1, 1) := by decide +kernel
theorem dX7_isInChain_27 : decode cX7_isInChain 27 = .ok (.goto 4, 3) := by decide +kernel
theorem dX7_isInChain_30 : decode cX7_isInChain 30 = .ok (.iconst 0, 1) := by decide +kernel
theorem dX7_isInChain_31 : decode cX7_isInChain 31 = .ok (.istore_n 2, 1) := by decide +kernel
theorem dX7_isInChain_32 : decode cX7_isInChain 32 = .ok (.iinc 3 1, 3) := by decide +kernel
theorem dX7_isInChain_35 : decode cX7_isInChain 35 = .ok (.goto (-31), 3) := by decide +kernel
theorem dX7_isInChain_38 : decode cX7_isInChain 38 = .ok (.iload_n 2, 1) := by decide +kernel
theorem dX7_isInChain_39 : decode cX7_isInChain 39 = .ok (.ireturn, 1) := by decide +kernel
set_option maxRecDepth 20000 in
theorem ggX7_widths_X7_width : GoodIn wsX7_widths wsX7_width := goodIn_r _ [7, 8, 9, 10, 11, 12, 13, 14, 15, 16, 17, 18, 19, 20, 21, 22, 23, 24, 25, 26, 27, 28, 29, 30, 31, 32, 33, 34, 35, 36, 37, 38, 39, 40, 41, 42, 43] (by decide +kernel) (by decide +kernel)
set_option maxRecDepth 20000 in
theorem gX7_widths_X7_width : GoodIn wsX7_widths (wsV RX7 94 RX7 yX7_width wsX7_width) := goodIn_app (goodIn_of _ (by decide +kernel)) ggX7_widths_X7_width
theorem dX7_widths_0 : decode cX7_widths 0 = .ok (.iconst 0, 1) := by decide +kernel
theorem dX7_widths_1 : decode cX7_widths 1 = .ok (.istore_n 1, 1) := by decide +kernel
theorem dX7_widths_2 : decode cX7_widths 2 = .ok (.iconst 0, 1) := by decide +kernel
theorem dX7_widths_3 : decode cX7_widths 3 = .ok (.istore_n 2, 1) := by decide +kernel
theorem dX7_widths_4 : decode cX7_widths 4 = .ok (.iload_n 2, 1) := by decide +kernel
theorem dX7_widths_5 : decode cX7_widths 5 = .ok (.aload_n 0, 1) := by decide +kernel
theorem dX7_widths_6 : decode cX7_widths 6 = .ok (.getfield 159, 3) := by decide +kernel
theorem dX7_widths_9 : decode cX7_widths 9 = .ok (.if_icmp .ge 22, 3) := by decide +kernel
theorem dX7_widths_12 : decode cX7_widths 12 = .ok (.iload_n 1, 1) := by decide +kernel
theorem dX7_widths_13 : decode cX7_widths 13 = .ok (.aload_n 0, 1) := by decide +kernel
theorem dX7_widths_14 : decode cX7_widths 14 = .ok (.aload_n 0, 1) := by decide +kernel
theorem dX7_widths_15 : decode cX7_widths 15 = .ok (.getfield 54, 3) := by decide +kernel
theorem dX7_widths_18 : decode cX7_widths 18 = .ok (.iload_n 2, 1) := by decide +kernel
theorem dX7_widths_19 : decode cX7_widths 19 = .ok (.iaload, 1) := by decide +kernel
theorem dX7_widths_20 : decode cX7_widths 20 = .ok (.invokevirtual 94, 3) := by decide +kernel
theorem dX7_widths_23 : decode cX7_widths 23 = .ok (.iadd, 1) := by decide +kernel
theorem dX7_widths_24 : decode cX7_widths 24 = .ok (.istore_n 1, 1) := by decide +kernel
theorem dX7_widths_25 : decode cX7_widths 25 = .ok (.iinc 2 1, 3) := by decide +kernel
theorem dX7_widths_28 : decode cX7_widths 28 = .ok (.goto (-24), 3) := by decide +kernel
theorem dX7_widths_31 : decode cX7_widths 31 = .ok (.iload_n 1, 1) := by decide +kernel
theorem dX7_widths_32 : decode cX7_widths 32 = .ok (.ireturn, 1) := by decide +kernel
set_option maxRecDepth 20000 in
theorem ggX7_part_X7_areFaces : GoodIn wsX7_part wsX7_areFaces := goodIn_r _ [6, 7, 8, 9, 5, 10, 11, 12, 13, 14, 53, 54, 55, 56, 57, 58, 59, 60, 61, 62, 63, 64, 65, 66, 67, 68, 69, 70, 71, 72, 73, 74, 75, 76, 77, 78, 79, 80, 81, 82, 83, 84, 85, 86] (by decide +kernel) (by decide +kernel)
set_option maxRecDepth 20000 in
theorem gX7_part_X7_areFaces : GoodIn wsX7_part (wsV RX7 162 RX7 yX7_areFaces wsX7_areFaces) := goodIn_app (goodIn_of _ (by decide +kernel)) ggX7_part_X7_areFaces
set_option maxRecDepth 20000 in
theorem ggX7_part_X7_isDimension : GoodIn wsX7_part wsX7_isDimension := goodIn_r _ [18, 19, 12, 13, 5, 14, 53, 54, 55, 56, 57, 58, 59, 60, 61, 62, 63, 64, 65, 66, 67, 68, 69, 70, 71, 72, 73, 74, 75, 76, 77, 78, 79, 80, 81, 82, 83, 84, 85, 86] (by decide +kernel) (by decide +kernel)
set_option maxRecDepth 20000 in
theorem gX7_part_X7_isDimension : GoodIn wsX7_part (wsV RX7 91 RX7 yX7_isDimension wsX7_isDimension) := goodIn_app (goodIn_of _ (by decide +kernel)) ggX7_part_X7_isDimension
set_option maxRecDepth 20000 in
theorem ggX7_part_X7_findChain : GoodIn wsX7_part wsX7_findChain := goodIn_r _ [23, 24, 25, 26, 5, 27, 11, 28, 19, 29, 30, 31, 2, 3, 4, 6, 7, 8, 9, 10, 12, 13, 14, 32, 33, 34, 35, 36, 37, 38, 53, 54, 55, 56, 57, 58, 59, 60, 61, 62, 63, 64, 65, 66, 67, 68, 69, 70, 71, 72, 73, 74, 75, 76, 77, 78, 79, 80, 81, 82, 83, 84, 85, 86] (by decide +kernel) (by decide +kernel)
set_option maxRecDepth 20000 in
theorem gX7_part_X7_findChain : GoodIn wsX7_part (wsV RX7 168 RX7 yX7_findChain wsX7_findChain) := goodIn_app (goodIn_of _ (by decide +kernel)) ggX7_part_X7_findChain
set_option maxRecDepth 20000 in
theorem ggX7_part_X7_isInChain : GoodIn wsX7_part wsX7_isInChain := goodIn_r _ [42, 36, 38, 53, 54, 55, 56, 57, 58, 59, 60, 61, 62, 63, 64, 65, 66, 67, 68, 69, 70, 71, 72, 73, 74, 75, 76, 77, 78, 79, 80, 81, 82, 83, 84, 85, 86] (by decide +kernel) (by decide +kernel)
set_option maxRecDepth 20000 in
theorem gX7_part_X7_isInChain : GoodIn wsX7_part (wsV RX7 190 RX7 yX7_isInChain wsX7_isInChain) := goodIn_app (goodIn_of _ (by decide +kernel)) ggX7_part_X7_isInChain
set_option maxRecDepth 20000 in
theorem ggX7_part_X7_widths : GoodIn wsX7_part wsX7_widths := goodIn_r _ [46, 36, 38, 47, 48, 49, 5, 50, 51, 52, 53, 54, 55, 56, 57, 58, 59, 60, 61, 62, 63, 64, 65, 66, 67, 68, 69, 70, 71, 72, 73, 74, 75, 76, 77, 78, 79, 80, 81, 82, 83, 84, 85, 86] (by decide +kernel) (by decide +kernel)
set_option maxRecDepth 20000 in
theorem gX7_part_X7_widths : GoodIn wsX7_part (wsV RX7 193 RX7 yX7_widths wsX7_widths) := goodIn_app (goodIn_of _ (by decide +kernel)) ggX7_part_X7_widths
set_option maxRecDepth 20000 in
theorem ggX7_part_X7_width : GoodIn wsX7_part wsX7_width := goodIn_r _ [50, 51, 52, 53, 54, 55, 56, 57, 58, 59, 60, 61, 62, 63, 64, 65, 66, 67, 68, 69, 70, 71, 72, 73, 74, 75, 76, 77, 78, 79, 80, 81, 82, 83, 84, 85, 86] (by decide +kernel) (by decide +kernel)
set_option maxRecDepth 20000 in
theorem gX7_part_X7_width : GoodIn wsX7_part (wsV RX7 94 RX7 yX7_width wsX7_width) := goodIn_app (goodIn_of _ (by decide +kernel)) ggX7_part_X7_width
theorem dX7_part_0 : decode cX7_part 0 = .ok (.aload_n 0, 1) := by decide +kernel
theorem dX7_part_1 : decode cX7_part 1 = .ok (.aload_n 0, 1) := by decide +kernel
theorem dX7_part_2 : decode cX7_part 2 = .ok (.iload_n 1, 1) := by decide +kernel
theorem dX7_part_3 : decode cX7_part 3 = .ok (.iload_n 2, 1) := by decide +kernel
theorem dX7_part_4 : decode cX7_part 4 = .ok (.invokevirtual 162, 3) := by decide +kernel
theorem dX7_part_7 : decode cX7_part 7 = .ok (.ifCond .eq 11, 3) := by decide +kernel
theorem dX7_part_10 : decode cX7_part 10 = .ok (.aload_n 0, 1) := by decide +kernel
theorem dX7_part_11 : decode cX7_part 11 = .ok (.iload_n 3, 1) := by decide +kernel
theorem dX7_part_12 : decode cX7_part 12 = .ok (.invokevirtual 91, 3) := by decide +kernel
theorem dX7_part_15 : decode cX7_part 15 = .ok (.ifCond .ne 7, 3) := by decide +kernel
theorem dX7_part_18 : decode cX7_part 18 = .ok (.iconst 1, 1) := by decide +kernel
theorem dX7_part_19 : decode cX7_part 19 = .ok (.goto 17, 3) := by decide +kernel
theorem dX7_part_22 : decode cX7_part 22 = .ok (.aload_n 0, 1) := by decide +kernel
theorem dX7_part_23 : decode cX7_part 23 = .ok (.iload_n 1, 1) := by decide +kernel
theorem dX7_part_24 : decode cX7_part 24 = .ok (.iload_n 2, 1) := by decide +kernel
theorem dX7_part_25 : decode cX7_part 25 = .ok (.invokevirtual 168, 3) := by decide +kernel
theorem dX7_part_28 : decode cX7_part 28 = .ok (.ifCond .eq 7, 3) := by decide +kernel
theorem dX7_part_31 : decode cX7_part 31 = .ok (.iconst 0, 1) := by decide +kernel
theorem dX7_part_32 : decode cX7_part 32 = .ok (.goto 4, 3) := by decide +kernel
theorem dX7_part_35 : decode cX7_part 35 = .ok (.iconst 2, 1) := by decide +kernel
theorem dX7_part_36 : decode cX7_part 36 = .ok (.putfield 67, 3) := by decide +kernel
theorem dX7_part_39 : decode cX7_part 39 = .ok (.aload_n 0, 1) := by decide +kernel
theorem dX7_part_40 : decode cX7_part 40 = .ok (.getfield 67, 3) := by decide +kernel
theorem dX7_part_43 : decode cX7_part 43 = .ok (.ifCond .gt 18, 3) := by decide +kernel
theorem dX7_part_46 : decode cX7_part 46 = .ok (.aload_n 0, 1) := by decide +kernel
theorem dX7_part_47 : decode cX7_part 47 = .ok (.iload_n 3, 1) := by decide +kernel
theorem dX7_part_48 : decode cX7_part 48 = .ok (.invokevirtual 190, 3) := by decide +kernel
theorem dX7_part_51 : decode cX7_part 51 = .ok (.ifCond .eq 10, 3) := by decide +kernel
theorem dX7_part_54 : decode cX7_part 54 = .ok (.aload_n 0, 1) := by decide +kernel
theorem dX7_part_55 : decode cX7_part 55 = .ok (.invokevirtual 193, 3) := by decide +kernel
theorem dX7_part_58 : decode cX7_part 58 = .ok (.ifCond .ne 5, 3) := by decide +kernel
theorem dX7_part_61 : decode cX7_part 61 = .ok (.dconst 0, 1) := by decide +kernel
theorem dX7_part_62 : decode cX7_part 62 = .ok (.dreturn, 1) := by decide +kernel
theorem dX7_part_63 : decode cX7_part 63 = .ok (.aload_n 0, 1) := by decide +kernel
theorem dX7_part_64 : decode cX7_part 64 = .ok (.iload_n 3, 1) := by decide +kernel
theorem dX7_part_65 : decode cX7_part 65 = .ok (.invokevirtual 94, 3) := by decide +kernel
theorem dX7_part_68 : decode cX7_part 68 = .ok (.i2d, 1) := by decide +kernel
theorem dX7_part_69 : decode cX7_part 69 = .ok (.aload_n 0, 1) := by decide +kernel
theorem dX7_part_70 : decode cX7_part 70 = .ok (.invokevirtual 193, 3) := by decide +kernel
theorem dX7_part_73 : decode cX7_part 73 = .ok (.i2d, 1) := by decide +kernel
theorem dX7_part_74 : decode cX7_part 74 = .ok (.ddiv, 1) := by decide +kernel
theorem dX7_part_75 : decode cX7_part 75 = .ok (.dreturn, 1) := by decide +kernel
set_option maxRecDepth 20000 in
theorem ggX7_misfit_X7_joinAll : GoodIn wsX7_misfit wsX7_joinAll := goodIn_r _ [11, 12, 13, 14, 3, 4, 1, 37, 38, 39, 40, 41, 42, 43, 44, 45, 46, 47, 48, 49, 50, 51, 52, 53, 54, 55, 56, 57, 58, 59, 60, 61, 62, 63, 64, 65, 66, 67, 68, 69, 70] (by decide +kernel) (by decide +kernel)
set_option maxRecDepth 20000 in
theorem gX7_misfit_X7_joinAll : GoodIn wsX7_misfit (wsV RX7 156 RX7 yX7_joinAll wsX7_joinAll) := goodIn_app (goodIn_of _ (by decide +kernel)) ggX7_misfit_X7_joinAll
set_option maxRecDepth 20000 in
theorem ggX7_misfit_X7_isDimension : GoodIn wsX7_misfit wsX7_isDimension := goodIn_r _ [18, 14, 19, 20, 10, 21, 37, 38, 39, 40, 41, 42, 43, 44, 45, 46, 47, 48, 49, 50, 51, 52, 53, 54, 55, 56, 57, 58, 59, 60, 61, 62, 63, 64, 65, 66, 67, 68, 69, 70] (by decide +kernel) (by decide +kernel)
set_option maxRecDepth 20000 in
theorem gX7_misfit_X7_isDimension : GoodIn wsX7_misfit (wsV RX7 91 RX7 yX7_isDimension wsX7_isDimension) := goodIn_app (goodIn_of _ (by decide +kernel)) ggX7_misfit_X7_isDimension
set_option maxRecDepth 20000 in
theorem ggX7_misfit_X7_layChain : GoodIn wsX7_misfit wsX7_layChain := goodIn_r _ [25, 26, 13, 12, 27, 14, 1, 3, 4, 28, 37, 38, 39, 40, 41, 42, 43, 44, 45, 46, 47, 48, 49, 50, 51, 52, 53, 54, 55, 56, 57, 58, 59, 60, 61, 62, 63, 64, 65, 66, 67, 68, 69, 70] (by decide +kernel) (by decide +kernel)
set_option maxRecDepth 20000 in
theorem gX7_misfit_X7_layChain : GoodIn wsX7_misfit (wsV RX7 165 RX7 yX7_layChain wsX7_layChain) := goodIn_app (goodIn_of _ (by decide +kernel)) ggX7_misfit_X7_layChain
set_option maxRecDepth 20000 in
theorem ggX7_misfit_X7_addUp : GoodIn wsX7_misfit wsX7_addUp := goodIn_r _ [32, 6, 33, 34, 26, 28, 3, 5, 35, 36, 4, 37, 38, 39, 40, 41, 42, 43, 44, 45, 46, 47, 48, 49, 50, 51, 52, 53, 54, 55, 56, 57, 58, 59, 60, 61, 62, 63, 64, 65, 66, 67, 68, 69, 70] (by decide +kernel) (by decide +kernel)
set_option maxRecDepth 20000 in
theorem gX7_misfit_X7_addUp : GoodIn wsX7_misfit (wsV RX7 180 RX7 yX7_addUp wsX7_addUp) := goodIn_app (goodIn_of _ (by decide +kernel)) ggX7_misfit_X7_addUp
theorem dX7_misfit_0 : decode cX7_misfit 0 = .ok (.aload_n 0, 1) := by decide +kernel
theorem dX7_misfit_1 : decode cX7_misfit 1 = .ok (.invokevirtual 156, 3) := by decide +kernel
theorem dX7_misfit_4 : decode cX7_misfit 4 = .ok (.aload_n 0, 1) := by decide +kernel
theorem dX7_misfit_5 : decode cX7_misfit 5 = .ok (.aload_n 0, 1) := by decide +kernel
theorem dX7_misfit_6 : decode cX7_misfit 6 = .ok (.iload_n 1, 1) := by decide +kernel
theorem dX7_misfit_7 : decode cX7_misfit 7 = .ok (.invokevirtual 91, 3) := by decide +kernel
theorem dX7_misfit_10 : decode cX7_misfit 10 = .ok (.ifCond .ne 7, 3) := by decide +kernel
theorem dX7_misfit_13 : decode cX7_misfit 13 = .ok (.iconst 1, 1) := by decide +kernel
theorem dX7_misfit_14 : decode cX7_misfit 14 = .ok (.goto 17, 3) := by decide +kernel
theorem dX7_misfit_17 : decode cX7_misfit 17 = .ok (.aload_n 0, 1) := by decide +kernel
theorem dX7_misfit_18 : decode cX7_misfit 18 = .ok (.getfield 50, 3) := by decide +kernel
theorem dX7_misfit_21 : decode cX7_misfit 21 = .ok (.iload_n 1, 1) := by decide +kernel
theorem dX7_misfit_22 : decode cX7_misfit 22 = .ok (.baload, 1) := by decide +kernel
theorem dX7_misfit_23 : decode cX7_misfit 23 = .ok (.ifCond .eq 7, 3) := by decide +kernel
theorem dX7_misfit_26 : decode cX7_misfit 26 = .ok (.iconst 0, 1) := by decide +kernel
theorem dX7_misfit_27 : decode cX7_misfit 27 = .ok (.goto 4, 3) := by decide +kernel
theorem dX7_misfit_30 : decode cX7_misfit 30 = .ok (.iconst 2, 1) := by decide +kernel
theorem dX7_misfit_31 : decode cX7_misfit 31 = .ok (.putfield 67, 3) := by decide +kernel
theorem dX7_misfit_34 : decode cX7_misfit 34 = .ok (.aload_n 0, 1) := by decide +kernel
theorem dX7_misfit_35 : decode cX7_misfit 35 = .ok (.getfield 67, 3) := by decide +kernel
theorem dX7_misfit_38 : decode cX7_misfit 38 = .ok (.ifCond .le 5, 3) := by decide +kernel
theorem dX7_misfit_41 : decode cX7_misfit 41 = .ok (.iconst 0, 1) := by decide +kernel
theorem dX7_misfit_42 : decode cX7_misfit 42 = .ok (.ireturn, 1) := by decide +kernel
theorem dX7_misfit_43 : decode cX7_misfit 43 = .ok (.aload_n 0, 1) := by decide +kernel
theorem dX7_misfit_44 : decode cX7_misfit 44 = .ok (.aload_n 0, 1) := by decide +kernel
theorem dX7_misfit_45 : decode cX7_misfit 45 = .ok (.getfield 13, 3) := by decide +kernel
theorem dX7_misfit_48 : decode cX7_misfit 48 = .ok (.iload_n 1, 1) := by decide +kernel
theorem dX7_misfit_49 : decode cX7_misfit 49 = .ok (.iaload, 1) := by decide +kernel
theorem dX7_misfit_50 : decode cX7_misfit 50 = .ok (.aload_n 0, 1) := by decide +kernel
theorem dX7_misfit_51 : decode cX7_misfit 51 = .ok (.getfield 17, 3) := by decide +kernel
theorem dX7_misfit_54 : decode cX7_misfit 54 = .ok (.iload_n 1, 1) := by decide +kernel
theorem dX7_misfit_55 : decode cX7_misfit 55 = .ok (.iaload, 1) := by decide +kernel
theorem dX7_misfit_56 : decode cX7_misfit 56 = .ok (.invokevirtual 165, 3) := by decide +kernel
theorem dX7_misfit_59 : decode cX7_misfit 59 = .ok (.istore_n 2, 1) := by decide +kernel
theorem dX7_misfit_60 : decode cX7_misfit 60 = .ok (.aload_n 0, 1) := by decide +kernel
theorem dX7_misfit_61 : decode cX7_misfit 61 = .ok (.aload_n 0, 1) := by decide +kernel
theorem dX7_misfit_62 : decode cX7_misfit 62 = .ok (.getfield 13, 3) := by decide +kernel
theorem dX7_misfit_65 : decode cX7_misfit 65 = .ok (.iload_n 1, 1) := by decide +kernel
theorem dX7_misfit_66 : decode cX7_misfit 66 = .ok (.iaload, 1) := by decide +kernel
theorem dX7_misfit_67 : decode cX7_misfit 67 = .ok (.invokevirtual 180, 3) := by decide +kernel
theorem dX7_misfit_70 : decode cX7_misfit 70 = .ok (.iload_n 2, 1) := by decide +kernel
theorem dX7_misfit_71 : decode cX7_misfit 71 = .ok (.ifCond .eq 17, 3) := by decide +kernel
theorem dX7_misfit_74 : decode cX7_misfit 74 = .ok (.aload_n 0, 1) := by decide +kernel
theorem dX7_misfit_75 : decode cX7_misfit 75 = .ok (.getfield 20, 3) := by decide +kernel
theorem dX7_misfit_78 : decode cX7_misfit 78 = .ok (.iload_n 1, 1) := by decide +kernel
theorem dX7_misfit_79 : decode cX7_misfit 79 = .ok (.iaload, 1) := by decide +kernel
theorem dX7_misfit_80 : decode cX7_misfit 80 = .ok (.aload_n 0, 1) := by decide +kernel
theorem dX7_misfit_81 : decode cX7_misfit 81 = .ok (.getfield 171, 3) := by decide +kernel
theorem dX7_misfit_84 : decode cX7_misfit 84 = .ok (.isub, 1) := by decide +kernel
theorem dX7_misfit_85 : decode cX7_misfit 85 = .ok (.goto 4, 3) := by decide +kernel
theorem dX7_misfit_88 : decode cX7_misfit 88 = .ok (.iconst 0, 1) := by decide +kernel
theorem dX7_misfit_89 : decode cX7_misfit 89 = .ok (.ireturn, 1) := by decide +kernel
set_option maxRecDepth 20000 in
theorem ggX7_contradictionsNow_X7_joinAll : GoodIn wsX7_contradictionsNow wsX7_joinAll := goodIn_r _ [14, 15, 16, 1, 3, 4, 2, 29, 30, 31, 32, 33, 34, 35, 36, 37, 38, 39, 40, 41, 42, 43, 44, 45, 46, 47, 48, 49, 50, 51, 52, 53, 54, 55, 56, 57, 58, 59, 60, 61, 62] (by decide +kernel) (by decide +kernel)
set_option maxRecDepth 20000 in
theorem gX7_contradictionsNow_X7_joinAll : GoodIn wsX7_contradictionsNow (wsV RX7 156 RX7 yX7_joinAll wsX7_joinAll) := goodIn_app (goodIn_of _ (by decide +kernel)) ggX7_contradictionsNow_X7_joinAll
set_option maxRecDepth 20000 in
theorem ggX7_contradictionsNow_X7_layChain : GoodIn wsX7_contradictionsNow wsX7_layChain := goodIn_r _ [20, 21, 16, 15, 22, 1, 2, 3, 4, 23, 29, 30, 31, 32, 33, 34, 35, 36, 37, 38, 39, 40, 41, 42, 43, 44, 45, 46, 47, 48, 49, 50, 51, 52, 53, 54, 55, 56, 57, 58, 59, 60, 61, 62] (by decide +kernel) (by decide +kernel)
set_option maxRecDepth 20000 in
theorem gX7_contradictionsNow_X7_layChain : GoodIn wsX7_contradictionsNow (wsV RX7 165 RX7 yX7_layChain wsX7_layChain) := goodIn_app (goodIn_of _ (by decide +kernel)) ggX7_contradictionsNow_X7_layChain
set_option maxRecDepth 20000 in
theorem ggX7_contradictionsNow_X7_addUp : GoodIn wsX7_contradictionsNow wsX7_addUp := goodIn_r _ [27, 28, 7, 9, 21, 23, 3, 5, 8, 6, 4, 29, 30, 31, 32, 33, 34, 35, 36, 37, 38, 39, 40, 41, 42, 43, 44, 45, 46, 47, 48, 49, 50, 51, 52, 53, 54, 55, 56, 57, 58, 59, 60, 61, 62] (by decide +kernel) (by decide +kernel)
set_option maxRecDepth 20000 in
theorem gX7_contradictionsNow_X7_addUp : GoodIn wsX7_contradictionsNow (wsV RX7 180 RX7 yX7_addUp wsX7_addUp) := goodIn_app (goodIn_of _ (by decide +kernel)) ggX7_contradictionsNow_X7_addUp
theorem dX7_contradictionsNow_0 : decode cX7_contradictionsNow 0 = .ok (.aload_n 0, 1) := by decide +kernel
theorem dX7_contradictionsNow_1 : decode cX7_contradictionsNow 1 = .ok (.invokevirtual 156, 3) := by decide +kernel
theorem dX7_contradictionsNow_4 : decode cX7_contradictionsNow 4 = .ok (.iconst 0, 1) := by decide +kernel
theorem dX7_contradictionsNow_5 : decode cX7_contradictionsNow 5 = .ok (.istore_n 1, 1) := by decide +kernel
theorem dX7_contradictionsNow_6 : decode cX7_contradictionsNow 6 = .ok (.iconst 0, 1) := by decide +kernel
theorem dX7_contradictionsNow_7 : decode cX7_contradictionsNow 7 = .ok (.istore_n 2, 1) := by decide +kernel
theorem dX7_contradictionsNow_8 : decode cX7_contradictionsNow 8 = .ok (.iload_n 2, 1) := by decide +kernel
theorem dX7_contradictionsNow_9 : decode cX7_contradictionsNow 9 = .ok (.aload_n 0, 1) := by decide +kernel
theorem dX7_contradictionsNow_10 : decode cX7_contradictionsNow 10 = .ok (.getfield 74, 3) := by decide +kernel
theorem dX7_contradictionsNow_13 : decode cX7_contradictionsNow 13 = .ok (.if_icmp .ge 95, 3) := by decide +kernel
theorem dX7_contradictionsNow_16 : decode cX7_contradictionsNow 16 = .ok (.aload_n 0, 1) := by decide +kernel
theorem dX7_contradictionsNow_17 : decode cX7_contradictionsNow 17 = .ok (.getfield 50, 3) := by decide +kernel
theorem dX7_contradictionsNow_20 : decode cX7_contradictionsNow 20 = .ok (.iload_n 2, 1) := by decide +kernel
theorem dX7_contradictionsNow_21 : decode cX7_contradictionsNow 21 = .ok (.baload, 1) := by decide +kernel
theorem dX7_contradictionsNow_22 : decode cX7_contradictionsNow 22 = .ok (.ifCond .eq 80, 3) := by decide +kernel
theorem dX7_contradictionsNow_25 : decode cX7_contradictionsNow 25 = .ok (.aload_n 0, 1) := by decide +kernel
theorem dX7_contradictionsNow_26 : decode cX7_contradictionsNow 26 = .ok (.aload_n 0, 1) := by decide +kernel
theorem dX7_contradictionsNow_27 : decode cX7_contradictionsNow 27 = .ok (.getfield 13, 3) := by decide +kernel
theorem dX7_contradictionsNow_30 : decode cX7_contradictionsNow 30 = .ok (.iload_n 2, 1) := by decide +kernel
theorem dX7_contradictionsNow_31 : decode cX7_contradictionsNow 31 = .ok (.iaload, 1) := by decide +kernel
theorem dX7_contradictionsNow_32 : decode cX7_contradictionsNow 32 = .ok (.aload_n 0, 1) := by decide +kernel
theorem dX7_contradictionsNow_33 : decode cX7_contradictionsNow 33 = .ok (.getfield 17, 3) := by decide +kernel
theorem dX7_contradictionsNow_36 : decode cX7_contradictionsNow 36 = .ok (.iload_n 2, 1) := by decide +kernel
theorem dX7_contradictionsNow_37 : decode cX7_contradictionsNow 37 = .ok (.iaload, 1) := by decide +kernel
theorem dX7_contradictionsNow_38 : decode cX7_contradictionsNow 38 = .ok (.invokevirtual 165, 3) := by decide +kernel
theorem dX7_contradictionsNow_41 : decode cX7_contradictionsNow 41 = .ok (.ifCond .eq 61, 3) := by decide +kernel
theorem dX7_contradictionsNow_44 : decode cX7_contradictionsNow 44 = .ok (.aload_n 0, 1) := by decide +kernel
theorem dX7_contradictionsNow_45 : decode cX7_contradictionsNow 45 = .ok (.aload_n 0, 1) := by decide +kernel
theorem dX7_contradictionsNow_46 : decode cX7_contradictionsNow 46 = .ok (.getfield 13, 3) := by decide +kernel
theorem dX7_contradictionsNow_49 : decode cX7_contradictionsNow 49 = .ok (.iload_n 2, 1) := by decide +kernel
theorem dX7_contradictionsNow_50 : decode cX7_contradictionsNow 50 = .ok (.iaload, 1) := by decide +kernel
theorem dX7_contradictionsNow_51 : decode cX7_contradictionsNow 51 = .ok (.invokevirtual 180, 3) := by decide +kernel
theorem dX7_contradictionsNow_54 : decode cX7_contradictionsNow 54 = .ok (.iload_n 1, 1) := by decide +kernel
theorem dX7_contradictionsNow_55 : decode cX7_contradictionsNow 55 = .ok (.aload_n 0, 1) := by decide +kernel
theorem dX7_contradictionsNow_56 : decode cX7_contradictionsNow 56 = .ok (.getfield 20, 3) := by decide +kernel
theorem dX7_contradictionsNow_59 : decode cX7_contradictionsNow 59 = .ok (.iload_n 2, 1) := by decide +kernel
theorem dX7_contradictionsNow_60 : decode cX7_contradictionsNow 60 = .ok (.iaload, 1) := by decide +kernel
theorem dX7_contradictionsNow_61 : decode cX7_contradictionsNow 61 = .ok (.aload_n 0, 1) := by decide +kernel
theorem dX7_contradictionsNow_62 : decode cX7_contradictionsNow 62 = .ok (.getfield 26, 3) := by decide +kernel
theorem dX7_contradictionsNow_65 : decode cX7_contradictionsNow 65 = .ok (.iload_n 2, 1) := by decide +kernel
theorem dX7_contradictionsNow_66 : decode cX7_contradictionsNow 66 = .ok (.iaload, 1) := by decide +kernel
theorem dX7_contradictionsNow_67 : decode cX7_contradictionsNow 67 = .ok (.iadd, 1) := by decide +kernel
theorem dX7_contradictionsNow_68 : decode cX7_contradictionsNow 68 = .ok (.aload_n 0, 1) := by decide +kernel
theorem dX7_contradictionsNow_69 : decode cX7_contradictionsNow 69 = .ok (.getfield 174, 3) := by decide +kernel
theorem dX7_contradictionsNow_72 : decode cX7_contradictionsNow 72 = .ok (.if_icmp .lt 23, 3) := by decide +kernel
theorem dX7_contradictionsNow_75 : decode cX7_contradictionsNow 75 = .ok (.aload_n 0, 1) := by decide +kernel
theorem dX7_contradictionsNow_76 : decode cX7_contradictionsNow 76 = .ok (.getfield 20, 3) := by decide +kernel
theorem dX7_contradictionsNow_79 : decode cX7_contradictionsNow 79 = .ok (.iload_n 2, 1) := by decide +kernel
theorem dX7_contradictionsNow_80 : decode cX7_contradictionsNow 80 = .ok (.iaload, 1) := by decide +kernel
theorem dX7_contradictionsNow_81 : decode cX7_contradictionsNow 81 = .ok (.aload_n 0, 1) := by decide +kernel
theorem dX7_contradictionsNow_82 : decode cX7_contradictionsNow 82 = .ok (.getfield 23, 3) := by decide +kernel
theorem dX7_contradictionsNow_85 : decode cX7_contradictionsNow 85 = .ok (.iload_n 2, 1) := by decide +kernel
theorem dX7_contradictionsNow_86 : decode cX7_contradictionsNow 86 = .ok (.iaload, 1) := by decide +kernel
theorem dX7_contradictionsNow_87 : decode cX7_contradictionsNow 87 = .ok (.iadd, 1) := by decide +kernel
theorem dX7_contradictionsNow_88 : decode cX7_contradictionsNow 88 = .ok (.aload_n 0, 1) := by decide +kernel
theorem dX7_contradictionsNow_89 : decode cX7_contradictionsNow 89 = .ok (.getfield 177, 3) := by decide +kernel
theorem dX7_contradictionsNow_92 : decode cX7_contradictionsNow 92 = .ok (.if_icmp .le 7, 3) := by decide +kernel
theorem dX7_contradictionsNow_95 : decode cX7_contradictionsNow 95 = .ok (.iconst 1, 1) := by decide +kernel
theorem dX7_contradictionsNow_96 : decode cX7_contradictionsNow 96 = .ok (.goto 4, 3) := by decide +kernel
theorem dX7_contradictionsNow_99 : decode cX7_contradictionsNow 99 = .ok (.iconst 0, 1) := by decide +kernel
theorem dX7_contradictionsNow_100 : decode cX7_contradictionsNow 100 = .ok (.iadd, 1) := by decide +kernel
theorem dX7_contradictionsNow_101 : decode cX7_contradictionsNow 101 = .ok (.istore_n 1, 1) := by decide +kernel
theorem dX7_contradictionsNow_102 : decode cX7_contradictionsNow 102 = .ok (.iinc 2 1, 3) := by decide +kernel
theorem dX7_contradictionsNow_105 : decode cX7_contradictionsNow 105 = .ok (.goto (-97), 3) := by decide +kernel
theorem dX7_contradictionsNow_108 : decode cX7_contradictionsNow 108 = .ok (.iload_n 1, 1) := by decide +kernel
theorem dX7_contradictionsNow_109 : decode cX7_contradictionsNow 109 = .ok (.ireturn, 1) := by decide +kernel
set_option maxRecDepth 20000 in
theorem ggX7_contradictions_X7_contradictionsNow : GoodIn wsX7_contradictions wsX7_contradictionsNow := goodIn_r _ [6, 7, 8, 9, 10, 11, 12, 13, 14, 15, 16, 17, 18, 5, 19, 20, 21, 22, 23, 24, 25, 26, 27, 28, 29, 30, 31, 32, 33, 34, 35, 36, 37, 38, 39, 40, 41, 42, 43, 44, 45, 46, 47, 48, 49, 50, 51, 52, 53, 54, 55, 56, 57, 58, 59, 60, 61, 62, 63, 64, 65, 66, 67] (by decide +kernel) (by decide +kernel)
set_option maxRecDepth 20000 in
theorem gX7_contradictions_X7_contradictionsNow : GoodIn wsX7_contradictions (wsV RX7 196 RX7 yX7_contradictionsNow wsX7_contradictionsNow) := goodIn_app (goodIn_of _ (by decide +kernel)) ggX7_contradictions_X7_contradictionsNow
theorem dX7_contradictions_0 : decode cX7_contradictions 0 = .ok (.aload_n 0, 1) := by decide +kernel
theorem dX7_contradictions_1 : decode cX7_contradictions 1 = .ok (.iconst 0, 1) := by decide +kernel
theorem dX7_contradictions_2 : decode cX7_contradictions 2 = .ok (.putfield 67, 3) := by decide +kernel
theorem dX7_contradictions_5 : decode cX7_contradictions 5 = .ok (.aload_n 0, 1) := by decide +kernel
theorem dX7_contradictions_6 : decode cX7_contradictions 6 = .ok (.invokevirtual 196, 3) := by decide +kernel
theorem dX7_contradictions_9 : decode cX7_contradictions 9 = .ok (.ireturn, 1) := by decide +kernel
theorem dX7_bound_0 : decode cX7_bound 0 = .ok (.lload_n 3, 1) := by decide +kernel
theorem dX7_bound_1 : decode cX7_bound 1 = .ok (.aload_n 0, 1) := by decide +kernel
theorem dX7_bound_2 : decode cX7_bound 2 = .ok (.getfield 60, 3) := by decide +kernel
theorem dX7_bound_5 : decode cX7_bound 5 = .ok (.bipush 12, 2) := by decide +kernel
theorem dX7_bound_7 : decode cX7_bound 7 = .ok (.iload_n 1, 1) := by decide +kernel
theorem dX7_bound_8 : decode cX7_bound 8 = .ok (.imul, 1) := by decide +kernel
theorem dX7_bound_9 : decode cX7_bound 9 = .ok (.iload_n 2, 1) := by decide +kernel
theorem dX7_bound_10 : decode cX7_bound 10 = .ok (.iadd, 1) := by decide +kernel
theorem dX7_bound_11 : decode cX7_bound 11 = .ok (.laload, 1) := by decide +kernel
theorem dX7_bound_12 : decode cX7_bound 12 = .ok (.lcmp, 1) := by decide +kernel
theorem dX7_bound_13 : decode cX7_bound 13 = .ok (.ifCond .ge 15, 3) := by decide +kernel
theorem dX7_bound_16 : decode cX7_bound 16 = .ok (.aload_n 0, 1) := by decide +kernel
theorem dX7_bound_17 : decode cX7_bound 17 = .ok (.getfield 60, 3) := by decide +kernel
theorem dX7_bound_20 : decode cX7_bound 20 = .ok (.bipush 12, 2) := by decide +kernel
theorem dX7_bound_22 : decode cX7_bound 22 = .ok (.iload_n 1, 1) := by decide +kernel
theorem dX7_bound_23 : decode cX7_bound 23 = .ok (.imul, 1) := by decide +kernel
theorem dX7_bound_24 : decode cX7_bound 24 = .ok (.iload_n 2, 1) := by decide +kernel
theorem dX7_bound_25 : decode cX7_bound 25 = .ok (.iadd, 1) := by decide +kernel
theorem dX7_bound_26 : decode cX7_bound 26 = .ok (.lload_n 3, 1) := by decide +kernel
theorem dX7_bound_27 : decode cX7_bound 27 = .ok (.lastore, 1) := by decide +kernel
theorem dX7_bound_28 : decode cX7_bound 28 = .ok (.return_, 1) := by decide +kernel
set_option maxRecDepth 20000 in
theorem ggX7_layBounds_X7_bound : GoodIn wsX7_layBounds wsX7_bound := goodIn_r _ [14, 1, 15, 16, 17, 18, 19, 20, 21, 22, 23, 24, 25, 26, 27, 28, 29, 30, 31, 32, 33, 34, 35, 36, 37, 38, 39, 40, 41, 42, 43, 44, 45, 46, 47, 48] (by decide +kernel) (by decide +kernel)
set_option maxRecDepth 20000 in
theorem gX7_layBounds_X7_bound : GoodIn wsX7_layBounds (wsV RX7 201 RX7 yX7_bound wsX7_bound) := goodIn_app (goodIn_of _ (by decide +kernel)) ggX7_layBounds_X7_bound
theorem dX7_layBounds_0 : decode cX7_layBounds 0 = .ok (.iconst 0, 1) := by decide +kernel
theorem dX7_layBounds_1 : decode cX7_layBounds 1 = .ok (.istore_n 1, 1) := by decide +kernel
theorem dX7_layBounds_2 : decode cX7_layBounds 2 = .ok (.iload_n 1, 1) := by decide +kernel
theorem dX7_layBounds_3 : decode cX7_layBounds 3 = .ok (.bipush 12, 2) := by decide +kernel
theorem dX7_layBounds_5 : decode cX7_layBounds 5 = .ok (.if_icmp .ge 46, 3) := by decide +kernel
theorem dX7_layBounds_8 : decode cX7_layBounds 8 = .ok (.iconst 0, 1) := by decide +kernel
theorem dX7_layBounds_9 : decode cX7_layBounds 9 = .ok (.istore_n 2, 1) := by decide +kernel
theorem dX7_layBounds_10 : decode cX7_layBounds 10 = .ok (.iload_n 2, 1) := by decide +kernel
theorem dX7_layBounds_11 : decode cX7_layBounds 11 = .ok (.bipush 12, 2) := by decide +kernel
theorem dX7_layBounds_13 : decode cX7_layBounds 13 = .ok (.if_icmp .ge 32, 3) := by decide +kernel
theorem dX7_layBounds_16 : decode cX7_layBounds 16 = .ok (.aload_n 0, 1) := by decide +kernel
theorem dX7_layBounds_17 : decode cX7_layBounds 17 = .ok (.getfield 60, 3) := by decide +kernel
theorem dX7_layBounds_20 : decode cX7_layBounds 20 = .ok (.bipush 12, 2) := by decide +kernel
theorem dX7_layBounds_22 : decode cX7_layBounds 22 = .ok (.iload_n 1, 1) := by decide +kernel
theorem dX7_layBounds_23 : decode cX7_layBounds 23 = .ok (.imul, 1) := by decide +kernel
theorem dX7_layBounds_24 : decode cX7_layBounds 24 = .ok (.iload_n 2, 1) := by decide +kernel
theorem dX7_layBounds_25 : decode cX7_layBounds 25 = .ok (.iadd, 1) := by decide +kernel
theorem dX7_layBounds_26 : decode cX7_layBounds 26 = .ok (.iload_n 1, 1) := by decide +kernel
theorem dX7_layBounds_27 : decode cX7_layBounds 27 = .ok (.iload_n 2, 1) := by decide +kernel
theorem dX7_layBounds_28 : decode cX7_layBounds 28 = .ok (.if_icmp .ne 7, 3) := by decide +kernel
theorem dX7_layBounds_31 : decode cX7_layBounds 31 = .ok (.lconst 0, 1) := by decide +kernel
theorem dX7_layBounds_32 : decode cX7_layBounds 32 = .ok (.goto 6, 3) := by decide +kernel
theorem dX7_layBounds_35 : decode cX7_layBounds 35 = .ok (.ldc2_w 199, 3) := by decide +kernel
theorem dX7_layBounds_38 : decode cX7_layBounds 38 = .ok (.lastore, 1) := by decide +kernel
theorem dX7_layBounds_39 : decode cX7_layBounds 39 = .ok (.iinc 2 1, 3) := by decide +kernel
theorem dX7_layBounds_42 : decode cX7_layBounds 42 = .ok (.goto (-32), 3) := by decide +kernel
theorem dX7_layBounds_45 : decode cX7_layBounds 45 = .ok (.iinc 1 1, 3) := by decide +kernel
theorem dX7_layBounds_48 : decode cX7_layBounds 48 = .ok (.goto (-46), 3) := by decide +kernel
theorem dX7_layBounds_51 : decode cX7_layBounds 51 = .ok (.iconst 0, 1) := by decide +kernel
theorem dX7_layBounds_52 : decode cX7_layBounds 52 = .ok (.istore_n 1, 1) := by decide +kernel
theorem dX7_layBounds_53 : decode cX7_layBounds 53 = .ok (.iload_n 1, 1) := by decide +kernel
theorem dX7_layBounds_54 : decode cX7_layBounds 54 = .ok (.aload_n 0, 1) := by decide +kernel
theorem dX7_layBounds_55 : decode cX7_layBounds 55 = .ok (.getfield 74, 3) := by decide +kernel
theorem dX7_layBounds_58 : decode cX7_layBounds 58 = .ok (.if_icmp .ge 70, 3) := by decide +kernel
theorem dX7_layBounds_61 : decode cX7_layBounds 61 = .ok (.aload_n 0, 1) := by decide +kernel
theorem dX7_layBounds_62 : decode cX7_layBounds 62 = .ok (.aload_n 0, 1) := by decide +kernel
theorem dX7_layBounds_63 : decode cX7_layBounds 63 = .ok (.getfield 13, 3) := by decide +kernel
theorem dX7_layBounds_66 : decode cX7_layBounds 66 = .ok (.iload_n 1, 1) := by decide +kernel
theorem dX7_layBounds_67 : decode cX7_layBounds 67 = .ok (.iaload, 1) := by decide +kernel
theorem dX7_layBounds_68 : decode cX7_layBounds 68 = .ok (.aload_n 0, 1) := by decide +kernel
theorem dX7_layBounds_69 : decode cX7_layBounds 69 = .ok (.getfield 17, 3) := by decide +kernel
theorem dX7_layBounds_72 : decode cX7_layBounds 72 = .ok (.iload_n 1, 1) := by decide +kernel
theorem dX7_layBounds_73 : decode cX7_layBounds 73 = .ok (.iaload, 1) := by decide +kernel
theorem dX7_layBounds_74 : decode cX7_layBounds 74 = .ok (.aload_n 0, 1) := by decide +kernel
theorem dX7_layBounds_75 : decode cX7_layBounds 75 = .ok (.getfield 20, 3) := by decide +kernel
theorem dX7_layBounds_78 : decode cX7_layBounds 78 = .ok (.iload_n 1, 1) := by decide +kernel
theorem dX7_layBounds_79 : decode cX7_layBounds 79 = .ok (.iaload, 1) := by decide +kernel
theorem dX7_layBounds_80 : decode cX7_layBounds 80 = .ok (.aload_n 0, 1) := by decide +kernel
theorem dX7_layBounds_81 : decode cX7_layBounds 81 = .ok (.getfield 26, 3) := by decide +kernel
theorem dX7_layBounds_84 : decode cX7_layBounds 84 = .ok (.iload_n 1, 1) := by decide +kernel
theorem dX7_layBounds_85 : decode cX7_layBounds 85 = .ok (.iaload, 1) := by decide +kernel
theorem dX7_layBounds_86 : decode cX7_layBounds 86 = .ok (.iadd, 1) := by decide +kernel
theorem dX7_layBounds_87 : decode cX7_layBounds 87 = .ok (.i2l, 1) := by decide +kernel
theorem dX7_layBounds_88 : decode cX7_layBounds 88 = .ok (.invokevirtual 201, 3) := by decide +kernel
theorem dX7_layBounds_91 : decode cX7_layBounds 91 = .ok (.aload_n 0, 1) := by decide +kernel
theorem dX7_layBounds_92 : decode cX7_layBounds 92 = .ok (.aload_n 0, 1) := by decide +kernel
theorem dX7_layBounds_93 : decode cX7_layBounds 93 = .ok (.getfield 17, 3) := by decide +kernel
theorem dX7_layBounds_96 : decode cX7_layBounds 96 = .ok (.iload_n 1, 1) := by decide +kernel
theorem dX7_layBounds_97 : decode cX7_layBounds 97 = .ok (.iaload, 1) := by decide +kernel
theorem dX7_layBounds_98 : decode cX7_layBounds 98 = .ok (.aload_n 0, 1) := by decide +kernel
theorem dX7_layBounds_99 : decode cX7_layBounds 99 = .ok (.getfield 13, 3) := by decide +kernel
theorem dX7_layBounds_102 : decode cX7_layBounds 102 = .ok (.iload_n 1, 1) := by decide +kernel
theorem dX7_layBounds_103 : decode cX7_layBounds 103 = .ok (.iaload, 1) := by decide +kernel
theorem dX7_layBounds_104 : decode cX7_layBounds 104 = .ok (.aload_n 0, 1) := by decide +kernel
theorem dX7_layBounds_105 : decode cX7_layBounds 105 = .ok (.getfield 20, 3) := by decide +kernel
theorem dX7_layBounds_108 : decode cX7_layBounds 108 = .ok (.iload_n 1, 1) := by decide +kernel
theorem dX7_layBounds_109 : decode cX7_layBounds 109 = .ok (.iaload, 1) := by decide +kernel
theorem dX7_layBounds_110 : decode cX7_layBounds 110 = .ok (.aload_n 0, 1) := by decide +kernel
theorem dX7_layBounds_111 : decode cX7_layBounds 111 = .ok (.getfield 23, 3) := by decide +kernel
theorem dX7_layBounds_114 : decode cX7_layBounds 114 = .ok (.iload_n 1, 1) := by decide +kernel
theorem dX7_layBounds_115 : decode cX7_layBounds 115 = .ok (.iaload, 1) := by decide +kernel
theorem dX7_layBounds_116 : decode cX7_layBounds 116 = .ok (.iadd, 1) := by decide +kernel
theorem dX7_layBounds_117 : decode cX7_layBounds 117 = .ok (.ineg, 1) := by decide +kernel
theorem dX7_layBounds_118 : decode cX7_layBounds 118 = .ok (.i2l, 1) := by decide +kernel
theorem dX7_layBounds_119 : decode cX7_layBounds 119 = .ok (.invokevirtual 201, 3) := by decide +kernel
theorem dX7_layBounds_122 : decode cX7_layBounds 122 = .ok (.iinc 1 1, 3) := by decide +kernel
theorem dX7_layBounds_125 : decode cX7_layBounds 125 = .ok (.goto (-72), 3) := by decide +kernel
theorem dX7_layBounds_128 : decode cX7_layBounds 128 = .ok (.iconst 0, 1) := by decide +kernel
theorem dX7_layBounds_129 : decode cX7_layBounds 129 = .ok (.istore_n 1, 1) := by decide +kernel
theorem dX7_layBounds_130 : decode cX7_layBounds 130 = .ok (.iload_n 1, 1) := by decide +kernel
theorem dX7_layBounds_131 : decode cX7_layBounds 131 = .ok (.aload_n 0, 1) := by decide +kernel
theorem dX7_layBounds_132 : decode cX7_layBounds 132 = .ok (.getfield 7, 3) := by decide +kernel
theorem dX7_layBounds_135 : decode cX7_layBounds 135 = .ok (.if_icmp .ge 106, 3) := by decide +kernel
theorem dX7_layBounds_138 : decode cX7_layBounds 138 = .ok (.iconst 0, 1) := by decide +kernel
theorem dX7_layBounds_139 : decode cX7_layBounds 139 = .ok (.istore_n 2, 1) := by decide +kernel
theorem dX7_layBounds_140 : decode cX7_layBounds 140 = .ok (.iload_n 2, 1) := by decide +kernel
theorem dX7_layBounds_141 : decode cX7_layBounds 141 = .ok (.aload_n 0, 1) := by decide +kernel
theorem dX7_layBounds_142 : decode cX7_layBounds 142 = .ok (.getfield 7, 3) := by decide +kernel
theorem dX7_layBounds_145 : decode cX7_layBounds 145 = .ok (.if_icmp .ge 90, 3) := by decide +kernel
theorem dX7_layBounds_148 : decode cX7_layBounds 148 = .ok (.iconst 0, 1) := by decide +kernel
theorem dX7_layBounds_149 : decode cX7_layBounds 149 = .ok (.istore_n 3, 1) := by decide +kernel
theorem dX7_layBounds_150 : decode cX7_layBounds 150 = .ok (.iload_n 3, 1) := by decide +kernel
theorem dX7_layBounds_151 : decode cX7_layBounds 151 = .ok (.aload_n 0, 1) := by decide +kernel
theorem dX7_layBounds_152 : decode cX7_layBounds 152 = .ok (.getfield 7, 3) := by decide +kernel
theorem dX7_layBounds_155 : decode cX7_layBounds 155 = .ok (.if_icmp .ge 74, 3) := by decide +kernel
theorem dX7_layBounds_158 : decode cX7_layBounds 158 = .ok (.aload_n 0, 1) := by decide +kernel
theorem dX7_layBounds_159 : decode cX7_layBounds 159 = .ok (.getfield 60, 3) := by decide +kernel
theorem dX7_layBounds_162 : decode cX7_layBounds 162 = .ok (.bipush 12, 2) := by decide +kernel
theorem dX7_layBounds_164 : decode cX7_layBounds 164 = .ok (.iload_n 2, 1) := by decide +kernel
theorem dX7_layBounds_165 : decode cX7_layBounds 165 = .ok (.imul, 1) := by decide +kernel
theorem dX7_layBounds_166 : decode cX7_layBounds 166 = .ok (.iload_n 1, 1) := by decide +kernel
theorem dX7_layBounds_167 : decode cX7_layBounds 167 = .ok (.iadd, 1) := by decide +kernel
theorem dX7_layBounds_168 : decode cX7_layBounds 168 = .ok (.laload, 1) := by decide +kernel
theorem dX7_layBounds_169 : decode cX7_layBounds 169 = .ok (.ldc2_w 199, 3) := by decide +kernel
theorem dX7_layBounds_172 : decode cX7_layBounds 172 = .ok (.lcmp, 1) := by decide +kernel
theorem dX7_layBounds_173 : decode cX7_layBounds 173 = .ok (.ifCond .ge 50, 3) := by decide +kernel
theorem dX7_layBounds_176 : decode cX7_layBounds 176 = .ok (.aload_n 0, 1) := by decide +kernel
theorem dX7_layBounds_177 : decode cX7_layBounds 177 = .ok (.getfield 60, 3) := by decide +kernel
theorem dX7_layBounds_180 : decode cX7_layBounds 180 = .ok (.bipush 12, 2) := by decide +kernel
theorem dX7_layBounds_182 : decode cX7_layBounds 182 = .ok (.iload_n 1, 1) := by decide +kernel
theorem dX7_layBounds_183 : decode cX7_layBounds 183 = .ok (.imul, 1) := by decide +kernel
theorem dX7_layBounds_184 : decode cX7_layBounds 184 = .ok (.iload_n 3, 1) := by decide +kernel
theorem dX7_layBounds_185 : decode cX7_layBounds 185 = .ok (.iadd, 1) := by decide +kernel
theorem dX7_layBounds_186 : decode cX7_layBounds 186 = .ok (.laload, 1) := by decide +kernel
theorem dX7_layBounds_187 : decode cX7_layBounds 187 = .ok (.ldc2_w 199, 3) := by decide +kernel
theorem dX7_layBounds_190 : decode cX7_layBounds 190 = .ok (.lcmp, 1) := by decide +kernel
theorem dX7_layBounds_191 : decode cX7_layBounds 191 = .ok (.ifCond .ge 32, 3) := by decide +kernel
theorem dX7_layBounds_194 : decode cX7_layBounds 194 = .ok (.aload_n 0, 1) := by decide +kernel
theorem dX7_layBounds_195 : decode cX7_layBounds 195 = .ok (.iload_n 2, 1) := by decide +kernel
theorem dX7_layBounds_196 : decode cX7_layBounds 196 = .ok (.iload_n 3, 1) := by decide +kernel
theorem dX7_layBounds_197 : decode cX7_layBounds 197 = .ok (.aload_n 0, 1) := by decide +kernel
theorem dX7_layBounds_198 : decode cX7_layBounds 198 = .ok (.getfield 60, 3) := by decide +kernel
theorem dX7_layBounds_201 : decode cX7_layBounds 201 = .ok (.bipush 12, 2) := by decide +kernel
theorem dX7_layBounds_203 : decode cX7_layBounds 203 = .ok (.iload_n 2, 1) := by decide +kernel
theorem dX7_layBounds_204 : decode cX7_layBounds 204 = .ok (.imul, 1) := by decide +kernel
theorem dX7_layBounds_205 : decode cX7_layBounds 205 = .ok (.iload_n 1, 1) := by decide +kernel
theorem dX7_layBounds_206 : decode cX7_layBounds 206 = .ok (.iadd, 1) := by decide +kernel
theorem dX7_layBounds_207 : decode cX7_layBounds 207 = .ok (.laload, 1) := by decide +kernel
theorem dX7_layBounds_208 : decode cX7_layBounds 208 = .ok (.aload_n 0, 1) := by decide +kernel
theorem dX7_layBounds_209 : decode cX7_layBounds 209 = .ok (.getfield 60, 3) := by decide +kernel
theorem dX7_layBounds_212 : decode cX7_layBounds 212 = .ok (.bipush 12, 2) := by decide +kernel
theorem dX7_layBounds_214 : decode cX7_layBounds 214 = .ok (.iload_n 1, 1) := by decide +kernel
theorem dX7_layBounds_215 : decode cX7_layBounds 215 = .ok (.imul, 1) := by decide +kernel
theorem dX7_layBounds_216 : decode cX7_layBounds 216 = .ok (.iload_n 3, 1) := by decide +kernel
theorem dX7_layBounds_217 : decode cX7_layBounds 217 = .ok (.iadd, 1) := by decide +kernel
theorem dX7_layBounds_218 : decode cX7_layBounds 218 = .ok (.laload, 1) := by decide +kernel
theorem dX7_layBounds_219 : decode cX7_layBounds 219 = .ok (.ladd, 1) := by decide +kernel
theorem dX7_layBounds_220 : decode cX7_layBounds 220 = .ok (.invokevirtual 201, 3) := by decide +kernel
theorem dX7_layBounds_223 : decode cX7_layBounds 223 = .ok (.iinc 3 1, 3) := by decide +kernel
theorem dX7_layBounds_226 : decode cX7_layBounds 226 = .ok (.goto (-76), 3) := by decide +kernel
theorem dX7_layBounds_229 : decode cX7_layBounds 229 = .ok (.iinc 2 1, 3) := by decide +kernel
theorem dX7_layBounds_232 : decode cX7_layBounds 232 = .ok (.goto (-92), 3) := by decide +kernel
theorem dX7_layBounds_235 : decode cX7_layBounds 235 = .ok (.iinc 1 1, 3) := by decide +kernel
theorem dX7_layBounds_238 : decode cX7_layBounds 238 = .ok (.goto (-108), 3) := by decide +kernel
theorem dX7_layBounds_241 : decode cX7_layBounds 241 = .ok (.iconst 1, 1) := by decide +kernel
theorem dX7_layBounds_242 : decode cX7_layBounds 242 = .ok (.istore_n 1, 1) := by decide +kernel
theorem dX7_layBounds_243 : decode cX7_layBounds 243 = .ok (.iconst 0, 1) := by decide +kernel
theorem dX7_layBounds_244 : decode cX7_layBounds 244 = .ok (.istore_n 2, 1) := by decide +kernel
theorem dX7_layBounds_245 : decode cX7_layBounds 245 = .ok (.iload_n 2, 1) := by decide +kernel
theorem dX7_layBounds_246 : decode cX7_layBounds 246 = .ok (.aload_n 0, 1) := by decide +kernel
theorem dX7_layBounds_247 : decode cX7_layBounds 247 = .ok (.getfield 7, 3) := by decide +kernel
theorem dX7_layBounds_250 : decode cX7_layBounds 250 = .ok (.if_icmp .ge 35, 3) := by decide +kernel
theorem dX7_layBounds_253 : decode cX7_layBounds 253 = .ok (.iload_n 1, 1) := by decide +kernel
theorem dX7_layBounds_254 : decode cX7_layBounds 254 = .ok (.ifCond .eq 23, 3) := by decide +kernel
theorem dX7_layBounds_257 : decode cX7_layBounds 257 = .ok (.aload_n 0, 1) := by decide +kernel
theorem dX7_layBounds_258 : decode cX7_layBounds 258 = .ok (.getfield 60, 3) := by decide +kernel
theorem dX7_layBounds_261 : decode cX7_layBounds 261 = .ok (.bipush 12, 2) := by decide +kernel
theorem dX7_layBounds_263 : decode cX7_layBounds 263 = .ok (.iload_n 2, 1) := by decide +kernel
theorem dX7_layBounds_264 : decode cX7_layBounds 264 = .ok (.imul, 1) := by decide +kernel
theorem dX7_layBounds_265 : decode cX7_layBounds 265 = .ok (.iload_n 2, 1) := by decide +kernel
theorem dX7_layBounds_266 : decode cX7_layBounds 266 = .ok (.iadd, 1) := by decide +kernel
theorem dX7_layBounds_267 : decode cX7_layBounds 267 = .ok (.laload, 1) := by decide +kernel
theorem dX7_layBounds_268 : decode cX7_layBounds 268 = .ok (.lconst 0, 1) := by decide +kernel
theorem dX7_layBounds_269 : decode cX7_layBounds 269 = .ok (.lcmp, 1) := by decide +kernel
theorem dX7_layBounds_270 : decode cX7_layBounds 270 = .ok (.ifCond .ne 7, 3) := by decide +kernel
theorem dX7_layBounds_273 : decode cX7_layBounds 273 = .ok (.iconst 1, 1) := by decide +kernel
theorem dX7_layBounds_274 : decode cX7_layBounds 274 = .ok (.goto 4, 3) := by decide +kernel
theorem dX7_layBounds_277 : decode cX7_layBounds 277 = .ok (.iconst 0, 1) := by decide +kernel
theorem dX7_layBounds_278 : decode cX7_layBounds 278 = .ok (.istore_n 1, 1) := by decide +kernel
theorem dX7_layBounds_279 : decode cX7_layBounds 279 = .ok (.iinc 2 1, 3) := by decide +kernel
theorem dX7_layBounds_282 : decode cX7_layBounds 282 = .ok (.goto (-37), 3) := by decide +kernel
theorem dX7_layBounds_285 : decode cX7_layBounds 285 = .ok (.iload_n 1, 1) := by decide +kernel
theorem dX7_layBounds_286 : decode cX7_layBounds 286 = .ok (.ireturn, 1) := by decide +kernel
set_option maxRecDepth 20000 in
theorem ggX7_isConsistent_X7_layBounds : GoodIn wsX7_isConsistent wsX7_layBounds := goodIn_r _ [6, 7, 8, 9, 10, 11, 12, 13, 14, 15, 16, 17, 18, 5, 19, 20, 21, 22, 23, 24, 25, 26, 27, 28, 29, 30, 31, 32, 33, 34, 35, 36, 37, 38, 39, 40, 41, 42, 43, 44, 45, 46, 47, 48, 49, 50, 51, 52, 53] (by decide +kernel) (by decide +kernel)
set_option maxRecDepth 20000 in
theorem gX7_isConsistent_X7_layBounds : GoodIn wsX7_isConsistent (wsV RX7 205 RX7 yX7_layBounds wsX7_layBounds) := goodIn_app (goodIn_of _ (by decide +kernel)) ggX7_isConsistent_X7_layBounds
theorem dX7_isConsistent_0 : decode cX7_isConsistent 0 = .ok (.aload_n 0, 1) := by decide +kernel
theorem dX7_isConsistent_1 : decode cX7_isConsistent 1 = .ok (.iconst 0, 1) := by decide +kernel
theorem dX7_isConsistent_2 : decode cX7_isConsistent 2 = .ok (.putfield 67, 3) := by decide +kernel
theorem dX7_isConsistent_5 : decode cX7_isConsistent 5 = .ok (.aload_n 0, 1) := by decide +kernel
theorem dX7_isConsistent_6 : decode cX7_isConsistent 6 = .ok (.invokevirtual 205, 3) := by decide +kernel
theorem dX7_isConsistent_9 : decode cX7_isConsistent 9 = .ok (.ireturn, 1) := by decide +kernel
theorem dX7_tightNow_0 : decode cX7_tightNow 0 = .ok (.iload_n 3, 1) := by decide +kernel
theorem dX7_tightNow_1 : decode cX7_tightNow 1 = .ok (.ifCond .eq 17, 3) := by decide +kernel
theorem dX7_tightNow_4 : decode cX7_tightNow 4 = .ok (.aload_n 0, 1) := by decide +kernel
theorem dX7_tightNow_5 : decode cX7_tightNow 5 = .ok (.getfield 60, 3) := by decide +kernel
theorem dX7_tightNow_8 : decode cX7_tightNow 8 = .ok (.bipush 12, 2) := by decide +kernel
theorem dX7_tightNow_10 : decode cX7_tightNow 10 = .ok (.iload_n 1, 1) := by decide +kernel
theorem dX7_tightNow_11 : decode cX7_tightNow 11 = .ok (.imul, 1) := by decide +kernel
theorem dX7_tightNow_12 : decode cX7_tightNow 12 = .ok (.iload_n 2, 1) := by decide +kernel
theorem dX7_tightNow_13 : decode cX7_tightNow 13 = .ok (.iadd, 1) := by decide +kernel
theorem dX7_tightNow_14 : decode cX7_tightNow 14 = .ok (.laload, 1) := by decide +kernel
theorem dX7_tightNow_15 : decode cX7_tightNow 15 = .ok (.goto 15, 3) := by decide +kernel
theorem dX7_tightNow_18 : decode cX7_tightNow 18 = .ok (.aload_n 0, 1) := by decide +kernel
theorem dX7_tightNow_19 : decode cX7_tightNow 19 = .ok (.getfield 60, 3) := by decide +kernel
theorem dX7_tightNow_22 : decode cX7_tightNow 22 = .ok (.bipush 12, 2) := by decide +kernel
theorem dX7_tightNow_24 : decode cX7_tightNow 24 = .ok (.iload_n 2, 1) := by decide +kernel
theorem dX7_tightNow_25 : decode cX7_tightNow 25 = .ok (.imul, 1) := by decide +kernel
theorem dX7_tightNow_26 : decode cX7_tightNow 26 = .ok (.iload_n 1, 1) := by decide +kernel
theorem dX7_tightNow_27 : decode cX7_tightNow 27 = .ok (.iadd, 1) := by decide +kernel
theorem dX7_tightNow_28 : decode cX7_tightNow 28 = .ok (.laload, 1) := by decide +kernel
theorem dX7_tightNow_29 : decode cX7_tightNow 29 = .ok (.lneg, 1) := by decide +kernel
theorem dX7_tightNow_30 : decode cX7_tightNow 30 = .ok (.l2i, 1) := by decide +kernel
theorem dX7_tightNow_31 : decode cX7_tightNow 31 = .ok (.ireturn, 1) := by decide +kernel
set_option maxRecDepth 20000 in
theorem ggX7_tight_X7_areFaces : GoodIn wsX7_tight wsX7_areFaces := goodIn_r _ [6, 7, 8, 9, 5, 10, 11, 12, 13, 14, 52, 53, 54, 55, 56, 57, 58, 59, 60, 61, 62, 63, 64, 65, 66, 67, 68, 69, 70, 71, 72, 73, 74, 75, 76, 77, 78, 79, 80, 81, 82, 83, 84, 85] (by decide +kernel) (by decide +kernel)
set_option maxRecDepth 20000 in
theorem gX7_tight_X7_areFaces : GoodIn wsX7_tight (wsV RX7 162 RX7 yX7_areFaces wsX7_areFaces) := goodIn_app (goodIn_of _ (by decide +kernel)) ggX7_tight_X7_areFaces
set_option maxRecDepth 20000 in
theorem ggX7_tight_X7_findChain : GoodIn wsX7_tight wsX7_findChain := goodIn_r _ [18, 19, 20, 21, 5, 22, 11, 23, 24, 25, 26, 27, 2, 3, 4, 6, 7, 8, 9, 10, 12, 13, 14, 28, 29, 30, 31, 32, 33, 34, 52, 53, 54, 55, 56, 57, 58, 59, 60, 61, 62, 63, 64, 65, 66, 67, 68, 69, 70, 71, 72, 73, 74, 75, 76, 77, 78, 79, 80, 81, 82, 83, 84, 85] (by decide +kernel) (by decide +kernel)
set_option maxRecDepth 20000 in
theorem gX7_tight_X7_findChain : GoodIn wsX7_tight (wsV RX7 168 RX7 yX7_findChain wsX7_findChain) := goodIn_app (goodIn_of _ (by decide +kernel)) ggX7_tight_X7_findChain
set_option maxRecDepth 20000 in
theorem ggX7_tight_X7_layBounds : GoodIn wsX7_tight wsX7_layBounds := goodIn_r _ [38, 39, 40, 24, 25, 26, 41, 42, 43, 11, 44, 45, 46, 5, 47, 52, 53, 54, 55, 56, 57, 58, 59, 60, 61, 62, 63, 64, 65, 66, 67, 68, 69, 70, 71, 72, 73, 74, 75, 76, 77, 78, 79, 80, 81, 82, 83, 84, 85] (by decide +kernel) (by decide +kernel)
set_option maxRecDepth 20000 in
theorem gX7_tight_X7_layBounds : GoodIn wsX7_tight (wsV RX7 205 RX7 yX7_layBounds wsX7_layBounds) := goodIn_app (goodIn_of _ (by decide +kernel)) ggX7_tight_X7_layBounds
set_option maxRecDepth 20000 in
theorem ggX7_tight_X7_tightNow : GoodIn wsX7_tight wsX7_tightNow := goodIn_r _ [51, 39, 52, 53, 54, 55, 56, 57, 58, 59, 60, 61, 62, 63, 64, 65, 66, 67, 68, 69, 70, 71, 72, 73, 74, 75, 76, 77, 78, 79, 80, 81, 82, 83, 84, 85] (by decide +kernel) (by decide +kernel)
set_option maxRecDepth 20000 in
theorem gX7_tight_X7_tightNow : GoodIn wsX7_tight (wsV RX7 208 RX7 yX7_tightNow wsX7_tightNow) := goodIn_app (goodIn_of _ (by decide +kernel)) ggX7_tight_X7_tightNow
theorem dX7_tight_0 : decode cX7_tight 0 = .ok (.aload_n 0, 1) := by decide +kernel
theorem dX7_tight_1 : decode cX7_tight 1 = .ok (.aload_n 0, 1) := by decide +kernel
theorem dX7_tight_2 : decode cX7_tight 2 = .ok (.iload_n 1, 1) := by decide +kernel
theorem dX7_tight_3 : decode cX7_tight 3 = .ok (.iload_n 2, 1) := by decide +kernel
theorem dX7_tight_4 : decode cX7_tight 4 = .ok (.invokevirtual 162, 3) := by decide +kernel
theorem dX7_tight_7 : decode cX7_tight 7 = .ok (.ifCond .ne 7, 3) := by decide +kernel
theorem dX7_tight_10 : decode cX7_tight 10 = .ok (.iconst 1, 1) := by decide +kernel
theorem dX7_tight_11 : decode cX7_tight 11 = .ok (.goto 24, 3) := by decide +kernel
theorem dX7_tight_14 : decode cX7_tight 14 = .ok (.aload_n 0, 1) := by decide +kernel
theorem dX7_tight_15 : decode cX7_tight 15 = .ok (.iload_n 1, 1) := by decide +kernel
theorem dX7_tight_16 : decode cX7_tight 16 = .ok (.iload_n 2, 1) := by decide +kernel
theorem dX7_tight_17 : decode cX7_tight 17 = .ok (.invokevirtual 168, 3) := by decide +kernel
theorem dX7_tight_20 : decode cX7_tight 20 = .ok (.ifCond .eq 14, 3) := by decide +kernel
theorem dX7_tight_23 : decode cX7_tight 23 = .ok (.aload_n 0, 1) := by decide +kernel
theorem dX7_tight_24 : decode cX7_tight 24 = .ok (.invokevirtual 205, 3) := by decide +kernel
theorem dX7_tight_27 : decode cX7_tight 27 = .ok (.ifCond .eq 7, 3) := by decide +kernel
theorem dX7_tight_30 : decode cX7_tight 30 = .ok (.iconst 0, 1) := by decide +kernel
theorem dX7_tight_31 : decode cX7_tight 31 = .ok (.goto 4, 3) := by decide +kernel
theorem dX7_tight_34 : decode cX7_tight 34 = .ok (.iconst 2, 1) := by decide +kernel
theorem dX7_tight_35 : decode cX7_tight 35 = .ok (.putfield 67, 3) := by decide +kernel
theorem dX7_tight_38 : decode cX7_tight 38 = .ok (.aload_n 0, 1) := by decide +kernel
theorem dX7_tight_39 : decode cX7_tight 39 = .ok (.getfield 67, 3) := by decide +kernel
theorem dX7_tight_42 : decode cX7_tight 42 = .ok (.ifCond .le 7, 3) := by decide +kernel
theorem dX7_tight_45 : decode cX7_tight 45 = .ok (.iconst 0, 1) := by decide +kernel
theorem dX7_tight_46 : decode cX7_tight 46 = .ok (.goto 10, 3) := by decide +kernel
theorem dX7_tight_49 : decode cX7_tight 49 = .ok (.aload_n 0, 1) := by decide +kernel
theorem dX7_tight_50 : decode cX7_tight 50 = .ok (.iload_n 1, 1) := by decide +kernel
theorem dX7_tight_51 : decode cX7_tight 51 = .ok (.iload_n 2, 1) := by decide +kernel
theorem dX7_tight_52 : decode cX7_tight 52 = .ok (.iload_n 3, 1) := by decide +kernel
theorem dX7_tight_53 : decode cX7_tight 53 = .ok (.invokevirtual 208, 3) := by decide +kernel
theorem dX7_tight_56 : decode cX7_tight 56 = .ok (.ireturn, 1) := by decide +kernel
set_option maxRecDepth 20000 in
theorem ggX7_mayTransfer_X7_layChain : GoodIn wsX7_mayTransfer wsX7_layChain := goodIn_r _ [18, 19, 20, 21, 22, 23, 1, 2, 24, 25, 40, 41, 42, 43, 44, 45, 46, 47, 48, 49, 50, 51, 52, 53, 54, 55, 56, 57, 58, 59, 60, 61, 62, 63, 64, 65, 66, 67, 68, 69, 70, 71, 72, 73] (by decide +kernel) (by decide +kernel)
set_option maxRecDepth 20000 in
theorem gX7_mayTransfer_X7_layChain : GoodIn wsX7_mayTransfer (wsV RX7 165 RX7 yX7_layChain wsX7_layChain) := goodIn_app (goodIn_of _ (by decide +kernel)) ggX7_mayTransfer_X7_layChain
set_option maxRecDepth 20000 in
theorem ggX7_mayTransfer_X7_isInChain : GoodIn wsX7_mayTransfer wsX7_isInChain := goodIn_r _ [29, 19, 25, 40, 41, 42, 43, 44, 45, 46, 47, 48, 49, 50, 51, 52, 53, 54, 55, 56, 57, 58, 59, 60, 61, 62, 63, 64, 65, 66, 67, 68, 69, 70, 71, 72, 73] (by decide +kernel) (by decide +kernel)
set_option maxRecDepth 20000 in
theorem gX7_mayTransfer_X7_isInChain : GoodIn wsX7_mayTransfer (wsV RX7 190 RX7 yX7_isInChain wsX7_isInChain) := goodIn_app (goodIn_of _ (by decide +kernel)) ggX7_mayTransfer_X7_isInChain
set_option maxRecDepth 20000 in
theorem ggX7_mayTransfer_X7_addUp : GoodIn wsX7_mayTransfer wsX7_addUp := goodIn_r _ [33, 3, 10, 7, 19, 25, 2, 4, 6, 9, 24, 40, 41, 42, 43, 44, 45, 46, 47, 48, 49, 50, 51, 52, 53, 54, 55, 56, 57, 58, 59, 60, 61, 62, 63, 64, 65, 66, 67, 68, 69, 70, 71, 72, 73] (by decide +kernel) (by decide +kernel)
set_option maxRecDepth 20000 in
theorem gX7_mayTransfer_X7_addUp : GoodIn wsX7_mayTransfer (wsV RX7 180 RX7 yX7_addUp wsX7_addUp) := goodIn_app (goodIn_of _ (by decide +kernel)) ggX7_mayTransfer_X7_addUp
set_option maxRecDepth 20000 in
theorem ggX7_mayTransfer_X7_within : GoodIn wsX7_mayTransfer wsX7_within := goodIn_r _ [36] (by decide +kernel) (by decide +kernel)
set_option maxRecDepth 20000 in
theorem gX7_mayTransfer_X7_within : GoodIn wsX7_mayTransfer (va_wsS RX7 70 yX7_within wsX7_within) := goodIn_app (goodIn_of _ (by decide +kernel)) ggX7_mayTransfer_X7_within
set_option maxRecDepth 20000 in
theorem ggX7_mayTransfer_X7_areDeviations : GoodIn wsX7_mayTransfer wsX7_areDeviations := goodIn_r _ [39, 34, 35, 17, 36] (by decide +kernel) (by decide +kernel)
set_option maxRecDepth 20000 in
theorem gX7_mayTransfer_X7_areDeviations : GoodIn wsX7_mayTransfer (va_wsS RX7 79 yX7_areDeviations wsX7_areDeviations) := goodIn_app (goodIn_of _ (by decide +kernel)) ggX7_mayTransfer_X7_areDeviations
theorem dX7_mayTransfer_0 : decode cX7_mayTransfer 0 = .ok (.aload_n 0, 1) := by decide +kernel
theorem dX7_mayTransfer_1 : decode cX7_mayTransfer 1 = .ok (.getfield 50, 3) := by decide +kernel
theorem dX7_mayTransfer_4 : decode cX7_mayTransfer 4 = .ok (.iload_n 1, 1) := by decide +kernel
theorem dX7_mayTransfer_5 : decode cX7_mayTransfer 5 = .ok (.baload, 1) := by decide +kernel
theorem dX7_mayTransfer_6 : decode cX7_mayTransfer 6 = .ok (.ifCond .ne 25, 3) := by decide +kernel
theorem dX7_mayTransfer_9 : decode cX7_mayTransfer 9 = .ok (.aload_n 0, 1) := by decide +kernel
theorem dX7_mayTransfer_10 : decode cX7_mayTransfer 10 = .ok (.iload_n 2, 1) := by decide +kernel
theorem dX7_mayTransfer_11 : decode cX7_mayTransfer 11 = .ok (.aload_n 0, 1) := by decide +kernel
theorem dX7_mayTransfer_12 : decode cX7_mayTransfer 12 = .ok (.getfield 13, 3) := by decide +kernel
theorem dX7_mayTransfer_15 : decode cX7_mayTransfer 15 = .ok (.iload_n 1, 1) := by decide +kernel
theorem dX7_mayTransfer_16 : decode cX7_mayTransfer 16 = .ok (.iaload, 1) := by decide +kernel
theorem dX7_mayTransfer_17 : decode cX7_mayTransfer 17 = .ok (.invokevirtual 165, 3) := by decide +kernel
theorem dX7_mayTransfer_20 : decode cX7_mayTransfer 20 = .ok (.ifCond .eq 11, 3) := by decide +kernel
theorem dX7_mayTransfer_23 : decode cX7_mayTransfer 23 = .ok (.aload_n 0, 1) := by decide +kernel
theorem dX7_mayTransfer_24 : decode cX7_mayTransfer 24 = .ok (.iload_n 1, 1) := by decide +kernel
theorem dX7_mayTransfer_25 : decode cX7_mayTransfer 25 = .ok (.invokevirtual 190, 3) := by decide +kernel
theorem dX7_mayTransfer_28 : decode cX7_mayTransfer 28 = .ok (.ifCond .eq 5, 3) := by decide +kernel
theorem dX7_mayTransfer_31 : decode cX7_mayTransfer 31 = .ok (.iconst 0, 1) := by decide +kernel
theorem dX7_mayTransfer_32 : decode cX7_mayTransfer 32 = .ok (.ireturn, 1) := by decide +kernel
theorem dX7_mayTransfer_33 : decode cX7_mayTransfer 33 = .ok (.aload_n 0, 1) := by decide +kernel
theorem dX7_mayTransfer_34 : decode cX7_mayTransfer 34 = .ok (.iload_n 2, 1) := by decide +kernel
theorem dX7_mayTransfer_35 : decode cX7_mayTransfer 35 = .ok (.invokevirtual 180, 3) := by decide +kernel
theorem dX7_mayTransfer_38 : decode cX7_mayTransfer 38 = .ok (.aload_n 0, 1) := by decide +kernel
theorem dX7_mayTransfer_39 : decode cX7_mayTransfer 39 = .ok (.aload_n 0, 1) := by decide +kernel
theorem dX7_mayTransfer_40 : decode cX7_mayTransfer 40 = .ok (.getfield 171, 3) := by decide +kernel
theorem dX7_mayTransfer_43 : decode cX7_mayTransfer 43 = .ok (.aload_n 0, 1) := by decide +kernel
theorem dX7_mayTransfer_44 : decode cX7_mayTransfer 44 = .ok (.getfield 20, 3) := by decide +kernel
theorem dX7_mayTransfer_47 : decode cX7_mayTransfer 47 = .ok (.iload_n 1, 1) := by decide +kernel
theorem dX7_mayTransfer_48 : decode cX7_mayTransfer 48 = .ok (.iaload, 1) := by decide +kernel
theorem dX7_mayTransfer_49 : decode cX7_mayTransfer 49 = .ok (.iadd, 1) := by decide +kernel
theorem dX7_mayTransfer_50 : decode cX7_mayTransfer 50 = .ok (.putfield 212, 3) := by decide +kernel
theorem dX7_mayTransfer_53 : decode cX7_mayTransfer 53 = .ok (.aload_n 0, 1) := by decide +kernel
theorem dX7_mayTransfer_54 : decode cX7_mayTransfer 54 = .ok (.aload_n 0, 1) := by decide +kernel
theorem dX7_mayTransfer_55 : decode cX7_mayTransfer 55 = .ok (.getfield 20, 3) := by decide +kernel
theorem dX7_mayTransfer_58 : decode cX7_mayTransfer 58 = .ok (.iload_n 1, 1) := by decide +kernel
theorem dX7_mayTransfer_59 : decode cX7_mayTransfer 59 = .ok (.iaload, 1) := by decide +kernel
theorem dX7_mayTransfer_60 : decode cX7_mayTransfer 60 = .ok (.aload_n 0, 1) := by decide +kernel
theorem dX7_mayTransfer_61 : decode cX7_mayTransfer 61 = .ok (.getfield 23, 3) := by decide +kernel
theorem dX7_mayTransfer_64 : decode cX7_mayTransfer 64 = .ok (.iload_n 1, 1) := by decide +kernel
theorem dX7_mayTransfer_65 : decode cX7_mayTransfer 65 = .ok (.iaload, 1) := by decide +kernel
theorem dX7_mayTransfer_66 : decode cX7_mayTransfer 66 = .ok (.iadd, 1) := by decide +kernel
theorem dX7_mayTransfer_67 : decode cX7_mayTransfer 67 = .ok (.aload_n 0, 1) := by decide +kernel
theorem dX7_mayTransfer_68 : decode cX7_mayTransfer 68 = .ok (.getfield 177, 3) := by decide +kernel
theorem dX7_mayTransfer_71 : decode cX7_mayTransfer 71 = .ok (.iadd, 1) := by decide +kernel
