set_option maxRecDepth 20000 in
theorem gX7_closeBody_X7_weigh : GoodIn wsX7_closeBody (wsV RX7 132 RX7 yX7_weigh wsX7_weigh) := goodIn_app (goodIn_of _ (by decide +kernel)) ggX7_closeBody_X7_weigh
set_option maxRecDepth 20000 in
theorem ggX7_closeBody_X7_count : GoodIn wsX7_closeBody wsX7_count := goodIn_r _ [29, 30, 31, 21, 3, 32, 10, 33, 8, 34, 4, 35, 36, 37, 14, 38, 39, 40, 41, 42, 43, 22, 23, 24, 25, 6, 1, 17, 18, 19, 20, 44, 45, 46, 47, 48, 49, 50, 51, 52, 53, 54, 55, 56, 57, 58, 59, 60, 61, 62, 63, 64, 65, 66, 67, 68, 69, 70, 71, 72, 73, 74, 75, 76, 77, 78, 79, 80, 81, 82, 83, 84, 85, 86, 87, 88, 89, 90, 91, 92, 93] (by decide +kernel) (by decide +kernel)
set_option maxRecDepth 20000 in
theorem gX7_closeBody_X7_count : GoodIn wsX7_closeBody (wsV RX7 135 RX7 yX7_count wsX7_count) := goodIn_app (goodIn_of _ (by decide +kernel)) ggX7_closeBody_X7_count
theorem dX7_closeBody_0 : decode cX7_closeBody 0 = .ok (.aload_n 0, 1) := by decide +kernel
theorem dX7_closeBody_1 : decode cX7_closeBody 1 = .ok (.iconst 0, 1) := by decide +kernel
theorem dX7_closeBody_2 : decode cX7_closeBody 2 = .ok (.invokevirtual 128, 3) := by decide +kernel
theorem dX7_closeBody_5 : decode cX7_closeBody 5 = .ok (.aload_n 0, 1) := by decide +kernel
theorem dX7_closeBody_6 : decode cX7_closeBody 6 = .ok (.getfield 121, 3) := by decide +kernel
theorem dX7_closeBody_9 : decode cX7_closeBody 9 = .ok (.iconst 1, 1) := by decide +kernel
theorem dX7_closeBody_10 : decode cX7_closeBody 10 = .ok (.isub, 1) := by decide +kernel
theorem dX7_closeBody_11 : decode cX7_closeBody 11 = .ok (.istore_n 1, 1) := by decide +kernel
theorem dX7_closeBody_12 : decode cX7_closeBody 12 = .ok (.aload_n 0, 1) := by decide +kernel
theorem dX7_closeBody_13 : decode cX7_closeBody 13 = .ok (.getfield 56, 3) := by decide +kernel
theorem dX7_closeBody_16 : decode cX7_closeBody 16 = .ok (.iload_n 1, 1) := by decide +kernel
theorem dX7_closeBody_17 : decode cX7_closeBody 17 = .ok (.iaload, 1) := by decide +kernel
theorem dX7_closeBody_18 : decode cX7_closeBody 18 = .ok (.istore_n 2, 1) := by decide +kernel
theorem dX7_closeBody_19 : decode cX7_closeBody 19 = .ok (.iload_n 2, 1) := by decide +kernel
theorem dX7_closeBody_20 : decode cX7_closeBody 20 = .ok (.ifCond .lt 25, 3) := by decide +kernel
theorem dX7_closeBody_23 : decode cX7_closeBody 23 = .ok (.aload_n 0, 1) := by decide +kernel
theorem dX7_closeBody_24 : decode cX7_closeBody 24 = .ok (.getfield 38, 3) := by decide +kernel
theorem dX7_closeBody_27 : decode cX7_closeBody 27 = .ok (.iload_n 2, 1) := by decide +kernel
theorem dX7_closeBody_28 : decode cX7_closeBody 28 = .ok (.iaload, 1) := by decide +kernel
theorem dX7_closeBody_29 : decode cX7_closeBody 29 = .ok (.istore_n 3, 1) := by decide +kernel
theorem dX7_closeBody_30 : decode cX7_closeBody 30 = .ok (.aload_n 0, 1) := by decide +kernel
theorem dX7_closeBody_31 : decode cX7_closeBody 31 = .ok (.getfield 38, 3) := by decide +kernel
theorem dX7_closeBody_34 : decode cX7_closeBody 34 = .ok (.iload_n 2, 1) := by decide +kernel
theorem dX7_closeBody_35 : decode cX7_closeBody 35 = .ok (.aload_n 0, 1) := by decide +kernel
theorem dX7_closeBody_36 : decode cX7_closeBody 36 = .ok (.getfield 114, 3) := by decide +kernel
theorem dX7_closeBody_39 : decode cX7_closeBody 39 = .ok (.iastore, 1) := by decide +kernel
theorem dX7_closeBody_40 : decode cX7_closeBody 40 = .ok (.iload_n 3, 1) := by decide +kernel
theorem dX7_closeBody_41 : decode cX7_closeBody 41 = .ok (.istore_n 2, 1) := by decide +kernel
theorem dX7_closeBody_42 : decode cX7_closeBody 42 = .ok (.goto (-23), 3) := by decide +kernel
theorem dX7_closeBody_45 : decode cX7_closeBody 45 = .ok (.aload_n 0, 1) := by decide +kernel
theorem dX7_closeBody_46 : decode cX7_closeBody 46 = .ok (.dup, 1) := by decide +kernel
theorem dX7_closeBody_47 : decode cX7_closeBody 47 = .ok (.getfield 121, 3) := by decide +kernel
theorem dX7_closeBody_50 : decode cX7_closeBody 50 = .ok (.iconst 1, 1) := by decide +kernel
theorem dX7_closeBody_51 : decode cX7_closeBody 51 = .ok (.isub, 1) := by decide +kernel
theorem dX7_closeBody_52 : decode cX7_closeBody 52 = .ok (.putfield 121, 3) := by decide +kernel
theorem dX7_closeBody_55 : decode cX7_closeBody 55 = .ok (.aload_n 0, 1) := by decide +kernel
theorem dX7_closeBody_56 : decode cX7_closeBody 56 = .ok (.getfield 47, 3) := by decide +kernel
theorem dX7_closeBody_59 : decode cX7_closeBody 59 = .ok (.iload_n 1, 1) := by decide +kernel
theorem dX7_closeBody_60 : decode cX7_closeBody 60 = .ok (.iaload, 1) := by decide +kernel
theorem dX7_closeBody_61 : decode cX7_closeBody 61 = .ok (.istore_n 3, 1) := by decide +kernel
theorem dX7_closeBody_62 : decode cX7_closeBody 62 = .ok (.iload_n 3, 1) := by decide +kernel
theorem dX7_closeBody_63 : decode cX7_closeBody 63 = .ok (.ifCond .ne 4, 3) := by decide +kernel
theorem dX7_closeBody_66 : decode cX7_closeBody 66 = .ok (.return_, 1) := by decide +kernel
theorem dX7_closeBody_67 : decode cX7_closeBody 67 = .ok (.aload_n 0, 1) := by decide +kernel
theorem dX7_closeBody_68 : decode cX7_closeBody 68 = .ok (.getfield 59, 3) := by decide +kernel
theorem dX7_closeBody_71 : decode cX7_closeBody 71 = .ok (.iload_n 1, 1) := by decide +kernel
theorem dX7_closeBody_72 : decode cX7_closeBody 72 = .ok (.iaload, 1) := by decide +kernel
theorem dX7_closeBody_73 : decode cX7_closeBody 73 = .ok (.iconst 1, 1) := by decide +kernel
theorem dX7_closeBody_74 : decode cX7_closeBody 74 = .ok (.iadd, 1) := by decide +kernel
theorem dX7_closeBody_75 : decode cX7_closeBody 75 = .ok (.istore 4, 2) := by decide +kernel
theorem dX7_closeBody_77 : decode cX7_closeBody 77 = .ok (.iload_n 3, 1) := by decide +kernel
theorem dX7_closeBody_78 : decode cX7_closeBody 78 = .ok (.iconst 1, 1) := by decide +kernel
theorem dX7_closeBody_79 : decode cX7_closeBody 79 = .ok (.if_icmp .ne 18, 3) := by decide +kernel
theorem dX7_closeBody_82 : decode cX7_closeBody 82 = .ok (.aload_n 0, 1) := by decide +kernel
theorem dX7_closeBody_83 : decode cX7_closeBody 83 = .ok (.bipush 11, 2) := by decide +kernel
theorem dX7_closeBody_85 : decode cX7_closeBody 85 = .ok (.aload_n 0, 1) := by decide +kernel
theorem dX7_closeBody_86 : decode cX7_closeBody 86 = .ok (.getfield 50, 3) := by decide +kernel
theorem dX7_closeBody_89 : decode cX7_closeBody 89 = .ok (.iload_n 1, 1) := by decide +kernel
theorem dX7_closeBody_90 : decode cX7_closeBody 90 = .ok (.iaload, 1) := by decide +kernel
theorem dX7_closeBody_91 : decode cX7_closeBody 91 = .ok (.iconst 0, 1) := by decide +kernel
theorem dX7_closeBody_92 : decode cX7_closeBody 92 = .ok (.iconst 0, 1) := by decide +kernel
theorem dX7_closeBody_93 : decode cX7_closeBody 93 = .ok (.invokevirtual 124, 3) := by decide +kernel
theorem dX7_closeBody_96 : decode cX7_closeBody 96 = .ok (.pop, 1) := by decide +kernel
theorem dX7_closeBody_97 : decode cX7_closeBody 97 = .ok (.iload_n 3, 1) := by decide +kernel
theorem dX7_closeBody_98 : decode cX7_closeBody 98 = .ok (.iconst 2, 1) := by decide +kernel
theorem dX7_closeBody_99 : decode cX7_closeBody 99 = .ok (.if_icmp .le 62, 3) := by decide +kernel
theorem dX7_closeBody_102 : decode cX7_closeBody 102 = .ok (.aload_n 0, 1) := by decide +kernel
theorem dX7_closeBody_103 : decode cX7_closeBody 103 = .ok (.getfield 41, 3) := by decide +kernel
theorem dX7_closeBody_106 : decode cX7_closeBody 106 = .ok (.aload_n 0, 1) := by decide +kernel
theorem dX7_closeBody_107 : decode cX7_closeBody 107 = .ok (.getfield 62, 3) := by decide +kernel
theorem dX7_closeBody_110 : decode cX7_closeBody 110 = .ok (.iload_n 1, 1) := by decide +kernel
theorem dX7_closeBody_111 : decode cX7_closeBody 111 = .ok (.iaload, 1) := by decide +kernel
theorem dX7_closeBody_112 : decode cX7_closeBody 112 = .ok (.aload_n 0, 1) := by decide +kernel
theorem dX7_closeBody_113 : decode cX7_closeBody 113 = .ok (.getfield 114, 3) := by decide +kernel
theorem dX7_closeBody_116 : decode cX7_closeBody 116 = .ok (.iastore, 1) := by decide +kernel
theorem dX7_closeBody_117 : decode cX7_closeBody 117 = .ok (.aload_n 0, 1) := by decide +kernel
theorem dX7_closeBody_118 : decode cX7_closeBody 118 = .ok (.bipush 13, 2) := by decide +kernel
theorem dX7_closeBody_120 : decode cX7_closeBody 120 = .ok (.aload_n 0, 1) := by decide +kernel
theorem dX7_closeBody_121 : decode cX7_closeBody 121 = .ok (.getfield 62, 3) := by decide +kernel
theorem dX7_closeBody_124 : decode cX7_closeBody 124 = .ok (.iload_n 1, 1) := by decide +kernel
theorem dX7_closeBody_125 : decode cX7_closeBody 125 = .ok (.iaload, 1) := by decide +kernel
theorem dX7_closeBody_126 : decode cX7_closeBody 126 = .ok (.aload_n 0, 1) := by decide +kernel
theorem dX7_closeBody_127 : decode cX7_closeBody 127 = .ok (.getfield 38, 3) := by decide +kernel
theorem dX7_closeBody_130 : decode cX7_closeBody 130 = .ok (.aload_n 0, 1) := by decide +kernel
theorem dX7_closeBody_131 : decode cX7_closeBody 131 = .ok (.getfield 62, 3) := by decide +kernel
theorem dX7_closeBody_134 : decode cX7_closeBody 134 = .ok (.iload_n 1, 1) := by decide +kernel
theorem dX7_closeBody_135 : decode cX7_closeBody 135 = .ok (.iaload, 1) := by decide +kernel
theorem dX7_closeBody_136 : decode cX7_closeBody 136 = .ok (.iaload, 1) := by decide +kernel
theorem dX7_closeBody_137 : decode cX7_closeBody 137 = .ok (.aload_n 0, 1) := by decide +kernel
theorem dX7_closeBody_138 : decode cX7_closeBody 138 = .ok (.getfield 44, 3) := by decide +kernel
theorem dX7_closeBody_141 : decode cX7_closeBody 141 = .ok (.aload_n 0, 1) := by decide +kernel
theorem dX7_closeBody_142 : decode cX7_closeBody 142 = .ok (.getfield 62, 3) := by decide +kernel
theorem dX7_closeBody_145 : decode cX7_closeBody 145 = .ok (.iload_n 1, 1) := by decide +kernel
theorem dX7_closeBody_146 : decode cX7_closeBody 146 = .ok (.iaload, 1) := by decide +kernel
theorem dX7_closeBody_147 : decode cX7_closeBody 147 = .ok (.iaload, 1) := by decide +kernel
theorem dX7_closeBody_148 : decode cX7_closeBody 148 = .ok (.invokevirtual 124, 3) := by decide +kernel
theorem dX7_closeBody_151 : decode cX7_closeBody 151 = .ok (.pop, 1) := by decide +kernel
theorem dX7_closeBody_152 : decode cX7_closeBody 152 = .ok (.aload_n 0, 1) := by decide +kernel
theorem dX7_closeBody_153 : decode cX7_closeBody 153 = .ok (.iload 4, 2) := by decide +kernel
theorem dX7_closeBody_155 : decode cX7_closeBody 155 = .ok (.invokevirtual 132, 3) := by decide +kernel
theorem dX7_closeBody_158 : decode cX7_closeBody 158 = .ok (.goto 15, 3) := by decide +kernel
theorem dX7_closeBody_161 : decode cX7_closeBody 161 = .ok (.aload_n 0, 1) := by decide +kernel
theorem dX7_closeBody_162 : decode cX7_closeBody 162 = .ok (.aload_n 0, 1) := by decide +kernel
theorem dX7_closeBody_163 : decode cX7_closeBody 163 = .ok (.getfield 62, 3) := by decide +kernel
theorem dX7_closeBody_166 : decode cX7_closeBody 166 = .ok (.iload_n 1, 1) := by decide +kernel
theorem dX7_closeBody_167 : decode cX7_closeBody 167 = .ok (.iaload, 1) := by decide +kernel
theorem dX7_closeBody_168 : decode cX7_closeBody 168 = .ok (.iload 4, 2) := by decide +kernel
theorem dX7_closeBody_170 : decode cX7_closeBody 170 = .ok (.invokevirtual 135, 3) := by decide +kernel
theorem dX7_closeBody_173 : decode cX7_closeBody 173 = .ok (.return_, 1) := by decide +kernel
set_option maxRecDepth 20000 in
theorem ggX7_count_X7_sign : GoodIn wsX7_count wsX7_sign := goodIn_r _ [15, 16, 17, 31, 32, 33, 34, 35, 36, 37, 38, 39, 40, 41, 42, 43, 44, 45, 46, 47, 48, 49, 50, 51, 52, 53, 54, 55, 56, 57, 58, 59, 60, 61, 62, 63, 64, 65, 66, 67, 68, 69, 70, 71, 72, 73, 74, 75, 76, 77, 78, 79, 80] (by decide +kernel) (by decide +kernel)
set_option maxRecDepth 20000 in
theorem gX7_count_X7_sign : GoodIn wsX7_count (wsV RX7 142 RX7 yX7_sign wsX7_sign) := goodIn_app (goodIn_of _ (by decide +kernel)) ggX7_count_X7_sign
set_option maxRecDepth 20000 in
theorem ggX7_count_X7_isDigit : GoodIn wsX7_count wsX7_isDigit := goodIn_r _ [20] (by decide +kernel) (by decide +kernel)
set_option maxRecDepth 20000 in
theorem gX7_count_X7_isDigit : GoodIn wsX7_count (va_wsS RX7 145 yX7_isDigit wsX7_isDigit) := goodIn_app (goodIn_of _ (by decide +kernel)) ggX7_count_X7_isDigit
set_option maxRecDepth 20000 in
theorem ggX7_count_X7_weigh : GoodIn wsX7_count wsX7_weigh := goodIn_r _ [24, 25, 26, 31, 32, 33, 34, 35, 36, 37, 38, 39, 40, 41, 42, 43, 44, 45, 46, 47, 48, 49, 50, 51, 52, 53, 54, 55, 56, 57, 58, 59, 60, 61, 62, 63, 64, 65, 66, 67, 68, 69, 70, 71, 72, 73, 74, 75, 76, 77, 78, 79, 80] (by decide +kernel) (by decide +kernel)
set_option maxRecDepth 20000 in
theorem gX7_count_X7_weigh : GoodIn wsX7_count (wsV RX7 132 RX7 yX7_weigh wsX7_weigh) := goodIn_app (goodIn_of _ (by decide +kernel)) ggX7_count_X7_weigh
set_option maxRecDepth 20000 in
theorem ggX7_count_X7_emit : GoodIn wsX7_count wsX7_emit := goodIn_r _ [30, 3, 10, 4, 8, 6, 31, 32, 33, 34, 35, 36, 37, 38, 39, 40, 41, 42, 43, 44, 45, 46, 47, 48, 49, 50, 51, 52, 53, 54, 55, 56, 57, 58, 59, 60, 61, 62, 63, 64, 65, 66, 67, 68, 69, 70, 71, 72, 73, 74, 75, 76, 77, 78, 79, 80] (by decide +kernel) (by decide +kernel)
set_option maxRecDepth 20000 in
theorem gX7_count_X7_emit : GoodIn wsX7_count (wsV RX7 124 RX7 yX7_emit wsX7_emit) := goodIn_app (goodIn_of _ (by decide +kernel)) ggX7_count_X7_emit
theorem dX7_count_0 : decode cX7_count 0 = .ok (.aload_n 0, 1) := by decide +kernel
theorem dX7_count_1 : decode cX7_count 1 = .ok (.aload_n 0, 1) := by decide +kernel
theorem dX7_count_2 : decode cX7_count 2 = .ok (.getfield 139, 3) := by decide +kernel
theorem dX7_count_5 : decode cX7_count 5 = .ok (.invokevirtual 142, 3) := by decide +kernel
theorem dX7_count_8 : decode cX7_count 8 = .ok (.istore_n 3, 1) := by decide +kernel
theorem dX7_count_9 : decode cX7_count 9 = .ok (.iload_n 3, 1) := by decide +kernel
theorem dX7_count_10 : decode cX7_count 10 = .ok (.bipush 43, 2) := by decide +kernel
theorem dX7_count_12 : decode cX7_count 12 = .ok (.if_icmp .ne 7, 3) := by decide +kernel
theorem dX7_count_15 : decode cX7_count 15 = .ok (.iconst 1, 1) := by decide +kernel
theorem dX7_count_16 : decode cX7_count 16 = .ok (.goto 4, 3) := by decide +kernel
theorem dX7_count_19 : decode cX7_count 19 = .ok (.iconst 0, 1) := by decide +kernel
theorem dX7_count_20 : decode cX7_count 20 = .ok (.istore 4, 2) := by decide +kernel
theorem dX7_count_22 : decode cX7_count 22 = .ok (.iload_n 3, 1) := by decide +kernel
theorem dX7_count_23 : decode cX7_count 23 = .ok (.bipush 63, 2) := by decide +kernel
theorem dX7_count_25 : decode cX7_count 25 = .ok (.if_icmp .ne 7, 3) := by decide +kernel
theorem dX7_count_28 : decode cX7_count 28 = .ok (.iconst 1, 1) := by decide +kernel
theorem dX7_count_29 : decode cX7_count 29 = .ok (.goto 5, 3) := by decide +kernel
theorem dX7_count_32 : decode cX7_count 32 = .ok (.bipush 99, 2) := by decide +kernel
theorem dX7_count_34 : decode cX7_count 34 = .ok (.istore 5, 2) := by decide +kernel
theorem dX7_count_36 : decode cX7_count 36 = .ok (.iload_n 3, 1) := by decide +kernel
theorem dX7_count_37 : decode cX7_count 37 = .ok (.bipush 123, 2) := by decide +kernel
theorem dX7_count_39 : decode cX7_count 39 = .ok (.if_icmp .ne 186, 3) := by decide +kernel
theorem dX7_count_42 : decode cX7_count 42 = .ok (.aload_n 0, 1) := by decide +kernel
theorem dX7_count_43 : decode cX7_count 43 = .ok (.aload_n 0, 1) := by decide +kernel
theorem dX7_count_44 : decode cX7_count 44 = .ok (.getfield 117, 3) := by decide +kernel
theorem dX7_count_47 : decode cX7_count 47 = .ok (.ifCond .ne 19, 3) := by decide +kernel
theorem dX7_count_50 : decode cX7_count 50 = .ok (.aload_n 0, 1) := by decide +kernel
theorem dX7_count_51 : decode cX7_count 51 = .ok (.aload_n 0, 1) := by decide +kernel
theorem dX7_count_52 : decode cX7_count 52 = .ok (.getfield 139, 3) := by decide +kernel
theorem dX7_count_55 : decode cX7_count 55 = .ok (.iconst 1, 1) := by decide +kernel
theorem dX7_count_56 : decode cX7_count 56 = .ok (.iadd, 1) := by decide +kernel
theorem dX7_count_57 : decode cX7_count 57 = .ok (.invokevirtual 142, 3) := by decide +kernel
theorem dX7_count_60 : decode cX7_count 60 = .ok (.invokestatic 145, 3) := by decide +kernel
theorem dX7_count_63 : decode cX7_count 63 = .ok (.ifCond .ne 7, 3) := by decide +kernel
theorem dX7_count_66 : decode cX7_count 66 = .ok (.iconst 1, 1) := by decide +kernel
theorem dX7_count_67 : decode cX7_count 67 = .ok (.goto 4, 3) := by decide +kernel
theorem dX7_count_70 : decode cX7_count 70 = .ok (.iconst 0, 1) := by decide +kernel
theorem dX7_count_71 : decode cX7_count 71 = .ok (.putfield 117, 3) := by decide +kernel
theorem dX7_count_74 : decode cX7_count 74 = .ok (.aload_n 0, 1) := by decide +kernel
theorem dX7_count_75 : decode cX7_count 75 = .ok (.aload_n 0, 1) := by decide +kernel
theorem dX7_count_76 : decode cX7_count 76 = .ok (.getfield 139, 3) := by decide +kernel
theorem dX7_count_79 : decode cX7_count 79 = .ok (.iconst 1, 1) := by decide +kernel
theorem dX7_count_80 : decode cX7_count 80 = .ok (.iadd, 1) := by decide +kernel
theorem dX7_count_81 : decode cX7_count 81 = .ok (.invokevirtual 142, 3) := by decide +kernel
theorem dX7_count_84 : decode cX7_count 84 = .ok (.bipush 48, 2) := by decide +kernel
theorem dX7_count_86 : decode cX7_count 86 = .ok (.isub, 1) := by decide +kernel
theorem dX7_count_87 : decode cX7_count 87 = .ok (.istore 4, 2) := by decide +kernel
theorem dX7_count_89 : decode cX7_count 89 = .ok (.iload 4, 2) := by decide +kernel
theorem dX7_count_91 : decode cX7_count 91 = .ok (.istore 5, 2) := by decide +kernel
theorem dX7_count_93 : decode cX7_count 93 = .ok (.aload_n 0, 1) := by decide +kernel
theorem dX7_count_94 : decode cX7_count 94 = .ok (.dup, 1) := by decide +kernel
theorem dX7_count_95 : decode cX7_count 95 = .ok (.getfield 139, 3) := by decide +kernel
theorem dX7_count_98 : decode cX7_count 98 = .ok (.iconst 2, 1) := by decide +kernel
theorem dX7_count_99 : decode cX7_count 99 = .ok (.iadd, 1) := by decide +kernel
theorem dX7_count_100 : decode cX7_count 100 = .ok (.putfield 139, 3) := by decide +kernel
theorem dX7_count_103 : decode cX7_count 103 = .ok (.aload_n 0, 1) := by decide +kernel
theorem dX7_count_104 : decode cX7_count 104 = .ok (.aload_n 0, 1) := by decide +kernel
theorem dX7_count_105 : decode cX7_count 105 = .ok (.getfield 139, 3) := by decide +kernel
theorem dX7_count_108 : decode cX7_count 108 = .ok (.invokevirtual 142, 3) := by decide +kernel
theorem dX7_count_111 : decode cX7_count 111 = .ok (.bipush 44, 2) := by decide +kernel
theorem dX7_count_113 : decode cX7_count 113 = .ok (.if_icmp .ne 73, 3) := by decide +kernel
theorem dX7_count_116 : decode cX7_count 116 = .ok (.aload_n 0, 1) := by decide +kernel
theorem dX7_count_117 : decode cX7_count 117 = .ok (.dup, 1) := by decide +kernel
theorem dX7_count_118 : decode cX7_count 118 = .ok (.getfield 139, 3) := by decide +kernel
theorem dX7_count_121 : decode cX7_count 121 = .ok (.iconst 1, 1) := by decide +kernel
theorem dX7_count_122 : decode cX7_count 122 = .ok (.iadd, 1) := by decide +kernel
theorem dX7_count_123 : decode cX7_count 123 = .ok (.putfield 139, 3) := by decide +kernel
theorem dX7_count_126 : decode cX7_count 126 = .ok (.aload_n 0, 1) := by decide +kernel
theorem dX7_count_127 : decode cX7_count 127 = .ok (.aload_n 0, 1) := by decide +kernel
theorem dX7_count_128 : decode cX7_count 128 = .ok (.getfield 139, 3) := by decide +kernel
theorem dX7_count_131 : decode cX7_count 131 = .ok (.invokevirtual 142, 3) := by decide +kernel
theorem dX7_count_134 : decode cX7_count 134 = .ok (.invokestatic 145, 3) := by decide +kernel
theorem dX7_count_137 : decode cX7_count 137 = .ok (.ifCond .eq 17, 3) := by decide +kernel
theorem dX7_count_140 : decode cX7_count 140 = .ok (.aload_n 0, 1) := by decide +kernel
theorem dX7_count_141 : decode cX7_count 141 = .ok (.aload_n 0, 1) := by decide +kernel
theorem dX7_count_142 : decode cX7_count 142 = .ok (.getfield 139, 3) := by decide +kernel
theorem dX7_count_145 : decode cX7_count 145 = .ok (.invokevirtual 142, 3) := by decide +kernel
theorem dX7_count_148 : decode cX7_count 148 = .ok (.bipush 48, 2) := by decide +kernel
theorem dX7_count_150 : decode cX7_count 150 = .ok (.isub, 1) := by decide +kernel
theorem dX7_count_151 : decode cX7_count 151 = .ok (.goto 5, 3) := by decide +kernel
theorem dX7_count_154 : decode cX7_count 154 = .ok (.bipush 99, 2) := by decide +kernel
theorem dX7_count_156 : decode cX7_count 156 = .ok (.istore 5, 2) := by decide +kernel
theorem dX7_count_158 : decode cX7_count 158 = .ok (.aload_n 0, 1) := by decide +kernel
theorem dX7_count_159 : decode cX7_count 159 = .ok (.dup, 1) := by decide +kernel
theorem dX7_count_160 : decode cX7_count 160 = .ok (.getfield 139, 3) := by decide +kernel
theorem dX7_count_163 : decode cX7_count 163 = .ok (.aload_n 0, 1) := by decide +kernel
theorem dX7_count_164 : decode cX7_count 164 = .ok (.aload_n 0, 1) := by decide +kernel
theorem dX7_count_165 : decode cX7_count 165 = .ok (.getfield 139, 3) := by decide +kernel
theorem dX7_count_168 : decode cX7_count 168 = .ok (.invokevirtual 142, 3) := by decide +kernel
theorem dX7_count_171 : decode cX7_count 171 = .ok (.invokestatic 145, 3) := by decide +kernel
theorem dX7_count_174 : decode cX7_count 174 = .ok (.ifCond .eq 7, 3) := by decide +kernel
theorem dX7_count_177 : decode cX7_count 177 = .ok (.iconst 1, 1) := by decide +kernel
theorem dX7_count_178 : decode cX7_count 178 = .ok (.goto 4, 3) := by decide +kernel
theorem dX7_count_181 : decode cX7_count 181 = .ok (.iconst 0, 1) := by decide +kernel
theorem dX7_count_182 : decode cX7_count 182 = .ok (.iadd, 1) := by decide +kernel
theorem dX7_count_183 : decode cX7_count 183 = .ok (.putfield 139, 3) := by decide +kernel
theorem dX7_count_186 : decode cX7_count 186 = .ok (.aload_n 0, 1) := by decide +kernel
theorem dX7_count_187 : decode cX7_count 187 = .ok (.aload_n 0, 1) := by decide +kernel
theorem dX7_count_188 : decode cX7_count 188 = .ok (.getfield 117, 3) := by decide +kernel
theorem dX7_count_191 : decode cX7_count 191 = .ok (.ifCond .ne 23, 3) := by decide +kernel
theorem dX7_count_194 : decode cX7_count 194 = .ok (.aload_n 0, 1) := by decide +kernel
theorem dX7_count_195 : decode cX7_count 195 = .ok (.aload_n 0, 1) := by decide +kernel
theorem dX7_count_196 : decode cX7_count 196 = .ok (.getfield 139, 3) := by decide +kernel
theorem dX7_count_199 : decode cX7_count 199 = .ok (.invokevirtual 142, 3) := by decide +kernel
theorem dX7_count_202 : decode cX7_count 202 = .ok (.bipush 125, 2) := by decide +kernel
theorem dX7_count_204 : decode cX7_count 204 = .ok (.if_icmp .ne 10, 3) := by decide +kernel
theorem dX7_count_207 : decode cX7_count 207 = .ok (.iload 4, 2) := by decide +kernel
theorem dX7_count_209 : decode cX7_count 209 = .ok (.iload 5, 2) := by decide +kernel
theorem dX7_count_211 : decode cX7_count 211 = .ok (.if_icmp .le 7, 3) := by decide +kernel
theorem dX7_count_214 : decode cX7_count 214 = .ok (.iconst 1, 1) := by decide +kernel
theorem dX7_count_215 : decode cX7_count 215 = .ok (.goto 4, 3) := by decide +kernel
theorem dX7_count_218 : decode cX7_count 218 = .ok (.iconst 0, 1) := by decide +kernel
theorem dX7_count_219 : decode cX7_count 219 = .ok (.putfield 117, 3) := by decide +kernel
theorem dX7_count_222 : decode cX7_count 222 = .ok (.goto 27, 3) := by decide +kernel
theorem dX7_count_225 : decode cX7_count 225 = .ok (.iload_n 3, 1) := by decide +kernel
theorem dX7_count_226 : decode cX7_count 226 = .ok (.bipush 42, 2) := by decide +kernel
theorem dX7_count_228 : decode cX7_count 228 = .ok (.if_icmp .eq 21, 3) := by decide +kernel
theorem dX7_count_231 : decode cX7_count 231 = .ok (.iload_n 3, 1) := by decide +kernel
theorem dX7_count_232 : decode cX7_count 232 = .ok (.bipush 43, 2) := by decide +kernel
theorem dX7_count_234 : decode cX7_count 234 = .ok (.if_icmp .eq 15, 3) := by decide +kernel
theorem dX7_count_237 : decode cX7_count 237 = .ok (.iload_n 3, 1) := by decide +kernel
theorem dX7_count_238 : decode cX7_count 238 = .ok (.bipush 63, 2) := by decide +kernel
theorem dX7_count_240 : decode cX7_count 240 = .ok (.if_icmp .eq 9, 3) := by decide +kernel
theorem dX7_count_243 : decode cX7_count 243 = .ok (.aload_n 0, 1) := by decide +kernel
theorem dX7_count_244 : decode cX7_count 244 = .ok (.iload_n 2, 1) := by decide +kernel
theorem dX7_count_245 : decode cX7_count 245 = .ok (.invokevirtual 132, 3) := by decide +kernel
theorem dX7_count_248 : decode cX7_count 248 = .ok (.return_, 1) := by decide +kernel
theorem dX7_count_249 : decode cX7_count 249 = .ok (.aload_n 0, 1) := by decide +kernel
theorem dX7_count_250 : decode cX7_count 250 = .ok (.dup, 1) := by decide +kernel
theorem dX7_count_251 : decode cX7_count 251 = .ok (.getfield 139, 3) := by decide +kernel
theorem dX7_count_254 : decode cX7_count 254 = .ok (.iconst 1, 1) := by decide +kernel
theorem dX7_count_255 : decode cX7_count 255 = .ok (.iadd, 1) := by decide +kernel
theorem dX7_count_256 : decode cX7_count 256 = .ok (.putfield 139, 3) := by decide +kernel
theorem dX7_count_259 : decode cX7_count 259 = .ok (.aload_n 0, 1) := by decide +kernel
theorem dX7_count_260 : decode cX7_count 260 = .ok (.aload_n 0, 1) := by decide +kernel
theorem dX7_count_261 : decode cX7_count 261 = .ok (.getfield 139, 3) := by decide +kernel
theorem dX7_count_264 : decode cX7_count 264 = .ok (.invokevirtual 142, 3) := by decide +kernel
theorem dX7_count_267 : decode cX7_count 267 = .ok (.bipush 63, 2) := by decide +kernel
theorem dX7_count_269 : decode cX7_count 269 = .ok (.if_icmp .ne 7, 3) := by decide +kernel
theorem dX7_count_272 : decode cX7_count 272 = .ok (.iconst 1, 1) := by decide +kernel
theorem dX7_count_273 : decode cX7_count 273 = .ok (.goto 4, 3) := by decide +kernel
theorem dX7_count_276 : decode cX7_count 276 = .ok (.iconst 0, 1) := by decide +kernel
theorem dX7_count_277 : decode cX7_count 277 = .ok (.istore 6, 2) := by decide +kernel
theorem dX7_count_279 : decode cX7_count 279 = .ok (.aload_n 0, 1) := by decide +kernel
theorem dX7_count_280 : decode cX7_count 280 = .ok (.dup, 1) := by decide +kernel
theorem dX7_count_281 : decode cX7_count 281 = .ok (.getfield 139, 3) := by decide +kernel
theorem dX7_count_284 : decode cX7_count 284 = .ok (.iload 6, 2) := by decide +kernel
theorem dX7_count_286 : decode cX7_count 286 = .ok (.iadd, 1) := by decide +kernel
theorem dX7_count_287 : decode cX7_count 287 = .ok (.putfield 139, 3) := by decide +kernel
theorem dX7_count_290 : decode cX7_count 290 = .ok (.iload 5, 2) := by decide +kernel
theorem dX7_count_292 : decode cX7_count 292 = .ok (.bipush 99, 2) := by decide +kernel
theorem dX7_count_294 : decode cX7_count 294 = .ok (.if_icmp .ne 10, 3) := by decide +kernel
theorem dX7_count_297 : decode cX7_count 297 = .ok (.iload 4, 2) := by decide +kernel
theorem dX7_count_299 : decode cX7_count 299 = .ok (.iconst 1, 1) := by decide +kernel
theorem dX7_count_300 : decode cX7_count 300 = .ok (.iadd, 1) := by decide +kernel
theorem dX7_count_301 : decode cX7_count 301 = .ok (.goto 5, 3) := by decide +kernel
theorem dX7_count_304 : decode cX7_count 304 = .ok (.iload 5, 2) := by decide +kernel
theorem dX7_count_306 : decode cX7_count 306 = .ok (.istore 7, 2) := by decide +kernel
theorem dX7_count_308 : decode cX7_count 308 = .ok (.aload_n 0, 1) := by decide +kernel
theorem dX7_count_309 : decode cX7_count 309 = .ok (.iload_n 2, 1) := by decide +kernel
theorem dX7_count_310 : decode cX7_count 310 = .ok (.iload 7, 2) := by decide +kernel
theorem dX7_count_312 : decode cX7_count 312 = .ok (.iconst 1, 1) := by decide +kernel
theorem dX7_count_313 : decode cX7_count 313 = .ok (.if_icmp .ge 7, 3) := by decide +kernel
theorem dX7_count_316 : decode cX7_count 316 = .ok (.iconst 1, 1) := by decide +kernel
theorem dX7_count_317 : decode cX7_count 317 = .ok (.goto 5, 3) := by decide +kernel
theorem dX7_count_320 : decode cX7_count 320 = .ok (.iload 7, 2) := by decide +kernel
theorem dX7_count_322 : decode cX7_count 322 = .ok (.imul, 1) := by decide +kernel
theorem dX7_count_323 : decode cX7_count 323 = .ok (.iconst 2, 1) := by decide +kernel
theorem dX7_count_324 : decode cX7_count 324 = .ok (.iadd, 1) := by decide +kernel
theorem dX7_count_325 : decode cX7_count 325 = .ok (.invokevirtual 132, 3) := by decide +kernel
theorem dX7_count_328 : decode cX7_count 328 = .ok (.aload_n 0, 1) := by decide +kernel
theorem dX7_count_329 : decode cX7_count 329 = .ok (.getfield 35, 3) := by decide +kernel
theorem dX7_count_332 : decode cX7_count 332 = .ok (.iload_n 1, 1) := by decide +kernel
theorem dX7_count_333 : decode cX7_count 333 = .ok (.bipush 14, 2) := by decide +kernel
theorem dX7_count_335 : decode cX7_count 335 = .ok (.iastore, 1) := by decide +kernel
theorem dX7_count_336 : decode cX7_count 336 = .ok (.aload_n 0, 1) := by decide +kernel
theorem dX7_count_337 : decode cX7_count 337 = .ok (.getfield 38, 3) := by decide +kernel
theorem dX7_count_340 : decode cX7_count 340 = .ok (.iload_n 1, 1) := by decide +kernel
theorem dX7_count_341 : decode cX7_count 341 = .ok (.iload 4, 2) := by decide +kernel
theorem dX7_count_343 : decode cX7_count 343 = .ok (.sipush 128, 3) := by decide +kernel
theorem dX7_count_346 : decode cX7_count 346 = .ok (.iload 5, 2) := by decide +kernel
theorem dX7_count_348 : decode cX7_count 348 = .ok (.imul, 1) := by decide +kernel
theorem dX7_count_349 : decode cX7_count 349 = .ok (.iadd, 1) := by decide +kernel
theorem dX7_count_350 : decode cX7_count 350 = .ok (.ldc 149, 2) := by decide +kernel
theorem dX7_count_352 : decode cX7_count 352 = .ok (.iload 6, 2) := by decide +kernel
theorem dX7_count_354 : decode cX7_count 354 = .ok (.imul, 1) := by decide +kernel
theorem dX7_count_355 : decode cX7_count 355 = .ok (.iadd, 1) := by decide +kernel
theorem dX7_count_356 : decode cX7_count 356 = .ok (.iastore, 1) := by decide +kernel
theorem dX7_count_357 : decode cX7_count 357 = .ok (.aload_n 0, 1) := by decide +kernel
theorem dX7_count_358 : decode cX7_count 358 = .ok (.getfield 44, 3) := by decide +kernel
theorem dX7_count_361 : decode cX7_count 361 = .ok (.iload_n 1, 1) := by decide +kernel
theorem dX7_count_362 : decode cX7_count 362 = .ok (.aload_n 0, 1) := by decide +kernel
theorem dX7_count_363 : decode cX7_count 363 = .ok (.getfield 150, 3) := by decide +kernel
theorem dX7_count_366 : decode cX7_count 366 = .ok (.iastore, 1) := by decide +kernel
theorem dX7_count_367 : decode cX7_count 367 = .ok (.aload_n 0, 1) := by decide +kernel
theorem dX7_count_368 : decode cX7_count 368 = .ok (.getfield 41, 3) := by decide +kernel
theorem dX7_count_371 : decode cX7_count 371 = .ok (.iload_n 1, 1) := by decide +kernel
theorem dX7_count_372 : decode cX7_count 372 = .ok (.bipush 16, 2) := by decide +kernel
theorem dX7_count_374 : decode cX7_count 374 = .ok (.aload_n 0, 1) := by decide +kernel
theorem dX7_count_375 : decode cX7_count 375 = .ok (.getfield 41, 3) := by decide +kernel
theorem dX7_count_378 : decode cX7_count 378 = .ok (.iload_n 1, 1) := by decide +kernel
theorem dX7_count_379 : decode cX7_count 379 = .ok (.iaload, 1) := by decide +kernel
theorem dX7_count_380 : decode cX7_count 380 = .ok (.imul, 1) := by decide +kernel
theorem dX7_count_381 : decode cX7_count 381 = .ok (.aload_n 0, 1) := by decide +kernel
theorem dX7_count_382 : decode cX7_count 382 = .ok (.getfield 153, 3) := by decide +kernel
theorem dX7_count_385 : decode cX7_count 385 = .ok (.iadd, 1) := by decide +kernel
theorem dX7_count_386 : decode cX7_count 386 = .ok (.sipush 4096, 3) := by decide +kernel
theorem dX7_count_389 : decode cX7_count 389 = .ok (.aload_n 0, 1) := by decide +kernel
theorem dX7_count_390 : decode cX7_count 390 = .ok (.getfield 114, 3) := by decide +kernel
theorem dX7_count_393 : decode cX7_count 393 = .ok (.imul, 1) := by decide +kernel
theorem dX7_count_394 : decode cX7_count 394 = .ok (.iadd, 1) := by decide +kernel
theorem dX7_count_395 : decode cX7_count 395 = .ok (.iastore, 1) := by decide +kernel
theorem dX7_count_396 : decode cX7_count 396 = .ok (.aload_n 0, 1) := by decide +kernel
theorem dX7_count_397 : decode cX7_count 397 = .ok (.bipush 15, 2) := by decide +kernel
theorem dX7_count_399 : decode cX7_count 399 = .ok (.iload_n 1, 1) := by decide +kernel
theorem dX7_count_400 : decode cX7_count 400 = .ok (.iconst 0, 1) := by decide +kernel
theorem dX7_count_401 : decode cX7_count 401 = .ok (.iconst 0, 1) := by decide +kernel
theorem dX7_count_402 : decode cX7_count 402 = .ok (.invokevirtual 124, 3) := by decide +kernel
theorem dX7_count_405 : decode cX7_count 405 = .ok (.pop, 1) := by decide +kernel
theorem dX7_count_406 : decode cX7_count 406 = .ok (.aload_n 0, 1) := by decide +kernel
theorem dX7_count_407 : decode cX7_count 407 = .ok (.dup, 1) := by decide +kernel
theorem dX7_count_408 : decode cX7_count 408 = .ok (.getfield 150, 3) := by decide +kernel
theorem dX7_count_411 : decode cX7_count 411 = .ok (.iconst 1, 1) := by decide +kernel
theorem dX7_count_412 : decode cX7_count 412 = .ok (.iadd, 1) := by decide +kernel
theorem dX7_count_413 : decode cX7_count 413 = .ok (.putfield 150, 3) := by decide +kernel
theorem dX7_count_416 : decode cX7_count 416 = .ok (.return_, 1) := by decide +kernel
set_option maxRecDepth 20000 in
theorem ggX7_openParenthesis_X7_sign : GoodIn wsX7_openParenthesis wsX7_sign := goodIn_r _ [11, 12, 13, 32, 33, 34, 35, 36, 37, 38, 39, 40, 41, 42, 43, 44, 45, 46, 47, 48, 49, 50, 51, 52, 53, 54, 55, 56, 57, 58, 59, 60, 61, 62, 63, 64, 65, 66, 67, 68, 69, 70, 71, 72, 73, 74, 75, 76, 77, 78, 79, 80, 81] (by decide +kernel) (by decide +kernel)
set_option maxRecDepth 20000 in
theorem gX7_openParenthesis_X7_sign : GoodIn wsX7_openParenthesis (wsV RX7 142 RX7 yX7_sign wsX7_sign) := goodIn_app (goodIn_of _ (by decide +kernel)) ggX7_openParenthesis_X7_sign
set_option maxRecDepth 20000 in
theorem ggX7_openParenthesis_X7_emit : GoodIn wsX7_openParenthesis wsX7_emit := goodIn_r _ [17, 18, 19, 20, 21, 22, 32, 33, 34, 35, 36, 37, 38, 39, 40, 41, 42, 43, 44, 45, 46, 47, 48, 49, 50, 51, 52, 53, 54, 55, 56, 57, 58, 59, 60, 61, 62, 63, 64, 65, 66, 67, 68, 69, 70, 71, 72, 73, 74, 75, 76, 77, 78, 79, 80, 81] (by decide +kernel) (by decide +kernel)
set_option maxRecDepth 20000 in
theorem gX7_openParenthesis_X7_emit : GoodIn wsX7_openParenthesis (wsV RX7 124 RX7 yX7_emit wsX7_emit) := goodIn_app (goodIn_of _ (by decide +kernel)) ggX7_openParenthesis_X7_emit
set_option maxRecDepth 20000 in
theorem ggX7_openParenthesis_X7_openBody : GoodIn wsX7_openParenthesis wsX7_openBody := goodIn_r _ [26, 6, 4, 27, 3, 28, 29, 30, 31, 14, 15, 16, 10, 17, 18, 19, 20, 21, 22, 32, 33, 34, 35, 36, 37, 38, 39, 40, 41, 42, 43, 44, 45, 46, 47, 48, 49, 50, 51, 52, 53, 54, 55, 56, 57, 58, 59, 60, 61, 62, 63, 64, 65, 66, 67, 68, 69, 70, 71, 72, 73, 74, 75, 76, 77, 78, 79, 80, 81] (by decide +kernel) (by decide +kernel)
set_option maxRecDepth 20000 in
theorem gX7_openParenthesis_X7_openBody : GoodIn wsX7_openParenthesis (wsV RX7 156 RX7 yX7_openBody wsX7_openBody) := goodIn_app (goodIn_of _ (by decide +kernel)) ggX7_openParenthesis_X7_openBody
theorem dX7_openParenthesis_0 : decode cX7_openParenthesis 0 = .ok (.aload_n 0, 1) := by decide +kernel
theorem dX7_openParenthesis_1 : decode cX7_openParenthesis 1 = .ok (.dup, 1) := by decide +kernel
theorem dX7_openParenthesis_2 : decode cX7_openParenthesis 2 = .ok (.getfield 139, 3) := by decide +kernel
theorem dX7_openParenthesis_5 : decode cX7_openParenthesis 5 = .ok (.iconst 1, 1) := by decide +kernel
theorem dX7_openParenthesis_6 : decode cX7_openParenthesis 6 = .ok (.iadd, 1) := by decide +kernel
theorem dX7_openParenthesis_7 : decode cX7_openParenthesis 7 = .ok (.putfield 139, 3) := by decide +kernel
theorem dX7_openParenthesis_10 : decode cX7_openParenthesis 10 = .ok (.aload_n 0, 1) := by decide +kernel
theorem dX7_openParenthesis_11 : decode cX7_openParenthesis 11 = .ok (.aload_n 0, 1) := by decide +kernel
theorem dX7_openParenthesis_12 : decode cX7_openParenthesis 12 = .ok (.getfield 139, 3) := by decide +kernel
theorem dX7_openParenthesis_15 : decode cX7_openParenthesis 15 = .ok (.invokevirtual 142, 3) := by decide +kernel
theorem dX7_openParenthesis_18 : decode cX7_openParenthesis 18 = .ok (.bipush 63, 2) := by decide +kernel
theorem dX7_openParenthesis_20 : decode cX7_openParenthesis 20 = .ok (.if_icmp .eq 61, 3) := by decide +kernel
theorem dX7_openParenthesis_23 : decode cX7_openParenthesis 23 = .ok (.aload_n 0, 1) := by decide +kernel
theorem dX7_openParenthesis_24 : decode cX7_openParenthesis 24 = .ok (.bipush 17, 2) := by decide +kernel
theorem dX7_openParenthesis_26 : decode cX7_openParenthesis 26 = .ok (.iconst 0, 1) := by decide +kernel
theorem dX7_openParenthesis_27 : decode cX7_openParenthesis 27 = .ok (.aload_n 0, 1) := by decide +kernel
theorem dX7_openParenthesis_28 : decode cX7_openParenthesis 28 = .ok (.getfield 153, 3) := by decide +kernel
theorem dX7_openParenthesis_31 : decode cX7_openParenthesis 31 = .ok (.iconst 0, 1) := by decide +kernel
theorem dX7_openParenthesis_32 : decode cX7_openParenthesis 32 = .ok (.invokevirtual 124, 3) := by decide +kernel
theorem dX7_openParenthesis_35 : decode cX7_openParenthesis 35 = .ok (.istore_n 1, 1) := by decide +kernel
theorem dX7_openParenthesis_36 : decode cX7_openParenthesis 36 = .ok (.aload_n 0, 1) := by decide +kernel
theorem dX7_openParenthesis_37 : decode cX7_openParenthesis 37 = .ok (.dup, 1) := by decide +kernel
theorem dX7_openParenthesis_38 : decode cX7_openParenthesis 38 = .ok (.getfield 153, 3) := by decide +kernel
theorem dX7_openParenthesis_41 : decode cX7_openParenthesis 41 = .ok (.iconst 1, 1) := by decide +kernel
theorem dX7_openParenthesis_42 : decode cX7_openParenthesis 42 = .ok (.iadd, 1) := by decide +kernel
theorem dX7_openParenthesis_43 : decode cX7_openParenthesis 43 = .ok (.putfield 153, 3) := by decide +kernel
theorem dX7_openParenthesis_46 : decode cX7_openParenthesis 46 = .ok (.aload_n 0, 1) := by decide +kernel
theorem dX7_openParenthesis_47 : decode cX7_openParenthesis 47 = .ok (.bipush 10, 2) := by decide +kernel
theorem dX7_openParenthesis_49 : decode cX7_openParenthesis 49 = .ok (.aload_n 0, 1) := by decide +kernel
theorem dX7_openParenthesis_50 : decode cX7_openParenthesis 50 = .ok (.getfield 153, 3) := by decide +kernel
theorem dX7_openParenthesis_53 : decode cX7_openParenthesis 53 = .ok (.iconst 0, 1) := by decide +kernel
theorem dX7_openParenthesis_54 : decode cX7_openParenthesis 54 = .ok (.iconst 0, 1) := by decide +kernel
theorem dX7_openParenthesis_55 : decode cX7_openParenthesis 55 = .ok (.invokevirtual 124, 3) := by decide +kernel
theorem dX7_openParenthesis_58 : decode cX7_openParenthesis 58 = .ok (.pop, 1) := by decide +kernel
theorem dX7_openParenthesis_59 : decode cX7_openParenthesis 59 = .ok (.aload_n 0, 1) := by decide +kernel
theorem dX7_openParenthesis_60 : decode cX7_openParenthesis 60 = .ok (.iconst 1, 1) := by decide +kernel
theorem dX7_openParenthesis_61 : decode cX7_openParenthesis 61 = .ok (.iload_n 1, 1) := by decide +kernel
theorem dX7_openParenthesis_62 : decode cX7_openParenthesis 62 = .ok (.invokevirtual 156, 3) := by decide +kernel
theorem dX7_openParenthesis_65 : decode cX7_openParenthesis 65 = .ok (.aload_n 0, 1) := by decide +kernel
theorem dX7_openParenthesis_66 : decode cX7_openParenthesis 66 = .ok (.getfield 50, 3) := by decide +kernel
theorem dX7_openParenthesis_69 : decode cX7_openParenthesis 69 = .ok (.aload_n 0, 1) := by decide +kernel
theorem dX7_openParenthesis_70 : decode cX7_openParenthesis 70 = .ok (.getfield 121, 3) := by decide +kernel
theorem dX7_openParenthesis_73 : decode cX7_openParenthesis 73 = .ok (.iconst 1, 1) := by decide +kernel
theorem dX7_openParenthesis_74 : decode cX7_openParenthesis 74 = .ok (.isub, 1) := by decide +kernel
theorem dX7_openParenthesis_75 : decode cX7_openParenthesis 75 = .ok (.aload_n 0, 1) := by decide +kernel
theorem dX7_openParenthesis_76 : decode cX7_openParenthesis 76 = .ok (.getfield 153, 3) := by decide +kernel
theorem dX7_openParenthesis_79 : decode cX7_openParenthesis 79 = .ok (.iastore, 1) := by decide +kernel
theorem dX7_openParenthesis_80 : decode cX7_openParenthesis 80 = .ok (.return_, 1) := by decide +kernel
theorem dX7_openParenthesis_81 : decode cX7_openParenthesis 81 = .ok (.aload_n 0, 1) := by decide +kernel
theorem dX7_openParenthesis_82 : decode cX7_openParenthesis 82 = .ok (.aload_n 0, 1) := by decide +kernel
theorem dX7_openParenthesis_83 : decode cX7_openParenthesis 83 = .ok (.getfield 139, 3) := by decide +kernel
theorem dX7_openParenthesis_86 : decode cX7_openParenthesis 86 = .ok (.iconst 1, 1) := by decide +kernel
theorem dX7_openParenthesis_87 : decode cX7_openParenthesis 87 = .ok (.iadd, 1) := by decide +kernel
theorem dX7_openParenthesis_88 : decode cX7_openParenthesis 88 = .ok (.invokevirtual 142, 3) := by decide +kernel
theorem dX7_openParenthesis_91 : decode cX7_openParenthesis 91 = .ok (.istore_n 1, 1) := by decide +kernel
theorem dX7_openParenthesis_92 : decode cX7_openParenthesis 92 = .ok (.aload_n 0, 1) := by decide +kernel
theorem dX7_openParenthesis_93 : decode cX7_openParenthesis 93 = .ok (.dup, 1) := by decide +kernel
theorem dX7_openParenthesis_94 : decode cX7_openParenthesis 94 = .ok (.getfield 139, 3) := by decide +kernel
theorem dX7_openParenthesis_97 : decode cX7_openParenthesis 97 = .ok (.iconst 2, 1) := by decide +kernel
theorem dX7_openParenthesis_98 : decode cX7_openParenthesis 98 = .ok (.iadd, 1) := by decide +kernel
theorem dX7_openParenthesis_99 : decode cX7_openParenthesis 99 = .ok (.putfield 139, 3) := by decide +kernel
theorem dX7_openParenthesis_102 : decode cX7_openParenthesis 102 = .ok (.iload_n 1, 1) := by decide +kernel
theorem dX7_openParenthesis_103 : decode cX7_openParenthesis 103 = .ok (.bipush 58, 2) := by decide +kernel
theorem dX7_openParenthesis_105 : decode cX7_openParenthesis 105 = .ok (.if_icmp .ne 25, 3) := by decide +kernel
theorem dX7_openParenthesis_108 : decode cX7_openParenthesis 108 = .ok (.aload_n 0, 1) := by decide +kernel
theorem dX7_openParenthesis_109 : decode cX7_openParenthesis 109 = .ok (.bipush 17, 2) := by decide +kernel
theorem dX7_openParenthesis_111 : decode cX7_openParenthesis 111 = .ok (.iconst 0, 1) := by decide +kernel
theorem dX7_openParenthesis_112 : decode cX7_openParenthesis 112 = .ok (.aload_n 0, 1) := by decide +kernel
theorem dX7_openParenthesis_113 : decode cX7_openParenthesis 113 = .ok (.getfield 153, 3) := by decide +kernel
theorem dX7_openParenthesis_116 : decode cX7_openParenthesis 116 = .ok (.iconst 0, 1) := by decide +kernel
theorem dX7_openParenthesis_117 : decode cX7_openParenthesis 117 = .ok (.invokevirtual 124, 3) := by decide +kernel
theorem dX7_openParenthesis_120 : decode cX7_openParenthesis 120 = .ok (.istore_n 2, 1) := by decide +kernel
theorem dX7_openParenthesis_121 : decode cX7_openParenthesis 121 = .ok (.aload_n 0, 1) := by decide +kernel
theorem dX7_openParenthesis_122 : decode cX7_openParenthesis 122 = .ok (.iconst 2, 1) := by decide +kernel
theorem dX7_openParenthesis_123 : decode cX7_openParenthesis 123 = .ok (.iload_n 2, 1) := by decide +kernel
theorem dX7_openParenthesis_124 : decode cX7_openParenthesis 124 = .ok (.invokevirtual 156, 3) := by decide +kernel
theorem dX7_openParenthesis_127 : decode cX7_openParenthesis 127 = .ok (.goto 72, 3) := by decide +kernel
theorem dX7_openParenthesis_130 : decode cX7_openParenthesis 130 = .ok (.iload_n 1, 1) := by decide +kernel
theorem dX7_openParenthesis_131 : decode cX7_openParenthesis 131 = .ok (.bipush 61, 2) := by decide +kernel
theorem dX7_openParenthesis_133 : decode cX7_openParenthesis 133 = .ok (.if_icmp .eq 9, 3) := by decide +kernel
theorem dX7_openParenthesis_136 : decode cX7_openParenthesis 136 = .ok (.iload_n 1, 1) := by decide +kernel
theorem dX7_openParenthesis_137 : decode cX7_openParenthesis 137 = .ok (.bipush 33, 2) := by decide +kernel
theorem dX7_openParenthesis_139 : decode cX7_openParenthesis 139 = .ok (.if_icmp .ne 55, 3) := by decide +kernel
theorem dX7_openParenthesis_142 : decode cX7_openParenthesis 142 = .ok (.aload_n 0, 1) := by decide +kernel
theorem dX7_openParenthesis_143 : decode cX7_openParenthesis 143 = .ok (.bipush 12, 2) := by decide +kernel
theorem dX7_openParenthesis_145 : decode cX7_openParenthesis 145 = .ok (.iload_n 1, 1) := by decide +kernel
theorem dX7_openParenthesis_146 : decode cX7_openParenthesis 146 = .ok (.bipush 61, 2) := by decide +kernel
theorem dX7_openParenthesis_148 : decode cX7_openParenthesis 148 = .ok (.if_icmp .ne 7, 3) := by decide +kernel
theorem dX7_openParenthesis_151 : decode cX7_openParenthesis 151 = .ok (.iconst 1, 1) := by decide +kernel
theorem dX7_openParenthesis_152 : decode cX7_openParenthesis 152 = .ok (.goto 4, 3) := by decide +kernel
theorem dX7_openParenthesis_155 : decode cX7_openParenthesis 155 = .ok (.iconst 0, 1) := by decide +kernel
theorem dX7_openParenthesis_156 : decode cX7_openParenthesis 156 = .ok (.iconst 0, 1) := by decide +kernel
theorem dX7_openParenthesis_157 : decode cX7_openParenthesis 157 = .ok (.aload_n 0, 1) := by decide +kernel
theorem dX7_openParenthesis_158 : decode cX7_openParenthesis 158 = .ok (.getfield 159, 3) := by decide +kernel
theorem dX7_openParenthesis_161 : decode cX7_openParenthesis 161 = .ok (.invokevirtual 124, 3) := by decide +kernel
