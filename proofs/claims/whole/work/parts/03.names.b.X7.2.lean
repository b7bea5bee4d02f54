theorem dX7_openParenthesis_164 : decode cX7_openParenthesis 164 = .ok (.istore_n 2, 1) := by decide +kernel
theorem dX7_openParenthesis_165 : decode cX7_openParenthesis 165 = .ok (.aload_n 0, 1) := by decide +kernel
theorem dX7_openParenthesis_166 : decode cX7_openParenthesis 166 = .ok (.dup, 1) := by decide +kernel
theorem dX7_openParenthesis_167 : decode cX7_openParenthesis 167 = .ok (.getfield 159, 3) := by decide +kernel
theorem dX7_openParenthesis_170 : decode cX7_openParenthesis 170 = .ok (.iconst 1, 1) := by decide +kernel
theorem dX7_openParenthesis_171 : decode cX7_openParenthesis 171 = .ok (.iadd, 1) := by decide +kernel
theorem dX7_openParenthesis_172 : decode cX7_openParenthesis 172 = .ok (.putfield 159, 3) := by decide +kernel
theorem dX7_openParenthesis_175 : decode cX7_openParenthesis 175 = .ok (.aload_n 0, 1) := by decide +kernel
theorem dX7_openParenthesis_176 : decode cX7_openParenthesis 176 = .ok (.iload_n 1, 1) := by decide +kernel
theorem dX7_openParenthesis_177 : decode cX7_openParenthesis 177 = .ok (.bipush 61, 2) := by decide +kernel
theorem dX7_openParenthesis_179 : decode cX7_openParenthesis 179 = .ok (.if_icmp .ne 7, 3) := by decide +kernel
theorem dX7_openParenthesis_182 : decode cX7_openParenthesis 182 = .ok (.iconst 3, 1) := by decide +kernel
theorem dX7_openParenthesis_183 : decode cX7_openParenthesis 183 = .ok (.goto 4, 3) := by decide +kernel
theorem dX7_openParenthesis_186 : decode cX7_openParenthesis 186 = .ok (.iconst 4, 1) := by decide +kernel
theorem dX7_openParenthesis_187 : decode cX7_openParenthesis 187 = .ok (.iload_n 2, 1) := by decide +kernel
theorem dX7_openParenthesis_188 : decode cX7_openParenthesis 188 = .ok (.invokevirtual 156, 3) := by decide +kernel
theorem dX7_openParenthesis_191 : decode cX7_openParenthesis 191 = .ok (.goto 8, 3) := by decide +kernel
theorem dX7_openParenthesis_194 : decode cX7_openParenthesis 194 = .ok (.aload_n 0, 1) := by decide +kernel
theorem dX7_openParenthesis_195 : decode cX7_openParenthesis 195 = .ok (.iconst 1, 1) := by decide +kernel
theorem dX7_openParenthesis_196 : decode cX7_openParenthesis 196 = .ok (.putfield 117, 3) := by decide +kernel
theorem dX7_openParenthesis_199 : decode cX7_openParenthesis 199 = .ok (.return_, 1) := by decide +kernel
set_option maxRecDepth 20000 in
theorem ggX7_mark_X7_sign : GoodIn wsX7_mark wsX7_sign := goodIn_r _ [6, 7, 8, 15, 16, 17, 18, 19, 20, 21, 22, 23, 24, 25, 26, 27, 28, 29, 30, 31, 32, 33, 34, 35, 36, 37, 38, 39, 40, 41, 42, 43, 44, 45, 46, 47, 48, 49, 50, 51, 52, 53, 54, 55, 56, 57, 58, 59, 60, 61, 62, 63, 64] (by decide +kernel) (by decide +kernel)
set_option maxRecDepth 20000 in
theorem gX7_mark_X7_sign : GoodIn wsX7_mark (wsV RX7 142 RX7 yX7_sign wsX7_sign) := goodIn_app (goodIn_of _ (by decide +kernel)) ggX7_mark_X7_sign
set_option maxRecDepth 20000 in
theorem ggX7_mark_X7_isSpecial : GoodIn wsX7_mark wsX7_isSpecial := goodIn_r _ [11] (by decide +kernel) (by decide +kernel)
set_option maxRecDepth 20000 in
theorem gX7_mark_X7_isSpecial : GoodIn wsX7_mark (va_wsS RX7 162 yX7_isSpecial wsX7_isSpecial) := goodIn_app (goodIn_of _ (by decide +kernel)) ggX7_mark_X7_isSpecial
set_option maxRecDepth 20000 in
theorem ggX7_mark_X7_isClass : GoodIn wsX7_mark wsX7_isClass := goodIn_r _ [14] (by decide +kernel) (by decide +kernel)
set_option maxRecDepth 20000 in
theorem gX7_mark_X7_isClass : GoodIn wsX7_mark (va_wsS RX7 165 yX7_isClass wsX7_isClass) := goodIn_app (goodIn_of _ (by decide +kernel)) ggX7_mark_X7_isClass
theorem dX7_mark_0 : decode cX7_mark 0 = .ok (.aload_n 0, 1) := by decide +kernel
theorem dX7_mark_1 : decode cX7_mark 1 = .ok (.aload_n 0, 1) := by decide +kernel
theorem dX7_mark_2 : decode cX7_mark 2 = .ok (.getfield 139, 3) := by decide +kernel
theorem dX7_mark_5 : decode cX7_mark 5 = .ok (.invokevirtual 142, 3) := by decide +kernel
theorem dX7_mark_8 : decode cX7_mark 8 = .ok (.istore_n 1, 1) := by decide +kernel
theorem dX7_mark_9 : decode cX7_mark 9 = .ok (.iload_n 1, 1) := by decide +kernel
theorem dX7_mark_10 : decode cX7_mark 10 = .ok (.ifCond .eq 9, 3) := by decide +kernel
theorem dX7_mark_13 : decode cX7_mark 13 = .ok (.iload_n 1, 1) := by decide +kernel
theorem dX7_mark_14 : decode cX7_mark 14 = .ok (.bipush 93, 2) := by decide +kernel
theorem dX7_mark_16 : decode cX7_mark 16 = .ok (.if_icmp .ne 5, 3) := by decide +kernel
theorem dX7_mark_19 : decode cX7_mark 19 = .ok (.iconst 0, 1) := by decide +kernel
theorem dX7_mark_20 : decode cX7_mark 20 = .ok (.ireturn, 1) := by decide +kernel
theorem dX7_mark_21 : decode cX7_mark 21 = .ok (.aload_n 0, 1) := by decide +kernel
theorem dX7_mark_22 : decode cX7_mark 22 = .ok (.dup, 1) := by decide +kernel
theorem dX7_mark_23 : decode cX7_mark 23 = .ok (.getfield 139, 3) := by decide +kernel
theorem dX7_mark_26 : decode cX7_mark 26 = .ok (.iconst 1, 1) := by decide +kernel
theorem dX7_mark_27 : decode cX7_mark 27 = .ok (.iadd, 1) := by decide +kernel
theorem dX7_mark_28 : decode cX7_mark 28 = .ok (.putfield 139, 3) := by decide +kernel
theorem dX7_mark_31 : decode cX7_mark 31 = .ok (.iload_n 1, 1) := by decide +kernel
theorem dX7_mark_32 : decode cX7_mark 32 = .ok (.bipush 92, 2) := by decide +kernel
theorem dX7_mark_34 : decode cX7_mark 34 = .ok (.if_icmp .eq 5, 3) := by decide +kernel
theorem dX7_mark_37 : decode cX7_mark 37 = .ok (.iload_n 1, 1) := by decide +kernel
theorem dX7_mark_38 : decode cX7_mark 38 = .ok (.ireturn, 1) := by decide +kernel
theorem dX7_mark_39 : decode cX7_mark 39 = .ok (.aload_n 0, 1) := by decide +kernel
theorem dX7_mark_40 : decode cX7_mark 40 = .ok (.aload_n 0, 1) := by decide +kernel
theorem dX7_mark_41 : decode cX7_mark 41 = .ok (.getfield 139, 3) := by decide +kernel
theorem dX7_mark_44 : decode cX7_mark 44 = .ok (.invokevirtual 142, 3) := by decide +kernel
theorem dX7_mark_47 : decode cX7_mark 47 = .ok (.istore_n 2, 1) := by decide +kernel
theorem dX7_mark_48 : decode cX7_mark 48 = .ok (.aload_n 0, 1) := by decide +kernel
theorem dX7_mark_49 : decode cX7_mark 49 = .ok (.dup, 1) := by decide +kernel
theorem dX7_mark_50 : decode cX7_mark 50 = .ok (.getfield 139, 3) := by decide +kernel
theorem dX7_mark_53 : decode cX7_mark 53 = .ok (.iconst 1, 1) := by decide +kernel
theorem dX7_mark_54 : decode cX7_mark 54 = .ok (.iadd, 1) := by decide +kernel
theorem dX7_mark_55 : decode cX7_mark 55 = .ok (.putfield 139, 3) := by decide +kernel
theorem dX7_mark_58 : decode cX7_mark 58 = .ok (.iload_n 2, 1) := by decide +kernel
theorem dX7_mark_59 : decode cX7_mark 59 = .ok (.invokestatic 162, 3) := by decide +kernel
theorem dX7_mark_62 : decode cX7_mark 62 = .ok (.ifCond .ne 15, 3) := by decide +kernel
theorem dX7_mark_65 : decode cX7_mark 65 = .ok (.iload_n 2, 1) := by decide +kernel
theorem dX7_mark_66 : decode cX7_mark 66 = .ok (.bipush 47, 2) := by decide +kernel
theorem dX7_mark_68 : decode cX7_mark 68 = .ok (.if_icmp .eq 9, 3) := by decide +kernel
theorem dX7_mark_71 : decode cX7_mark 71 = .ok (.iload_n 2, 1) := by decide +kernel
theorem dX7_mark_72 : decode cX7_mark 72 = .ok (.bipush 45, 2) := by decide +kernel
theorem dX7_mark_74 : decode cX7_mark 74 = .ok (.if_icmp .ne 5, 3) := by decide +kernel
theorem dX7_mark_77 : decode cX7_mark 77 = .ok (.iload_n 2, 1) := by decide +kernel
theorem dX7_mark_78 : decode cX7_mark 78 = .ok (.ireturn, 1) := by decide +kernel
theorem dX7_mark_79 : decode cX7_mark 79 = .ok (.iload_n 2, 1) := by decide +kernel
theorem dX7_mark_80 : decode cX7_mark 80 = .ok (.invokestatic 165, 3) := by decide +kernel
theorem dX7_mark_83 : decode cX7_mark 83 = .ok (.ifCond .eq 8, 3) := by decide +kernel
theorem dX7_mark_86 : decode cX7_mark 86 = .ok (.iload_n 2, 1) := by decide +kernel
theorem dX7_mark_87 : decode cX7_mark 87 = .ok (.ineg, 1) := by decide +kernel
theorem dX7_mark_88 : decode cX7_mark 88 = .ok (.goto 4, 3) := by decide +kernel
theorem dX7_mark_91 : decode cX7_mark 91 = .ok (.iconst 0, 1) := by decide +kernel
theorem dX7_mark_92 : decode cX7_mark 92 = .ok (.ireturn, 1) := by decide +kernel
set_option maxRecDepth 20000 in
theorem ggX7_set_X7_sign : GoodIn wsX7_set wsX7_sign := goodIn_r _ [7, 8, 9, 29, 30, 31, 32, 33, 34, 35, 36, 37, 38, 39, 40, 41, 42, 43, 44, 45, 46, 47, 48, 49, 50, 51, 52, 53, 54, 55, 56, 57, 58, 59, 60, 61, 62, 63, 64, 65, 66, 67, 68, 69, 70, 71, 72, 73, 74, 75, 76, 77, 78] (by decide +kernel) (by decide +kernel)
set_option maxRecDepth 20000 in
theorem gX7_set_X7_sign : GoodIn wsX7_set (wsV RX7 142 RX7 yX7_sign wsX7_sign) := goodIn_app (goodIn_of _ (by decide +kernel)) ggX7_set_X7_sign
set_option maxRecDepth 20000 in
theorem ggX7_set_X7_mark : GoodIn wsX7_set wsX7_mark := goodIn_r _ [13, 1, 3, 4, 5, 6, 7, 8, 9, 14, 15, 16, 17, 18, 19, 29, 30, 31, 32, 33, 34, 35, 36, 37, 38, 39, 40, 41, 42, 43, 44, 45, 46, 47, 48, 49, 50, 51, 52, 53, 54, 55, 56, 57, 58, 59, 60, 61, 62, 63, 64, 65, 66, 67, 68, 69, 70, 71, 72, 73, 74, 75, 76, 77, 78] (by decide +kernel) (by decide +kernel)
set_option maxRecDepth 20000 in
theorem gX7_set_X7_mark : GoodIn wsX7_set (wsV RX7 168 RX7 yX7_mark wsX7_mark) := goodIn_app (goodIn_of _ (by decide +kernel)) ggX7_set_X7_mark
set_option maxRecDepth 20000 in
theorem ggX7_set_X7_emit : GoodIn wsX7_set wsX7_emit := goodIn_r _ [23, 24, 25, 26, 27, 28, 29, 30, 31, 32, 33, 34, 35, 36, 37, 38, 39, 40, 41, 42, 43, 44, 45, 46, 47, 48, 49, 50, 51, 52, 53, 54, 55, 56, 57, 58, 59, 60, 61, 62, 63, 64, 65, 66, 67, 68, 69, 70, 71, 72, 73, 74, 75, 76, 77, 78] (by decide +kernel) (by decide +kernel)
set_option maxRecDepth 20000 in
theorem gX7_set_X7_emit : GoodIn wsX7_set (wsV RX7 124 RX7 yX7_emit wsX7_emit) := goodIn_app (goodIn_of _ (by decide +kernel)) ggX7_set_X7_emit
theorem dX7_set_0 : decode cX7_set 0 = .ok (.aload_n 0, 1) := by decide +kernel
theorem dX7_set_1 : decode cX7_set 1 = .ok (.dup, 1) := by decide +kernel
theorem dX7_set_2 : decode cX7_set 2 = .ok (.getfield 139, 3) := by decide +kernel
theorem dX7_set_5 : decode cX7_set 5 = .ok (.iconst 1, 1) := by decide +kernel
theorem dX7_set_6 : decode cX7_set 6 = .ok (.iadd, 1) := by decide +kernel
theorem dX7_set_7 : decode cX7_set 7 = .ok (.putfield 139, 3) := by decide +kernel
theorem dX7_set_10 : decode cX7_set 10 = .ok (.aload_n 0, 1) := by decide +kernel
theorem dX7_set_11 : decode cX7_set 11 = .ok (.aload_n 0, 1) := by decide +kernel
theorem dX7_set_12 : decode cX7_set 12 = .ok (.getfield 139, 3) := by decide +kernel
theorem dX7_set_15 : decode cX7_set 15 = .ok (.invokevirtual 142, 3) := by decide +kernel
theorem dX7_set_18 : decode cX7_set 18 = .ok (.bipush 94, 2) := by decide +kernel
theorem dX7_set_20 : decode cX7_set 20 = .ok (.if_icmp .ne 7, 3) := by decide +kernel
theorem dX7_set_23 : decode cX7_set 23 = .ok (.iconst 1, 1) := by decide +kernel
theorem dX7_set_24 : decode cX7_set 24 = .ok (.goto 4, 3) := by decide +kernel
theorem dX7_set_27 : decode cX7_set 27 = .ok (.iconst 0, 1) := by decide +kernel
theorem dX7_set_28 : decode cX7_set 28 = .ok (.istore_n 1, 1) := by decide +kernel
theorem dX7_set_29 : decode cX7_set 29 = .ok (.aload_n 0, 1) := by decide +kernel
theorem dX7_set_30 : decode cX7_set 30 = .ok (.dup, 1) := by decide +kernel
theorem dX7_set_31 : decode cX7_set 31 = .ok (.getfield 139, 3) := by decide +kernel
theorem dX7_set_34 : decode cX7_set 34 = .ok (.iload_n 1, 1) := by decide +kernel
theorem dX7_set_35 : decode cX7_set 35 = .ok (.ifCond .eq 7, 3) := by decide +kernel
theorem dX7_set_38 : decode cX7_set 38 = .ok (.iconst 1, 1) := by decide +kernel
theorem dX7_set_39 : decode cX7_set 39 = .ok (.goto 4, 3) := by decide +kernel
theorem dX7_set_42 : decode cX7_set 42 = .ok (.iconst 0, 1) := by decide +kernel
theorem dX7_set_43 : decode cX7_set 43 = .ok (.iadd, 1) := by decide +kernel
theorem dX7_set_44 : decode cX7_set 44 = .ok (.putfield 139, 3) := by decide +kernel
theorem dX7_set_47 : decode cX7_set 47 = .ok (.aload_n 0, 1) := by decide +kernel
theorem dX7_set_48 : decode cX7_set 48 = .ok (.getfield 139, 3) := by decide +kernel
theorem dX7_set_51 : decode cX7_set 51 = .ok (.istore_n 2, 1) := by decide +kernel
theorem dX7_set_52 : decode cX7_set 52 = .ok (.iconst 1, 1) := by decide +kernel
theorem dX7_set_53 : decode cX7_set 53 = .ok (.istore_n 3, 1) := by decide +kernel
theorem dX7_set_54 : decode cX7_set 54 = .ok (.aload_n 0, 1) := by decide +kernel
theorem dX7_set_55 : decode cX7_set 55 = .ok (.getfield 117, 3) := by decide +kernel
theorem dX7_set_58 : decode cX7_set 58 = .ok (.ifCond .ne 149, 3) := by decide +kernel
theorem dX7_set_61 : decode cX7_set 61 = .ok (.aload_n 0, 1) := by decide +kernel
theorem dX7_set_62 : decode cX7_set 62 = .ok (.aload_n 0, 1) := by decide +kernel
theorem dX7_set_63 : decode cX7_set 63 = .ok (.getfield 139, 3) := by decide +kernel
theorem dX7_set_66 : decode cX7_set 66 = .ok (.invokevirtual 142, 3) := by decide +kernel
theorem dX7_set_69 : decode cX7_set 69 = .ok (.bipush 93, 2) := by decide +kernel
theorem dX7_set_71 : decode cX7_set 71 = .ok (.if_icmp .eq 136, 3) := by decide +kernel
theorem dX7_set_74 : decode cX7_set 74 = .ok (.iload_n 3, 1) := by decide +kernel
theorem dX7_set_75 : decode cX7_set 75 = .ok (.ifCond .eq 20, 3) := by decide +kernel
theorem dX7_set_78 : decode cX7_set 78 = .ok (.aload_n 0, 1) := by decide +kernel
theorem dX7_set_79 : decode cX7_set 79 = .ok (.aload_n 0, 1) := by decide +kernel
theorem dX7_set_80 : decode cX7_set 80 = .ok (.getfield 139, 3) := by decide +kernel
theorem dX7_set_83 : decode cX7_set 83 = .ok (.invokevirtual 142, 3) := by decide +kernel
theorem dX7_set_86 : decode cX7_set 86 = .ok (.bipush 45, 2) := by decide +kernel
theorem dX7_set_88 : decode cX7_set 88 = .ok (.if_icmp .ne 7, 3) := by decide +kernel
theorem dX7_set_91 : decode cX7_set 91 = .ok (.iconst 1, 1) := by decide +kernel
theorem dX7_set_92 : decode cX7_set 92 = .ok (.goto 4, 3) := by decide +kernel
theorem dX7_set_95 : decode cX7_set 95 = .ok (.iconst 0, 1) := by decide +kernel
theorem dX7_set_96 : decode cX7_set 96 = .ok (.istore 4, 2) := by decide +kernel
theorem dX7_set_98 : decode cX7_set 98 = .ok (.aload_n 0, 1) := by decide +kernel
theorem dX7_set_99 : decode cX7_set 99 = .ok (.invokevirtual 168, 3) := by decide +kernel
theorem dX7_set_102 : decode cX7_set 102 = .ok (.istore 5, 2) := by decide +kernel
theorem dX7_set_104 : decode cX7_set 104 = .ok (.aload_n 0, 1) := by decide +kernel
theorem dX7_set_105 : decode cX7_set 105 = .ok (.iload 5, 2) := by decide +kernel
theorem dX7_set_107 : decode cX7_set 107 = .ok (.ifCond .ne 7, 3) := by decide +kernel
theorem dX7_set_110 : decode cX7_set 110 = .ok (.iconst 1, 1) := by decide +kernel
theorem dX7_set_111 : decode cX7_set 111 = .ok (.goto 4, 3) := by decide +kernel
theorem dX7_set_114 : decode cX7_set 114 = .ok (.iconst 0, 1) := by decide +kernel
theorem dX7_set_115 : decode cX7_set 115 = .ok (.putfield 117, 3) := by decide +kernel
theorem dX7_set_118 : decode cX7_set 118 = .ok (.iconst 0, 1) := by decide +kernel
theorem dX7_set_119 : decode cX7_set 119 = .ok (.istore_n 3, 1) := by decide +kernel
theorem dX7_set_120 : decode cX7_set 120 = .ok (.aload_n 0, 1) := by decide +kernel
theorem dX7_set_121 : decode cX7_set 121 = .ok (.getfield 117, 3) := by decide +kernel
theorem dX7_set_124 : decode cX7_set 124 = .ok (.ifCond .ne 80, 3) := by decide +kernel
theorem dX7_set_127 : decode cX7_set 127 = .ok (.iload 4, 2) := by decide +kernel
theorem dX7_set_129 : decode cX7_set 129 = .ok (.ifCond .ne 75, 3) := by decide +kernel
theorem dX7_set_132 : decode cX7_set 132 = .ok (.aload_n 0, 1) := by decide +kernel
theorem dX7_set_133 : decode cX7_set 133 = .ok (.aload_n 0, 1) := by decide +kernel
theorem dX7_set_134 : decode cX7_set 134 = .ok (.getfield 139, 3) := by decide +kernel
theorem dX7_set_137 : decode cX7_set 137 = .ok (.invokevirtual 142, 3) := by decide +kernel
theorem dX7_set_140 : decode cX7_set 140 = .ok (.bipush 45, 2) := by decide +kernel
theorem dX7_set_142 : decode cX7_set 142 = .ok (.if_icmp .ne 62, 3) := by decide +kernel
theorem dX7_set_145 : decode cX7_set 145 = .ok (.aload_n 0, 1) := by decide +kernel
theorem dX7_set_146 : decode cX7_set 146 = .ok (.aload_n 0, 1) := by decide +kernel
theorem dX7_set_147 : decode cX7_set 147 = .ok (.getfield 139, 3) := by decide +kernel
theorem dX7_set_150 : decode cX7_set 150 = .ok (.iconst 1, 1) := by decide +kernel
theorem dX7_set_151 : decode cX7_set 151 = .ok (.iadd, 1) := by decide +kernel
theorem dX7_set_152 : decode cX7_set 152 = .ok (.invokevirtual 142, 3) := by decide +kernel
theorem dX7_set_155 : decode cX7_set 155 = .ok (.bipush 93, 2) := by decide +kernel
theorem dX7_set_157 : decode cX7_set 157 = .ok (.if_icmp .eq 47, 3) := by decide +kernel
theorem dX7_set_160 : decode cX7_set 160 = .ok (.aload_n 0, 1) := by decide +kernel
theorem dX7_set_161 : decode cX7_set 161 = .ok (.dup, 1) := by decide +kernel
theorem dX7_set_162 : decode cX7_set 162 = .ok (.getfield 139, 3) := by decide +kernel
theorem dX7_set_165 : decode cX7_set 165 = .ok (.iconst 1, 1) := by decide +kernel
theorem dX7_set_166 : decode cX7_set 166 = .ok (.iadd, 1) := by decide +kernel
theorem dX7_set_167 : decode cX7_set 167 = .ok (.putfield 139, 3) := by decide +kernel
theorem dX7_set_170 : decode cX7_set 170 = .ok (.aload_n 0, 1) := by decide +kernel
theorem dX7_set_171 : decode cX7_set 171 = .ok (.invokevirtual 168, 3) := by decide +kernel
theorem dX7_set_174 : decode cX7_set 174 = .ok (.istore 6, 2) := by decide +kernel
theorem dX7_set_176 : decode cX7_set 176 = .ok (.aload_n 0, 1) := by decide +kernel
theorem dX7_set_177 : decode cX7_set 177 = .ok (.iload 5, 2) := by decide +kernel
theorem dX7_set_179 : decode cX7_set 179 = .ok (.ifCond .lt 15, 3) := by decide +kernel
theorem dX7_set_182 : decode cX7_set 182 = .ok (.iload 6, 2) := by decide +kernel
theorem dX7_set_184 : decode cX7_set 184 = .ok (.ifCond .le 10, 3) := by decide +kernel
theorem dX7_set_187 : decode cX7_set 187 = .ok (.iload 5, 2) := by decide +kernel
theorem dX7_set_189 : decode cX7_set 189 = .ok (.iload 6, 2) := by decide +kernel
theorem dX7_set_191 : decode cX7_set 191 = .ok (.if_icmp .le 7, 3) := by decide +kernel
theorem dX7_set_194 : decode cX7_set 194 = .ok (.iconst 1, 1) := by decide +kernel
theorem dX7_set_195 : decode cX7_set 195 = .ok (.goto 4, 3) := by decide +kernel
theorem dX7_set_198 : decode cX7_set 198 = .ok (.iconst 0, 1) := by decide +kernel
theorem dX7_set_199 : decode cX7_set 199 = .ok (.putfield 117, 3) := by decide +kernel
theorem dX7_set_202 : decode cX7_set 202 = .ok (.iconst 1, 1) := by decide +kernel
theorem dX7_set_203 : decode cX7_set 203 = .ok (.istore_n 3, 1) := by decide +kernel
theorem dX7_set_204 : decode cX7_set 204 = .ok (.goto (-150), 3) := by decide +kernel
theorem dX7_set_207 : decode cX7_set 207 = .ok (.aload_n 0, 1) := by decide +kernel
theorem dX7_set_208 : decode cX7_set 208 = .ok (.bipush 6, 2) := by decide +kernel
theorem dX7_set_210 : decode cX7_set 210 = .ok (.iload_n 2, 1) := by decide +kernel
theorem dX7_set_211 : decode cX7_set 211 = .ok (.aload_n 0, 1) := by decide +kernel
theorem dX7_set_212 : decode cX7_set 212 = .ok (.getfield 139, 3) := by decide +kernel
theorem dX7_set_215 : decode cX7_set 215 = .ok (.iload_n 1, 1) := by decide +kernel
theorem dX7_set_216 : decode cX7_set 216 = .ok (.ifCond .eq 7, 3) := by decide +kernel
theorem dX7_set_219 : decode cX7_set 219 = .ok (.iconst 1, 1) := by decide +kernel
theorem dX7_set_220 : decode cX7_set 220 = .ok (.goto 4, 3) := by decide +kernel
theorem dX7_set_223 : decode cX7_set 223 = .ok (.iconst 0, 1) := by decide +kernel
theorem dX7_set_224 : decode cX7_set 224 = .ok (.invokevirtual 124, 3) := by decide +kernel
theorem dX7_set_227 : decode cX7_set 227 = .ok (.pop, 1) := by decide +kernel
theorem dX7_set_228 : decode cX7_set 228 = .ok (.aload_n 0, 1) := by decide +kernel
theorem dX7_set_229 : decode cX7_set 229 = .ok (.dup, 1) := by decide +kernel
theorem dX7_set_230 : decode cX7_set 230 = .ok (.getfield 139, 3) := by decide +kernel
theorem dX7_set_233 : decode cX7_set 233 = .ok (.iconst 1, 1) := by decide +kernel
theorem dX7_set_234 : decode cX7_set 234 = .ok (.iadd, 1) := by decide +kernel
theorem dX7_set_235 : decode cX7_set 235 = .ok (.putfield 139, 3) := by decide +kernel
theorem dX7_set_238 : decode cX7_set 238 = .ok (.return_, 1) := by decide +kernel
set_option maxRecDepth 20000 in
theorem ggX7_escaped_X7_sign : GoodIn wsX7_escaped wsX7_sign := goodIn_r _ [8, 9, 10, 26, 27, 28, 29, 30, 31, 32, 33, 34, 35, 36, 37, 38, 39, 40, 41, 42, 43, 44, 45, 46, 47, 48, 49, 50, 51, 52, 53, 54, 55, 56, 57, 58, 59, 60, 61, 62, 63, 64, 65, 66, 67, 68, 69, 70, 71, 72, 73, 74, 75] (by decide +kernel) (by decide +kernel)
set_option maxRecDepth 20000 in
theorem gX7_escaped_X7_sign : GoodIn wsX7_escaped (wsV RX7 142 RX7 yX7_sign wsX7_sign) := goodIn_app (goodIn_of _ (by decide +kernel)) ggX7_escaped_X7_sign
set_option maxRecDepth 20000 in
theorem ggX7_escaped_X7_isClass : GoodIn wsX7_escaped wsX7_isClass := goodIn_r _ [13] (by decide +kernel) (by decide +kernel)
set_option maxRecDepth 20000 in
theorem gX7_escaped_X7_isClass : GoodIn wsX7_escaped (va_wsS RX7 165 yX7_isClass wsX7_isClass) := goodIn_app (goodIn_of _ (by decide +kernel)) ggX7_escaped_X7_isClass
set_option maxRecDepth 20000 in
theorem ggX7_escaped_X7_emit : GoodIn wsX7_escaped wsX7_emit := goodIn_r _ [17, 18, 19, 20, 21, 22, 26, 27, 28, 29, 30, 31, 32, 33, 34, 35, 36, 37, 38, 39, 40, 41, 42, 43, 44, 45, 46, 47, 48, 49, 50, 51, 52, 53, 54, 55, 56, 57, 58, 59, 60, 61, 62, 63, 64, 65, 66, 67, 68, 69, 70, 71, 72, 73, 74, 75] (by decide +kernel) (by decide +kernel)
set_option maxRecDepth 20000 in
theorem gX7_escaped_X7_emit : GoodIn wsX7_escaped (wsV RX7 124 RX7 yX7_emit wsX7_emit) := goodIn_app (goodIn_of _ (by decide +kernel)) ggX7_escaped_X7_emit
set_option maxRecDepth 20000 in
theorem ggX7_escaped_X7_isSpecial : GoodIn wsX7_escaped wsX7_isSpecial := goodIn_r _ [25] (by decide +kernel) (by decide +kernel)
set_option maxRecDepth 20000 in
theorem gX7_escaped_X7_isSpecial : GoodIn wsX7_escaped (va_wsS RX7 162 yX7_isSpecial wsX7_isSpecial) := goodIn_app (goodIn_of _ (by decide +kernel)) ggX7_escaped_X7_isSpecial
theorem dX7_escaped_0 : decode cX7_escaped 0 = .ok (.aload_n 0, 1) := by decide +kernel
theorem dX7_escaped_1 : decode cX7_escaped 1 = .ok (.aload_n 0, 1) := by decide +kernel
theorem dX7_escaped_2 : decode cX7_escaped 2 = .ok (.getfield 139, 3) := by decide +kernel
theorem dX7_escaped_5 : decode cX7_escaped 5 = .ok (.iconst 1, 1) := by decide +kernel
theorem dX7_escaped_6 : decode cX7_escaped 6 = .ok (.iadd, 1) := by decide +kernel
theorem dX7_escaped_7 : decode cX7_escaped 7 = .ok (.invokevirtual 142, 3) := by decide +kernel
theorem dX7_escaped_10 : decode cX7_escaped 10 = .ok (.istore_n 1, 1) := by decide +kernel
theorem dX7_escaped_11 : decode cX7_escaped 11 = .ok (.aload_n 0, 1) := by decide +kernel
theorem dX7_escaped_12 : decode cX7_escaped 12 = .ok (.dup, 1) := by decide +kernel
theorem dX7_escaped_13 : decode cX7_escaped 13 = .ok (.getfield 139, 3) := by decide +kernel
theorem dX7_escaped_16 : decode cX7_escaped 16 = .ok (.iconst 2, 1) := by decide +kernel
theorem dX7_escaped_17 : decode cX7_escaped 17 = .ok (.iadd, 1) := by decide +kernel
theorem dX7_escaped_18 : decode cX7_escaped 18 = .ok (.putfield 139, 3) := by decide +kernel
theorem dX7_escaped_21 : decode cX7_escaped 21 = .ok (.iload_n 1, 1) := by decide +kernel
theorem dX7_escaped_22 : decode cX7_escaped 22 = .ok (.invokestatic 165, 3) := by decide +kernel
theorem dX7_escaped_25 : decode cX7_escaped 25 = .ok (.ifCond .eq 15, 3) := by decide +kernel
theorem dX7_escaped_28 : decode cX7_escaped 28 = .ok (.aload_n 0, 1) := by decide +kernel
theorem dX7_escaped_29 : decode cX7_escaped 29 = .ok (.iconst 5, 1) := by decide +kernel
theorem dX7_escaped_30 : decode cX7_escaped 30 = .ok (.iload_n 1, 1) := by decide +kernel
theorem dX7_escaped_31 : decode cX7_escaped 31 = .ok (.iconst 0, 1) := by decide +kernel
theorem dX7_escaped_32 : decode cX7_escaped 32 = .ok (.iconst 0, 1) := by decide +kernel
theorem dX7_escaped_33 : decode cX7_escaped 33 = .ok (.invokevirtual 124, 3) := by decide +kernel
theorem dX7_escaped_36 : decode cX7_escaped 36 = .ok (.pop, 1) := by decide +kernel
theorem dX7_escaped_37 : decode cX7_escaped 37 = .ok (.goto 95, 3) := by decide +kernel
theorem dX7_escaped_40 : decode cX7_escaped 40 = .ok (.iload_n 1, 1) := by decide +kernel
theorem dX7_escaped_41 : decode cX7_escaped 41 = .ok (.bipush 49, 2) := by decide +kernel
theorem dX7_escaped_43 : decode cX7_escaped 43 = .ok (.if_icmp .lt 51, 3) := by decide +kernel
theorem dX7_escaped_46 : decode cX7_escaped 46 = .ok (.iload_n 1, 1) := by decide +kernel
theorem dX7_escaped_47 : decode cX7_escaped 47 = .ok (.bipush 57, 2) := by decide +kernel
theorem dX7_escaped_49 : decode cX7_escaped 49 = .ok (.if_icmp .gt 45, 3) := by decide +kernel
theorem dX7_escaped_52 : decode cX7_escaped 52 = .ok (.aload_n 0, 1) := by decide +kernel
theorem dX7_escaped_53 : decode cX7_escaped 53 = .ok (.iload_n 1, 1) := by decide +kernel
theorem dX7_escaped_54 : decode cX7_escaped 54 = .ok (.bipush 48, 2) := by decide +kernel
theorem dX7_escaped_56 : decode cX7_escaped 56 = .ok (.isub, 1) := by decide +kernel
theorem dX7_escaped_57 : decode cX7_escaped 57 = .ok (.aload_n 0, 1) := by decide +kernel
theorem dX7_escaped_58 : decode cX7_escaped 58 = .ok (.getfield 172, 3) := by decide +kernel
theorem dX7_escaped_61 : decode cX7_escaped 61 = .ok (.if_icmp .le 10, 3) := by decide +kernel
theorem dX7_escaped_64 : decode cX7_escaped 64 = .ok (.iload_n 1, 1) := by decide +kernel
theorem dX7_escaped_65 : decode cX7_escaped 65 = .ok (.bipush 48, 2) := by decide +kernel
theorem dX7_escaped_67 : decode cX7_escaped 67 = .ok (.isub, 1) := by decide +kernel
theorem dX7_escaped_68 : decode cX7_escaped 68 = .ok (.goto 7, 3) := by decide +kernel
theorem dX7_escaped_71 : decode cX7_escaped 71 = .ok (.aload_n 0, 1) := by decide +kernel
theorem dX7_escaped_72 : decode cX7_escaped 72 = .ok (.getfield 172, 3) := by decide +kernel
theorem dX7_escaped_75 : decode cX7_escaped 75 = .ok (.putfield 172, 3) := by decide +kernel
theorem dX7_escaped_78 : decode cX7_escaped 78 = .ok (.aload_n 0, 1) := by decide +kernel
theorem dX7_escaped_79 : decode cX7_escaped 79 = .ok (.bipush 7, 2) := by decide +kernel
theorem dX7_escaped_81 : decode cX7_escaped 81 = .ok (.iload_n 1, 1) := by decide +kernel
theorem dX7_escaped_82 : decode cX7_escaped 82 = .ok (.bipush 48, 2) := by decide +kernel
theorem dX7_escaped_84 : decode cX7_escaped 84 = .ok (.isub, 1) := by decide +kernel
theorem dX7_escaped_85 : decode cX7_escaped 85 = .ok (.iconst 0, 1) := by decide +kernel
theorem dX7_escaped_86 : decode cX7_escaped 86 = .ok (.iconst 0, 1) := by decide +kernel
theorem dX7_escaped_87 : decode cX7_escaped 87 = .ok (.invokevirtual 124, 3) := by decide +kernel
theorem dX7_escaped_90 : decode cX7_escaped 90 = .ok (.pop, 1) := by decide +kernel
theorem dX7_escaped_91 : decode cX7_escaped 91 = .ok (.goto 41, 3) := by decide +kernel
theorem dX7_escaped_94 : decode cX7_escaped 94 = .ok (.aload_n 0, 1) := by decide +kernel
theorem dX7_escaped_95 : decode cX7_escaped 95 = .ok (.aload_n 0, 1) := by decide +kernel
theorem dX7_escaped_96 : decode cX7_escaped 96 = .ok (.getfield 117, 3) := by decide +kernel
theorem dX7_escaped_99 : decode cX7_escaped 99 = .ok (.ifCond .ne 16, 3) := by decide +kernel
theorem dX7_escaped_102 : decode cX7_escaped 102 = .ok (.iload_n 1, 1) := by decide +kernel
theorem dX7_escaped_103 : decode cX7_escaped 103 = .ok (.invokestatic 162, 3) := by decide +kernel
theorem dX7_escaped_106 : decode cX7_escaped 106 = .ok (.ifCond .ne 13, 3) := by decide +kernel
theorem dX7_escaped_109 : decode cX7_escaped 109 = .ok (.iload_n 1, 1) := by decide +kernel
theorem dX7_escaped_110 : decode cX7_escaped 110 = .ok (.bipush 47, 2) := by decide +kernel
theorem dX7_escaped_112 : decode cX7_escaped 112 = .ok (.if_icmp .eq 7, 3) := by decide +kernel
theorem dX7_escaped_115 : decode cX7_escaped 115 = .ok (.iconst 1, 1) := by decide +kernel
theorem dX7_escaped_116 : decode cX7_escaped 116 = .ok (.goto 4, 3) := by decide +kernel
theorem dX7_escaped_119 : decode cX7_escaped 119 = .ok (.iconst 0, 1) := by decide +kernel
theorem dX7_escaped_120 : decode cX7_escaped 120 = .ok (.putfield 117, 3) := by decide +kernel
theorem dX7_escaped_123 : decode cX7_escaped 123 = .ok (.aload_n 0, 1) := by decide +kernel
theorem dX7_escaped_124 : decode cX7_escaped 124 = .ok (.iconst 3, 1) := by decide +kernel
theorem dX7_escaped_125 : decode cX7_escaped 125 = .ok (.iload_n 1, 1) := by decide +kernel
theorem dX7_escaped_126 : decode cX7_escaped 126 = .ok (.iconst 0, 1) := by decide +kernel
theorem dX7_escaped_127 : decode cX7_escaped 127 = .ok (.iconst 0, 1) := by decide +kernel
theorem dX7_escaped_128 : decode cX7_escaped 128 = .ok (.invokevirtual 124, 3) := by decide +kernel
theorem dX7_escaped_131 : decode cX7_escaped 131 = .ok (.pop, 1) := by decide +kernel
theorem dX7_escaped_132 : decode cX7_escaped 132 = .ok (.return_, 1) := by decide +kernel
set_option maxRecDepth 20000 in
theorem ggX7_atom_X7_emit : GoodIn wsX7_atom wsX7_emit := goodIn_r _ [8, 9, 10, 11, 12, 13, 54, 55, 56, 57, 58, 59, 60, 61, 62, 63, 64, 65, 66, 67, 68, 69, 70, 71, 72, 73, 74, 75, 76, 77, 78, 79, 80, 81, 82, 83, 84, 85, 86, 87, 88, 89, 90, 91, 92, 93, 94, 95, 96, 97, 98, 99, 100, 101, 102, 103] (by decide +kernel) (by decide +kernel)
set_option maxRecDepth 20000 in
theorem gX7_atom_X7_emit : GoodIn wsX7_atom (wsV RX7 124 RX7 yX7_emit wsX7_emit) := goodIn_app (goodIn_of _ (by decide +kernel)) ggX7_atom_X7_emit
set_option maxRecDepth 20000 in
theorem ggX7_atom_X7_sign : GoodIn wsX7_atom wsX7_sign := goodIn_r _ [17, 18, 19, 54, 55, 56, 57, 58, 59, 60, 61, 62, 63, 64, 65, 66, 67, 68, 69, 70, 71, 72, 73, 74, 75, 76, 77, 78, 79, 80, 81, 82, 83, 84, 85, 86, 87, 88, 89, 90, 91, 92, 93, 94, 95, 96, 97, 98, 99, 100, 101, 102, 103] (by decide +kernel) (by decide +kernel)
set_option maxRecDepth 20000 in
theorem gX7_atom_X7_sign : GoodIn wsX7_atom (wsV RX7 142 RX7 yX7_sign wsX7_sign) := goodIn_app (goodIn_of _ (by decide +kernel)) ggX7_atom_X7_sign
set_option maxRecDepth 20000 in
theorem ggX7_atom_X7_set : GoodIn wsX7_atom wsX7_set := goodIn_r _ [23, 2, 3, 14, 15, 16, 7, 17, 18, 19, 24, 25, 26, 27, 28, 29, 30, 31, 32, 33, 4, 5, 6, 8, 9, 10, 11, 12, 13, 54, 55, 56, 57, 58, 59, 60, 61, 62, 63, 64, 65, 66, 67, 68, 69, 70, 71, 72, 73, 74, 75, 76, 77, 78, 79, 80, 81, 82, 83, 84, 85, 86, 87, 88, 89, 90, 91, 92, 93, 94, 95, 96, 97, 98, 99, 100, 101, 102, 103] (by decide +kernel) (by decide +kernel)
set_option maxRecDepth 20000 in
theorem gX7_atom_X7_set : GoodIn wsX7_atom (wsV RX7 175 RX7 yX7_set wsX7_set) := goodIn_app (goodIn_of _ (by decide +kernel)) ggX7_atom_X7_set
set_option maxRecDepth 20000 in
theorem ggX7_atom_X7_escaped : GoodIn wsX7_atom wsX7_escaped := goodIn_r _ [37, 2, 38, 3, 14, 15, 16, 7, 17, 18, 19, 31, 32, 33, 4, 5, 6, 8, 9, 10, 11, 12, 13, 28, 29, 30, 54, 55, 56, 57, 58, 59, 60, 61, 62, 63, 64, 65, 66, 67, 68, 69, 70, 71, 72, 73, 74, 75, 76, 77, 78, 79, 80, 81, 82, 83, 84, 85, 86, 87, 88, 89, 90, 91, 92, 93, 94, 95, 96, 97, 98, 99, 100, 101, 102, 103] (by decide +kernel) (by decide +kernel)
set_option maxRecDepth 20000 in
theorem gX7_atom_X7_escaped : GoodIn wsX7_atom (wsV RX7 178 RX7 yX7_escaped wsX7_escaped) := goodIn_app (goodIn_of _ (by decide +kernel)) ggX7_atom_X7_escaped
set_option maxRecDepth 20000 in
theorem ggX7_atom_X7_isSpecial : GoodIn wsX7_atom wsX7_isSpecial := goodIn_r _ [30] (by decide +kernel) (by decide +kernel)
set_option maxRecDepth 20000 in
theorem gX7_atom_X7_isSpecial : GoodIn wsX7_atom (va_wsS RX7 162 yX7_isSpecial wsX7_isSpecial) := goodIn_app (goodIn_of _ (by decide +kernel)) ggX7_atom_X7_isSpecial
set_option maxRecDepth 20000 in
theorem ggX7_atom_X7_count : GoodIn wsX7_atom wsX7_count := goodIn_r _ [42, 2, 3, 9, 11, 43, 13, 44, 12, 1, 10, 14, 15, 16, 7, 17, 18, 19, 45, 46, 47, 48, 49, 50, 51, 52, 53, 4, 5, 6, 8, 54, 55, 56, 57, 58, 59, 60, 61, 62, 63, 64, 65, 66, 67, 68, 69, 70, 71, 72, 73, 74, 75, 76, 77, 78, 79, 80, 81, 82, 83, 84, 85, 86, 87, 88, 89, 90, 91, 92, 93, 94, 95, 96, 97, 98, 99, 100, 101, 102, 103] (by decide +kernel) (by decide +kernel)
set_option maxRecDepth 20000 in
theorem gX7_atom_X7_count : GoodIn wsX7_atom (wsV RX7 135 RX7 yX7_count wsX7_count) := goodIn_app (goodIn_of _ (by decide +kernel)) ggX7_atom_X7_count
theorem dX7_atom_0 : decode cX7_atom 0 = .ok (.aload_n 0, 1) := by decide +kernel
theorem dX7_atom_1 : decode cX7_atom 1 = .ok (.bipush 17, 2) := by decide +kernel
theorem dX7_atom_3 : decode cX7_atom 3 = .ok (.iconst 0, 1) := by decide +kernel
theorem dX7_atom_4 : decode cX7_atom 4 = .ok (.aload_n 0, 1) := by decide +kernel
theorem dX7_atom_5 : decode cX7_atom 5 = .ok (.getfield 153, 3) := by decide +kernel
theorem dX7_atom_8 : decode cX7_atom 8 = .ok (.iconst 0, 1) := by decide +kernel
theorem dX7_atom_9 : decode cX7_atom 9 = .ok (.invokevirtual 124, 3) := by decide +kernel
theorem dX7_atom_12 : decode cX7_atom 12 = .ok (.istore_n 1, 1) := by decide +kernel
theorem dX7_atom_13 : decode cX7_atom 13 = .ok (.aload_n 0, 1) := by decide +kernel
theorem dX7_atom_14 : decode cX7_atom 14 = .ok (.aload_n 0, 1) := by decide +kernel
theorem dX7_atom_15 : decode cX7_atom 15 = .ok (.getfield 139, 3) := by decide +kernel
theorem dX7_atom_18 : decode cX7_atom 18 = .ok (.invokevirtual 142, 3) := by decide +kernel
theorem dX7_atom_21 : decode cX7_atom 21 = .ok (.istore_n 2, 1) := by decide +kernel
theorem dX7_atom_22 : decode cX7_atom 22 = .ok (.iload_n 2, 1) := by decide +kernel
theorem dX7_atom_23 : decode cX7_atom 23 = .ok (.bipush 91, 2) := by decide +kernel
theorem dX7_atom_25 : decode cX7_atom 25 = .ok (.if_icmp .ne 10, 3) := by decide +kernel
theorem dX7_atom_28 : decode cX7_atom 28 = .ok (.aload_n 0, 1) := by decide +kernel
theorem dX7_atom_29 : decode cX7_atom 29 = .ok (.invokevirtual 175, 3) := by decide +kernel
theorem dX7_atom_32 : decode cX7_atom 32 = .ok (.goto 86, 3) := by decide +kernel
theorem dX7_atom_35 : decode cX7_atom 35 = .ok (.iload_n 2, 1) := by decide +kernel
theorem dX7_atom_36 : decode cX7_atom 36 = .ok (.bipush 92, 2) := by decide +kernel
theorem dX7_atom_38 : decode cX7_atom 38 = .ok (.if_icmp .ne 10, 3) := by decide +kernel
theorem dX7_atom_41 : decode cX7_atom 41 = .ok (.aload_n 0, 1) := by decide +kernel
theorem dX7_atom_42 : decode cX7_atom 42 = .ok (.invokevirtual 178, 3) := by decide +kernel
theorem dX7_atom_45 : decode cX7_atom 45 = .ok (.goto 73, 3) := by decide +kernel
theorem dX7_atom_48 : decode cX7_atom 48 = .ok (.iload_n 2, 1) := by decide +kernel
theorem dX7_atom_49 : decode cX7_atom 49 = .ok (.bipush 46, 2) := by decide +kernel
theorem dX7_atom_51 : decode cX7_atom 51 = .ok (.if_icmp .ne 25, 3) := by decide +kernel
theorem dX7_atom_54 : decode cX7_atom 54 = .ok (.aload_n 0, 1) := by decide +kernel
theorem dX7_atom_55 : decode cX7_atom 55 = .ok (.iconst 4, 1) := by decide +kernel
theorem dX7_atom_56 : decode cX7_atom 56 = .ok (.iconst 0, 1) := by decide +kernel
theorem dX7_atom_57 : decode cX7_atom 57 = .ok (.iconst 0, 1) := by decide +kernel
theorem dX7_atom_58 : decode cX7_atom 58 = .ok (.iconst 0, 1) := by decide +kernel
theorem dX7_atom_59 : decode cX7_atom 59 = .ok (.invokevirtual 124, 3) := by decide +kernel
theorem dX7_atom_62 : decode cX7_atom 62 = .ok (.pop, 1) := by decide +kernel
theorem dX7_atom_63 : decode cX7_atom 63 = .ok (.aload_n 0, 1) := by decide +kernel
theorem dX7_atom_64 : decode cX7_atom 64 = .ok (.dup, 1) := by decide +kernel
theorem dX7_atom_65 : decode cX7_atom 65 = .ok (.getfield 139, 3) := by decide +kernel
theorem dX7_atom_68 : decode cX7_atom 68 = .ok (.iconst 1, 1) := by decide +kernel
theorem dX7_atom_69 : decode cX7_atom 69 = .ok (.iadd, 1) := by decide +kernel
theorem dX7_atom_70 : decode cX7_atom 70 = .ok (.putfield 139, 3) := by decide +kernel
theorem dX7_atom_73 : decode cX7_atom 73 = .ok (.goto 45, 3) := by decide +kernel
theorem dX7_atom_76 : decode cX7_atom 76 = .ok (.aload_n 0, 1) := by decide +kernel
theorem dX7_atom_77 : decode cX7_atom 77 = .ok (.aload_n 0, 1) := by decide +kernel
theorem dX7_atom_78 : decode cX7_atom 78 = .ok (.getfield 117, 3) := by decide +kernel
theorem dX7_atom_81 : decode cX7_atom 81 = .ok (.ifCond .ne 10, 3) := by decide +kernel
theorem dX7_atom_84 : decode cX7_atom 84 = .ok (.iload_n 2, 1) := by decide +kernel
theorem dX7_atom_85 : decode cX7_atom 85 = .ok (.invokestatic 162, 3) := by decide +kernel
theorem dX7_atom_88 : decode cX7_atom 88 = .ok (.ifCond .eq 7, 3) := by decide +kernel
theorem dX7_atom_91 : decode cX7_atom 91 = .ok (.iconst 1, 1) := by decide +kernel
theorem dX7_atom_92 : decode cX7_atom 92 = .ok (.goto 4, 3) := by decide +kernel
theorem dX7_atom_95 : decode cX7_atom 95 = .ok (.iconst 0, 1) := by decide +kernel
theorem dX7_atom_96 : decode cX7_atom 96 = .ok (.putfield 117, 3) := by decide +kernel
theorem dX7_atom_99 : decode cX7_atom 99 = .ok (.aload_n 0, 1) := by decide +kernel
theorem dX7_atom_100 : decode cX7_atom 100 = .ok (.iconst 3, 1) := by decide +kernel
theorem dX7_atom_101 : decode cX7_atom 101 = .ok (.iload_n 2, 1) := by decide +kernel
theorem dX7_atom_102 : decode cX7_atom 102 = .ok (.iconst 0, 1) := by decide +kernel
theorem dX7_atom_103 : decode cX7_atom 103 = .ok (.iconst 0, 1) := by decide +kernel
theorem dX7_atom_104 : decode cX7_atom 104 = .ok (.invokevirtual 124, 3) := by decide +kernel
theorem dX7_atom_107 : decode cX7_atom 107 = .ok (.pop, 1) := by decide +kernel
theorem dX7_atom_108 : decode cX7_atom 108 = .ok (.aload_n 0, 1) := by decide +kernel
theorem dX7_atom_109 : decode cX7_atom 109 = .ok (.dup, 1) := by decide +kernel
theorem dX7_atom_110 : decode cX7_atom 110 = .ok (.getfield 139, 3) := by decide +kernel
theorem dX7_atom_113 : decode cX7_atom 113 = .ok (.iconst 1, 1) := by decide +kernel
theorem dX7_atom_114 : decode cX7_atom 114 = .ok (.iadd, 1) := by decide +kernel
theorem dX7_atom_115 : decode cX7_atom 115 = .ok (.putfield 139, 3) := by decide +kernel
theorem dX7_atom_118 : decode cX7_atom 118 = .ok (.aload_n 0, 1) := by decide +kernel
theorem dX7_atom_119 : decode cX7_atom 119 = .ok (.getfield 117, 3) := by decide +kernel
theorem dX7_atom_122 : decode cX7_atom 122 = .ok (.ifCond .ne 9, 3) := by decide +kernel
theorem dX7_atom_125 : decode cX7_atom 125 = .ok (.aload_n 0, 1) := by decide +kernel
theorem dX7_atom_126 : decode cX7_atom 126 = .ok (.iload_n 1, 1) := by decide +kernel
theorem dX7_atom_127 : decode cX7_atom 127 = .ok (.iconst 1, 1) := by decide +kernel
theorem dX7_atom_128 : decode cX7_atom 128 = .ok (.invokevirtual 135, 3) := by decide +kernel
theorem dX7_atom_131 : decode cX7_atom 131 = .ok (.return_, 1) := by decide +kernel
set_option maxRecDepth 20000 in
theorem ggX7_reads_X7_openBody : GoodIn wsX7_reads wsX7_openBody := goodIn_r _ [15, 7, 8, 16, 17, 18, 19, 10, 20, 21, 22, 23, 14, 24, 25, 1, 26, 27, 28, 80, 81, 82, 83, 84, 85, 86, 87, 88, 89, 90, 91, 92, 93, 94, 95, 96, 97, 98, 99, 100, 101, 102, 103, 104, 105, 106, 107, 108, 109, 110, 111, 112, 113, 114, 115, 116, 117, 118, 119, 120, 121, 122, 123, 124, 125, 126, 127, 128, 129] (by decide +kernel) (by decide +kernel)
set_option maxRecDepth 20000 in
theorem gX7_reads_X7_openBody : GoodIn wsX7_reads (wsV RX7 156 RX7 yX7_openBody wsX7_openBody) := goodIn_app (goodIn_of _ (by decide +kernel)) ggX7_reads_X7_openBody
set_option maxRecDepth 20000 in
theorem ggX7_reads_X7_sign : GoodIn wsX7_reads wsX7_sign := goodIn_r _ [32, 9, 33, 80, 81, 82, 83, 84, 85, 86, 87, 88, 89, 90, 91, 92, 93, 94, 95, 96, 97, 98, 99, 100, 101, 102, 103, 104, 105, 106, 107, 108, 109, 110, 111, 112, 113, 114, 115, 116, 117, 118, 119, 120, 121, 122, 123, 124, 125, 126, 127, 128, 129] (by decide +kernel) (by decide +kernel)
set_option maxRecDepth 20000 in
theorem gX7_reads_X7_sign : GoodIn wsX7_reads (wsV RX7 142 RX7 yX7_sign wsX7_sign) := goodIn_app (goodIn_of _ (by decide +kernel)) ggX7_reads_X7_sign
set_option maxRecDepth 20000 in
theorem ggX7_reads_X7_endAlternative : GoodIn wsX7_reads wsX7_endAlternative := goodIn_r _ [37, 8, 19, 10, 26, 20, 1, 21, 22, 23, 14, 24, 25, 27, 28, 80, 81, 82, 83, 84, 85, 86, 87, 88, 89, 90, 91, 92, 93, 94, 95, 96, 97, 98, 99, 100, 101, 102, 103, 104, 105, 106, 107, 108, 109, 110, 111, 112, 113, 114, 115, 116, 117, 118, 119, 120, 121, 122, 123, 124, 125, 126, 127, 128, 129] (by decide +kernel) (by decide +kernel)
set_option maxRecDepth 20000 in
theorem gX7_reads_X7_endAlternative : GoodIn wsX7_reads (wsV RX7 128 RX7 yX7_endAlternative wsX7_endAlternative) := goodIn_app (goodIn_of _ (by decide +kernel)) ggX7_reads_X7_endAlternative
set_option maxRecDepth 20000 in
theorem ggX7_reads_X7_closeBody : GoodIn wsX7_reads wsX7_closeBody := goodIn_r _ [41, 8, 19, 26, 1, 16, 10, 17, 27, 18, 28, 34, 35, 36, 14, 37, 20, 21, 22, 23, 24, 25, 42, 43, 44, 45, 46, 47, 48, 49, 6, 7, 50, 3, 2, 29, 30, 31, 32, 9, 33, 51, 52, 53, 80, 81, 82, 83, 84, 85, 86, 87, 88, 89, 90, 91, 92, 93, 94, 95, 96, 97, 98, 99, 100, 101, 102, 103, 104, 105, 106, 107, 108, 109, 110, 111, 112, 113, 114, 115, 116, 117, 118, 119, 120, 121, 122, 123, 124, 125, 126, 127, 128, 129] (by decide +kernel) (by decide +kernel)
set_option maxRecDepth 20000 in
theorem gX7_reads_X7_closeBody : GoodIn wsX7_reads (wsV RX7 181 RX7 yX7_closeBody wsX7_closeBody) := goodIn_app (goodIn_of _ (by decide +kernel)) ggX7_reads_X7_closeBody
set_option maxRecDepth 20000 in
theorem ggX7_reads_X7_emit : GoodIn wsX7_reads wsX7_emit := goodIn_r _ [24, 25, 1, 26, 27, 28, 80, 81, 82, 83, 84, 85, 86, 87, 88, 89, 90, 91, 92, 93, 94, 95, 96, 97, 98, 99, 100, 101, 102, 103, 104, 105, 106, 107, 108, 109, 110, 111, 112, 113, 114, 115, 116, 117, 118, 119, 120, 121, 122, 123, 124, 125, 126, 127, 128, 129] (by decide +kernel) (by decide +kernel)
set_option maxRecDepth 20000 in
theorem gX7_reads_X7_emit : GoodIn wsX7_reads (wsV RX7 124 RX7 yX7_emit wsX7_emit) := goodIn_app (goodIn_of _ (by decide +kernel)) ggX7_reads_X7_emit
set_option maxRecDepth 20000 in
theorem ggX7_reads_X7_weigh : GoodIn wsX7_reads wsX7_weigh := goodIn_r _ [45, 10, 8, 80, 81, 82, 83, 84, 85, 86, 87, 88, 89, 90, 91, 92, 93, 94, 95, 96, 97, 98, 99, 100, 101, 102, 103, 104, 105, 106, 107, 108, 109, 110, 111, 112, 113, 114, 115, 116, 117, 118, 119, 120, 121, 122, 123, 124, 125, 126, 127, 128, 129] (by decide +kernel) (by decide +kernel)
set_option maxRecDepth 20000 in
theorem gX7_reads_X7_weigh : GoodIn wsX7_reads (wsV RX7 132 RX7 yX7_weigh wsX7_weigh) := goodIn_app (goodIn_of _ (by decide +kernel)) ggX7_reads_X7_weigh
set_option maxRecDepth 20000 in
theorem ggX7_reads_X7_openParenthesis : GoodIn wsX7_reads wsX7_openParenthesis := goodIn_r _ [57, 6, 2, 17, 8, 4, 7, 29, 30, 31, 14, 32, 9, 33, 21, 22, 23, 24, 25, 1, 26, 27, 28, 11, 12, 13, 15, 16, 18, 19, 10, 20, 80, 81, 82, 83, 84, 85, 86, 87, 88, 89, 90, 91, 92, 93, 94, 95, 96, 97, 98, 99, 100, 101, 102, 103, 104, 105, 106, 107, 108, 109, 110, 111, 112, 113, 114, 115, 116, 117, 118, 119, 120, 121, 122, 123, 124, 125, 126, 127, 128, 129] (by decide +kernel) (by decide +kernel)
set_option maxRecDepth 20000 in
theorem gX7_reads_X7_openParenthesis : GoodIn wsX7_reads (wsV RX7 184 RX7 yX7_openParenthesis wsX7_openParenthesis) := goodIn_app (goodIn_of _ (by decide +kernel)) ggX7_reads_X7_openParenthesis
set_option maxRecDepth 20000 in
theorem ggX7_reads_X7_atom : GoodIn wsX7_reads wsX7_atom := goodIn_r _ [61, 2, 6, 7, 21, 22, 23, 14, 24, 25, 1, 26, 27, 28, 29, 30, 31, 32, 9, 33, 62, 63, 64, 65, 66, 67, 68, 69, 70, 71, 72, 73, 74, 75, 76, 77, 78, 79, 5, 46, 47, 48, 49, 50, 3, 51, 52, 53, 42, 43, 44, 45, 10, 8, 80, 81, 82, 83, 84, 85, 86, 87, 88, 89, 90, 91, 92, 93, 94, 95, 96, 97, 98, 99, 100, 101, 102, 103, 104, 105, 106, 107, 108, 109, 110, 111, 112, 113, 114, 115, 116, 117, 118, 119, 120, 121, 122, 123, 124, 125, 126, 127, 128, 129] (by decide +kernel) (by decide +kernel)
set_option maxRecDepth 20000 in
theorem gX7_reads_X7_atom : GoodIn wsX7_reads (wsV RX7 187 RX7 yX7_atom wsX7_atom) := goodIn_app (goodIn_of _ (by decide +kernel)) ggX7_reads_X7_atom
theorem dX7_reads_0 : decode cX7_reads 0 = .ok (.aload_n 0, 1) := by decide +kernel
theorem dX7_reads_1 : decode cX7_reads 1 = .ok (.iconst 0, 1) := by decide +kernel
theorem dX7_reads_2 : decode cX7_reads 2 = .ok (.putfield 114, 3) := by decide +kernel
theorem dX7_reads_5 : decode cX7_reads 5 = .ok (.aload_n 0, 1) := by decide +kernel
theorem dX7_reads_6 : decode cX7_reads 6 = .ok (.iconst 0, 1) := by decide +kernel
theorem dX7_reads_7 : decode cX7_reads 7 = .ok (.putfield 153, 3) := by decide +kernel
theorem dX7_reads_10 : decode cX7_reads 10 = .ok (.aload_n 0, 1) := by decide +kernel
theorem dX7_reads_11 : decode cX7_reads 11 = .ok (.iconst 0, 1) := by decide +kernel
theorem dX7_reads_12 : decode cX7_reads 12 = .ok (.putfield 150, 3) := by decide +kernel
theorem dX7_reads_15 : decode cX7_reads 15 = .ok (.aload_n 0, 1) := by decide +kernel
theorem dX7_reads_16 : decode cX7_reads 16 = .ok (.iconst 0, 1) := by decide +kernel
theorem dX7_reads_17 : decode cX7_reads 17 = .ok (.putfield 159, 3) := by decide +kernel
theorem dX7_reads_20 : decode cX7_reads 20 = .ok (.aload_n 0, 1) := by decide +kernel
theorem dX7_reads_21 : decode cX7_reads 21 = .ok (.iconst 0, 1) := by decide +kernel
