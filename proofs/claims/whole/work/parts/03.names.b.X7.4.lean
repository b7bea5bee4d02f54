theorem dX7_inSet_123 : decode cX7_inSet 123 = .ok (.aload_n 0, 1) := by decide +kernel
theorem dX7_inSet_124 : decode cX7_inSet 124 = .ok (.getfield 16, 3) := by decide +kernel
theorem dX7_inSet_127 : decode cX7_inSet 127 = .ok (.iload 6, 2) := by decide +kernel
theorem dX7_inSet_129 : decode cX7_inSet 129 = .ok (.caload, 1) := by decide +kernel
theorem dX7_inSet_130 : decode cX7_inSet 130 = .ok (.bipush 45, 2) := by decide +kernel
theorem dX7_inSet_132 : decode cX7_inSet 132 = .ok (.if_icmp .ne 7, 3) := by decide +kernel
theorem dX7_inSet_135 : decode cX7_inSet 135 = .ok (.iconst 1, 1) := by decide +kernel
theorem dX7_inSet_136 : decode cX7_inSet 136 = .ok (.goto 4, 3) := by decide +kernel
theorem dX7_inSet_139 : decode cX7_inSet 139 = .ok (.iconst 0, 1) := by decide +kernel
theorem dX7_inSet_140 : decode cX7_inSet 140 = .ok (.istore 5, 2) := by decide +kernel
theorem dX7_inSet_142 : decode cX7_inSet 142 = .ok (.iload 9, 2) := by decide +kernel
theorem dX7_inSet_144 : decode cX7_inSet 144 = .ok (.istore 11, 2) := by decide +kernel
theorem dX7_inSet_146 : decode cX7_inSet 146 = .ok (.iload 5, 2) := by decide +kernel
theorem dX7_inSet_148 : decode cX7_inSet 148 = .ok (.ifCond .eq 39, 3) := by decide +kernel
theorem dX7_inSet_151 : decode cX7_inSet 151 = .ok (.iload 6, 2) := by decide +kernel
theorem dX7_inSet_153 : decode cX7_inSet 153 = .ok (.aload_n 0, 1) := by decide +kernel
theorem dX7_inSet_154 : decode cX7_inSet 154 = .ok (.getfield 16, 3) := by decide +kernel
theorem dX7_inSet_157 : decode cX7_inSet 157 = .ok (.iload 6, 2) := by decide +kernel
theorem dX7_inSet_159 : decode cX7_inSet 159 = .ok (.iconst 1, 1) := by decide +kernel
theorem dX7_inSet_160 : decode cX7_inSet 160 = .ok (.iadd, 1) := by decide +kernel
theorem dX7_inSet_161 : decode cX7_inSet 161 = .ok (.caload, 1) := by decide +kernel
theorem dX7_inSet_162 : decode cX7_inSet 162 = .ok (.bipush 92, 2) := by decide +kernel
theorem dX7_inSet_164 : decode cX7_inSet 164 = .ok (.if_icmp .ne 7, 3) := by decide +kernel
theorem dX7_inSet_167 : decode cX7_inSet 167 = .ok (.iconst 2, 1) := by decide +kernel
theorem dX7_inSet_168 : decode cX7_inSet 168 = .ok (.goto 4, 3) := by decide +kernel
theorem dX7_inSet_171 : decode cX7_inSet 171 = .ok (.iconst 1, 1) := by decide +kernel
theorem dX7_inSet_172 : decode cX7_inSet 172 = .ok (.iadd, 1) := by decide +kernel
theorem dX7_inSet_173 : decode cX7_inSet 173 = .ok (.istore 6, 2) := by decide +kernel
theorem dX7_inSet_175 : decode cX7_inSet 175 = .ok (.aload_n 0, 1) := by decide +kernel
theorem dX7_inSet_176 : decode cX7_inSet 176 = .ok (.getfield 16, 3) := by decide +kernel
theorem dX7_inSet_179 : decode cX7_inSet 179 = .ok (.iload 6, 2) := by decide +kernel
theorem dX7_inSet_181 : decode cX7_inSet 181 = .ok (.caload, 1) := by decide +kernel
theorem dX7_inSet_182 : decode cX7_inSet 182 = .ok (.istore 11, 2) := by decide +kernel
theorem dX7_inSet_184 : decode cX7_inSet 184 = .ok (.iinc 6 1, 3) := by decide +kernel
theorem dX7_inSet_187 : decode cX7_inSet 187 = .ok (.iload 4, 2) := by decide +kernel
theorem dX7_inSet_189 : decode cX7_inSet 189 = .ok (.ifCond .ne 32, 3) := by decide +kernel
theorem dX7_inSet_192 : decode cX7_inSet 192 = .ok (.iload 10, 2) := by decide +kernel
theorem dX7_inSet_194 : decode cX7_inSet 194 = .ok (.ifCond .eq 15, 3) := by decide +kernel
theorem dX7_inSet_197 : decode cX7_inSet 197 = .ok (.iload 9, 2) := by decide +kernel
theorem dX7_inSet_199 : decode cX7_inSet 199 = .ok (.iload_n 3, 1) := by decide +kernel
theorem dX7_inSet_200 : decode cX7_inSet 200 = .ok (.invokestatic 205, 3) := by decide +kernel
theorem dX7_inSet_203 : decode cX7_inSet 203 = .ok (.ifCond .eq 22, 3) := by decide +kernel
theorem dX7_inSet_206 : decode cX7_inSet 206 = .ok (.goto 15, 3) := by decide +kernel
theorem dX7_inSet_209 : decode cX7_inSet 209 = .ok (.iload_n 3, 1) := by decide +kernel
theorem dX7_inSet_210 : decode cX7_inSet 210 = .ok (.iload 9, 2) := by decide +kernel
theorem dX7_inSet_212 : decode cX7_inSet 212 = .ok (.if_icmp .lt 13, 3) := by decide +kernel
theorem dX7_inSet_215 : decode cX7_inSet 215 = .ok (.iload_n 3, 1) := by decide +kernel
theorem dX7_inSet_216 : decode cX7_inSet 216 = .ok (.iload 11, 2) := by decide +kernel
theorem dX7_inSet_218 : decode cX7_inSet 218 = .ok (.if_icmp .gt 7, 3) := by decide +kernel
theorem dX7_inSet_221 : decode cX7_inSet 221 = .ok (.iconst 1, 1) := by decide +kernel
theorem dX7_inSet_222 : decode cX7_inSet 222 = .ok (.goto 4, 3) := by decide +kernel
theorem dX7_inSet_225 : decode cX7_inSet 225 = .ok (.iconst 0, 1) := by decide +kernel
theorem dX7_inSet_226 : decode cX7_inSet 226 = .ok (.istore 4, 2) := by decide +kernel
theorem dX7_inSet_228 : decode cX7_inSet 228 = .ok (.goto (-219), 3) := by decide +kernel
theorem dX7_inSet_231 : decode cX7_inSet 231 = .ok (.iload 4, 2) := by decide +kernel
theorem dX7_inSet_233 : decode cX7_inSet 233 = .ok (.ireturn, 1) := by decide +kernel
set_option maxRecDepth 20000 in
theorem ggX7_fits_X7_has : GoodIn wsX7_fits wsX7_has := goodIn_r _ [8, 9, 24, 25, 26, 27, 28, 29, 30, 31, 32, 33, 34, 35, 36, 37, 38, 39, 40, 41, 42, 43, 44, 45, 46, 47, 48, 49, 50, 51, 52, 53, 54, 55, 56, 57, 58, 59, 60, 61, 62, 63, 64, 65, 66, 67, 68, 69, 70, 71, 72, 73] (by decide +kernel) (by decide +kernel)
set_option maxRecDepth 20000 in
theorem gX7_fits_X7_has : GoodIn wsX7_fits (wsV RX7 209 RX7 yX7_has wsX7_has) := goodIn_app (goodIn_of _ (by decide +kernel)) ggX7_fits_X7_has
set_option maxRecDepth 20000 in
theorem ggX7_fits_X7_inClass : GoodIn wsX7_fits wsX7_inClass := goodIn_r _ [12, 13, 14, 7, 15] (by decide +kernel) (by decide +kernel)
set_option maxRecDepth 20000 in
theorem gX7_fits_X7_inClass : GoodIn wsX7_fits (va_wsS RX7 205 yX7_inClass wsX7_inClass) := goodIn_app (goodIn_of _ (by decide +kernel)) ggX7_fits_X7_inClass
set_option maxRecDepth 20000 in
theorem ggX7_fits_X7_inSet : GoodIn wsX7_fits wsX7_inSet := goodIn_r _ [19, 20, 21, 22, 7, 23, 10, 11, 12, 13, 14, 15, 24, 25, 26, 27, 28, 29, 30, 31, 32, 33, 34, 35, 36, 37, 38, 39, 40, 41, 42, 43, 44, 45, 46, 47, 48, 49, 50, 51, 52, 53, 54, 55, 56, 57, 58, 59, 60, 61, 62, 63, 64, 65, 66, 67, 68, 69, 70, 71, 72, 73] (by decide +kernel) (by decide +kernel)
set_option maxRecDepth 20000 in
theorem gX7_fits_X7_inSet : GoodIn wsX7_fits (wsV RX7 212 RX7 yX7_inSet wsX7_inSet) := goodIn_app (goodIn_of _ (by decide +kernel)) ggX7_fits_X7_inSet
theorem dX7_fits_0 : decode cX7_fits 0 = .ok (.aload_n 0, 1) := by decide +kernel
theorem dX7_fits_1 : decode cX7_fits 1 = .ok (.getfield 19, 3) := by decide +kernel
theorem dX7_fits_4 : decode cX7_fits 4 = .ok (.iload_n 1, 1) := by decide +kernel
theorem dX7_fits_5 : decode cX7_fits 5 = .ok (.iaload, 1) := by decide +kernel
theorem dX7_fits_6 : decode cX7_fits 6 = .ok (.tableswitch 73 3 5 #[26, 42, 62], 26) := by decide +kernel
theorem dX7_fits_32 : decode cX7_fits 32 = .ok (.iload_n 2, 1) := by decide +kernel
theorem dX7_fits_33 : decode cX7_fits 33 = .ok (.aload_n 0, 1) := by decide +kernel
theorem dX7_fits_34 : decode cX7_fits 34 = .ok (.getfield 23, 3) := by decide +kernel
theorem dX7_fits_37 : decode cX7_fits 37 = .ok (.iload_n 1, 1) := by decide +kernel
theorem dX7_fits_38 : decode cX7_fits 38 = .ok (.iaload, 1) := by decide +kernel
theorem dX7_fits_39 : decode cX7_fits 39 = .ok (.if_icmp .ne 7, 3) := by decide +kernel
theorem dX7_fits_42 : decode cX7_fits 42 = .ok (.iconst 1, 1) := by decide +kernel
theorem dX7_fits_43 : decode cX7_fits 43 = .ok (.goto 4, 3) := by decide +kernel
theorem dX7_fits_46 : decode cX7_fits 46 = .ok (.iconst 0, 1) := by decide +kernel
theorem dX7_fits_47 : decode cX7_fits 47 = .ok (.ireturn, 1) := by decide +kernel
theorem dX7_fits_48 : decode cX7_fits 48 = .ok (.aload_n 0, 1) := by decide +kernel
theorem dX7_fits_49 : decode cX7_fits 49 = .ok (.iconst 2, 1) := by decide +kernel
theorem dX7_fits_50 : decode cX7_fits 50 = .ok (.invokevirtual 209, 3) := by decide +kernel
theorem dX7_fits_53 : decode cX7_fits 53 = .ok (.ifCond .eq 9, 3) := by decide +kernel
theorem dX7_fits_56 : decode cX7_fits 56 = .ok (.iload_n 2, 1) := by decide +kernel
theorem dX7_fits_57 : decode cX7_fits 57 = .ok (.bipush 47, 2) := by decide +kernel
theorem dX7_fits_59 : decode cX7_fits 59 = .ok (.if_icmp .eq 7, 3) := by decide +kernel
theorem dX7_fits_62 : decode cX7_fits 62 = .ok (.iconst 1, 1) := by decide +kernel
theorem dX7_fits_63 : decode cX7_fits 63 = .ok (.goto 4, 3) := by decide +kernel
theorem dX7_fits_66 : decode cX7_fits 66 = .ok (.iconst 0, 1) := by decide +kernel
theorem dX7_fits_67 : decode cX7_fits 67 = .ok (.ireturn, 1) := by decide +kernel
theorem dX7_fits_68 : decode cX7_fits 68 = .ok (.aload_n 0, 1) := by decide +kernel
theorem dX7_fits_69 : decode cX7_fits 69 = .ok (.getfield 23, 3) := by decide +kernel
theorem dX7_fits_72 : decode cX7_fits 72 = .ok (.iload_n 1, 1) := by decide +kernel
theorem dX7_fits_73 : decode cX7_fits 73 = .ok (.iaload, 1) := by decide +kernel
theorem dX7_fits_74 : decode cX7_fits 74 = .ok (.iload_n 2, 1) := by decide +kernel
theorem dX7_fits_75 : decode cX7_fits 75 = .ok (.invokestatic 205, 3) := by decide +kernel
theorem dX7_fits_78 : decode cX7_fits 78 = .ok (.ireturn, 1) := by decide +kernel
theorem dX7_fits_79 : decode cX7_fits 79 = .ok (.aload_n 0, 1) := by decide +kernel
theorem dX7_fits_80 : decode cX7_fits 80 = .ok (.aload_n 0, 1) := by decide +kernel
theorem dX7_fits_81 : decode cX7_fits 81 = .ok (.getfield 23, 3) := by decide +kernel
theorem dX7_fits_84 : decode cX7_fits 84 = .ok (.iload_n 1, 1) := by decide +kernel
theorem dX7_fits_85 : decode cX7_fits 85 = .ok (.iaload, 1) := by decide +kernel
theorem dX7_fits_86 : decode cX7_fits 86 = .ok (.aload_n 0, 1) := by decide +kernel
theorem dX7_fits_87 : decode cX7_fits 87 = .ok (.getfield 26, 3) := by decide +kernel
theorem dX7_fits_90 : decode cX7_fits 90 = .ok (.iload_n 1, 1) := by decide +kernel
theorem dX7_fits_91 : decode cX7_fits 91 = .ok (.iaload, 1) := by decide +kernel
theorem dX7_fits_92 : decode cX7_fits 92 = .ok (.iload_n 2, 1) := by decide +kernel
theorem dX7_fits_93 : decode cX7_fits 93 = .ok (.invokevirtual 212, 3) := by decide +kernel
theorem dX7_fits_96 : decode cX7_fits 96 = .ok (.ireturn, 1) := by decide +kernel
set_option maxRecDepth 20000 in
theorem ggX7_passes_X7_fits : GoodIn wsX7_passes wsX7_fits := goodIn_r _ [10, 4, 11, 12, 13, 14, 15, 9, 16, 17, 18, 19, 20, 21, 22, 23, 24, 25, 26, 27, 28, 29, 30, 31, 35, 36, 37, 38, 39, 40, 41, 42, 43, 44, 45, 46, 47, 48, 49, 50, 51, 52, 53, 54, 55, 56, 57, 58, 59, 60, 61, 62, 63, 64, 65, 66, 67, 68, 69, 70, 71, 72, 73, 74, 75, 76, 77, 78, 79, 80, 81, 82, 83, 84] (by decide +kernel) (by decide +kernel)
set_option maxRecDepth 20000 in
theorem gX7_passes_X7_fits : GoodIn wsX7_passes (wsV RX7 219 RX7 yX7_fits wsX7_fits) := goodIn_app (goodIn_of _ (by decide +kernel)) ggX7_passes_X7_fits
set_option maxRecDepth 20000 in
theorem ggX7_passes_X7_has : GoodIn wsX7_passes wsX7_has := goodIn_r _ [16, 17, 35, 36, 37, 38, 39, 40, 41, 42, 43, 44, 45, 46, 47, 48, 49, 50, 51, 52, 53, 54, 55, 56, 57, 58, 59, 60, 61, 62, 63, 64, 65, 66, 67, 68, 69, 70, 71, 72, 73, 74, 75, 76, 77, 78, 79, 80, 81, 82, 83, 84] (by decide +kernel) (by decide +kernel)
set_option maxRecDepth 20000 in
theorem gX7_passes_X7_has : GoodIn wsX7_passes (wsV RX7 209 RX7 yX7_has wsX7_has) := goodIn_app (goodIn_of _ (by decide +kernel)) ggX7_passes_X7_has
set_option maxRecDepth 20000 in
theorem ggX7_passes_X7_other : GoodIn wsX7_passes wsX7_other := goodIn_r _ [34] (by decide +kernel) (by decide +kernel)
set_option maxRecDepth 20000 in
theorem gX7_passes_X7_other : GoodIn wsX7_passes (va_wsS RX7 222 yX7_other wsX7_other) := goodIn_app (goodIn_of _ (by decide +kernel)) ggX7_passes_X7_other
theorem dX7_passes_0 : decode cX7_passes 0 = .ok (.aload_n 0, 1) := by decide +kernel
theorem dX7_passes_1 : decode cX7_passes 1 = .ok (.getfield 216, 3) := by decide +kernel
theorem dX7_passes_4 : decode cX7_passes 4 = .ok (.aload_n 0, 1) := by decide +kernel
theorem dX7_passes_5 : decode cX7_passes 5 = .ok (.getfield 202, 3) := by decide +kernel
theorem dX7_passes_8 : decode cX7_passes 8 = .ok (.if_icmp .ne 5, 3) := by decide +kernel
theorem dX7_passes_11 : decode cX7_passes 11 = .ok (.iconst 0, 1) := by decide +kernel
theorem dX7_passes_12 : decode cX7_passes 12 = .ok (.ireturn, 1) := by decide +kernel
theorem dX7_passes_13 : decode cX7_passes 13 = .ok (.aload_n 0, 1) := by decide +kernel
theorem dX7_passes_14 : decode cX7_passes 14 = .ok (.getfield 13, 3) := by decide +kernel
theorem dX7_passes_17 : decode cX7_passes 17 = .ok (.aload_n 0, 1) := by decide +kernel
theorem dX7_passes_18 : decode cX7_passes 18 = .ok (.getfield 216, 3) := by decide +kernel
theorem dX7_passes_21 : decode cX7_passes 21 = .ok (.caload, 1) := by decide +kernel
theorem dX7_passes_22 : decode cX7_passes 22 = .ok (.istore_n 2, 1) := by decide +kernel
theorem dX7_passes_23 : decode cX7_passes 23 = .ok (.aload_n 0, 1) := by decide +kernel
theorem dX7_passes_24 : decode cX7_passes 24 = .ok (.iload_n 1, 1) := by decide +kernel
theorem dX7_passes_25 : decode cX7_passes 25 = .ok (.iload_n 2, 1) := by decide +kernel
theorem dX7_passes_26 : decode cX7_passes 26 = .ok (.invokevirtual 219, 3) := by decide +kernel
theorem dX7_passes_29 : decode cX7_passes 29 = .ok (.ifCond .ne 23, 3) := by decide +kernel
theorem dX7_passes_32 : decode cX7_passes 32 = .ok (.aload_n 0, 1) := by decide +kernel
theorem dX7_passes_33 : decode cX7_passes 33 = .ok (.iconst 4, 1) := by decide +kernel
theorem dX7_passes_34 : decode cX7_passes 34 = .ok (.invokevirtual 209, 3) := by decide +kernel
theorem dX7_passes_37 : decode cX7_passes 37 = .ok (.ifCond .eq 19, 3) := by decide +kernel
theorem dX7_passes_40 : decode cX7_passes 40 = .ok (.aload_n 0, 1) := by decide +kernel
theorem dX7_passes_41 : decode cX7_passes 41 = .ok (.iload_n 1, 1) := by decide +kernel
theorem dX7_passes_42 : decode cX7_passes 42 = .ok (.iload_n 2, 1) := by decide +kernel
theorem dX7_passes_43 : decode cX7_passes 43 = .ok (.invokestatic 222, 3) := by decide +kernel
theorem dX7_passes_46 : decode cX7_passes 46 = .ok (.invokevirtual 219, 3) := by decide +kernel
theorem dX7_passes_49 : decode cX7_passes 49 = .ok (.ifCond .eq 7, 3) := by decide +kernel
theorem dX7_passes_52 : decode cX7_passes 52 = .ok (.iconst 1, 1) := by decide +kernel
theorem dX7_passes_53 : decode cX7_passes 53 = .ok (.goto 4, 3) := by decide +kernel
theorem dX7_passes_56 : decode cX7_passes 56 = .ok (.iconst 0, 1) := by decide +kernel
theorem dX7_passes_57 : decode cX7_passes 57 = .ok (.istore_n 3, 1) := by decide +kernel
theorem dX7_passes_58 : decode cX7_passes 58 = .ok (.aload_n 0, 1) := by decide +kernel
theorem dX7_passes_59 : decode cX7_passes 59 = .ok (.getfield 19, 3) := by decide +kernel
theorem dX7_passes_62 : decode cX7_passes 62 = .ok (.iload_n 1, 1) := by decide +kernel
theorem dX7_passes_63 : decode cX7_passes 63 = .ok (.iaload, 1) := by decide +kernel
theorem dX7_passes_64 : decode cX7_passes 64 = .ok (.bipush 6, 2) := by decide +kernel
theorem dX7_passes_66 : decode cX7_passes 66 = .ok (.if_icmp .ne 25, 3) := by decide +kernel
theorem dX7_passes_69 : decode cX7_passes 69 = .ok (.aload_n 0, 1) := by decide +kernel
theorem dX7_passes_70 : decode cX7_passes 70 = .ok (.getfield 29, 3) := by decide +kernel
theorem dX7_passes_73 : decode cX7_passes 73 = .ok (.iload_n 1, 1) := by decide +kernel
theorem dX7_passes_74 : decode cX7_passes 74 = .ok (.iaload, 1) := by decide +kernel
theorem dX7_passes_75 : decode cX7_passes 75 = .ok (.iconst 1, 1) := by decide +kernel
theorem dX7_passes_76 : decode cX7_passes 76 = .ok (.if_icmp .ne 15, 3) := by decide +kernel
theorem dX7_passes_79 : decode cX7_passes 79 = .ok (.iload_n 3, 1) := by decide +kernel
theorem dX7_passes_80 : decode cX7_passes 80 = .ok (.ifCond .ne 7, 3) := by decide +kernel
theorem dX7_passes_83 : decode cX7_passes 83 = .ok (.iconst 1, 1) := by decide +kernel
theorem dX7_passes_84 : decode cX7_passes 84 = .ok (.goto 8, 3) := by decide +kernel
theorem dX7_passes_87 : decode cX7_passes 87 = .ok (.iconst 0, 1) := by decide +kernel
theorem dX7_passes_88 : decode cX7_passes 88 = .ok (.goto 4, 3) := by decide +kernel
theorem dX7_passes_91 : decode cX7_passes 91 = .ok (.iload_n 3, 1) := by decide +kernel
theorem dX7_passes_92 : decode cX7_passes 92 = .ok (.ireturn, 1) := by decide +kernel
theorem dX7_put_0 : decode cX7_put 0 = .ok (.aload_n 0, 1) := by decide +kernel
theorem dX7_put_1 : decode cX7_put 1 = .ok (.getfield 65, 3) := by decide +kernel
theorem dX7_put_4 : decode cX7_put 4 = .ok (.iload_n 1, 1) := by decide +kernel
theorem dX7_put_5 : decode cX7_put 5 = .ok (.iaload, 1) := by decide +kernel
theorem dX7_put_6 : decode cX7_put 6 = .ok (.iload_n 2, 1) := by decide +kernel
theorem dX7_put_7 : decode cX7_put 7 = .ok (.if_icmp .ne 4, 3) := by decide +kernel
theorem dX7_put_10 : decode cX7_put 10 = .ok (.return_, 1) := by decide +kernel
theorem dX7_put_11 : decode cX7_put 11 = .ok (.aload_n 0, 1) := by decide +kernel
theorem dX7_put_12 : decode cX7_put 12 = .ok (.getfield 68, 3) := by decide +kernel
theorem dX7_put_15 : decode cX7_put 15 = .ok (.aload_n 0, 1) := by decide +kernel
theorem dX7_put_16 : decode cX7_put 16 = .ok (.getfield 225, 3) := by decide +kernel
theorem dX7_put_19 : decode cX7_put 19 = .ok (.bipush 64, 2) := by decide +kernel
theorem dX7_put_21 : decode cX7_put 21 = .ok (.iload_n 1, 1) := by decide +kernel
theorem dX7_put_22 : decode cX7_put 22 = .ok (.imul, 1) := by decide +kernel
theorem dX7_put_23 : decode cX7_put 23 = .ok (.aload_n 0, 1) := by decide +kernel
theorem dX7_put_24 : decode cX7_put 24 = .ok (.getfield 65, 3) := by decide +kernel
theorem dX7_put_27 : decode cX7_put 27 = .ok (.iload_n 1, 1) := by decide +kernel
theorem dX7_put_28 : decode cX7_put 28 = .ok (.iaload, 1) := by decide +kernel
theorem dX7_put_29 : decode cX7_put 29 = .ok (.iadd, 1) := by decide +kernel
theorem dX7_put_30 : decode cX7_put 30 = .ok (.iconst 2, 1) := by decide +kernel
theorem dX7_put_31 : decode cX7_put 31 = .ok (.iadd, 1) := by decide +kernel
theorem dX7_put_32 : decode cX7_put 32 = .ok (.iastore, 1) := by decide +kernel
theorem dX7_put_33 : decode cX7_put 33 = .ok (.aload_n 0, 1) := by decide +kernel
theorem dX7_put_34 : decode cX7_put 34 = .ok (.dup, 1) := by decide +kernel
theorem dX7_put_35 : decode cX7_put 35 = .ok (.getfield 225, 3) := by decide +kernel
theorem dX7_put_38 : decode cX7_put 38 = .ok (.iconst 1, 1) := by decide +kernel
theorem dX7_put_39 : decode cX7_put 39 = .ok (.iadd, 1) := by decide +kernel
theorem dX7_put_40 : decode cX7_put 40 = .ok (.putfield 225, 3) := by decide +kernel
theorem dX7_put_43 : decode cX7_put 43 = .ok (.aload_n 0, 1) := by decide +kernel
theorem dX7_put_44 : decode cX7_put 44 = .ok (.getfield 65, 3) := by decide +kernel
theorem dX7_put_47 : decode cX7_put 47 = .ok (.iload_n 1, 1) := by decide +kernel
theorem dX7_put_48 : decode cX7_put 48 = .ok (.iload_n 2, 1) := by decide +kernel
theorem dX7_put_49 : decode cX7_put 49 = .ok (.iastore, 1) := by decide +kernel
theorem dX7_put_50 : decode cX7_put 50 = .ok (.return_, 1) := by decide +kernel
theorem dX7_choose_0 : decode cX7_choose 0 = .ok (.aload_n 0, 1) := by decide +kernel
theorem dX7_choose_1 : decode cX7_choose 1 = .ok (.getfield 71, 3) := by decide +kernel
theorem dX7_choose_4 : decode cX7_choose 4 = .ok (.aload_n 0, 1) := by decide +kernel
theorem dX7_choose_5 : decode cX7_choose 5 = .ok (.getfield 228, 3) := by decide +kernel
theorem dX7_choose_8 : decode cX7_choose 8 = .ok (.iload_n 1, 1) := by decide +kernel
theorem dX7_choose_9 : decode cX7_choose 9 = .ok (.iconst 4, 1) := by decide +kernel
theorem dX7_choose_10 : decode cX7_choose 10 = .ok (.iload_n 2, 1) := by decide +kernel
theorem dX7_choose_11 : decode cX7_choose 11 = .ok (.sipush 256, 3) := by decide +kernel
theorem dX7_choose_14 : decode cX7_choose 14 = .ok (.aload_n 0, 1) := by decide +kernel
theorem dX7_choose_15 : decode cX7_choose 15 = .ok (.getfield 216, 3) := by decide +kernel
theorem dX7_choose_18 : decode cX7_choose 18 = .ok (.bipush 32, 2) := by decide +kernel
theorem dX7_choose_20 : decode cX7_choose 20 = .ok (.aload_n 0, 1) := by decide +kernel
theorem dX7_choose_21 : decode cX7_choose 21 = .ok (.getfield 225, 3) := by decide +kernel
theorem dX7_choose_24 : decode cX7_choose 24 = .ok (.imul, 1) := by decide +kernel
theorem dX7_choose_25 : decode cX7_choose 25 = .ok (.iadd, 1) := by decide +kernel
theorem dX7_choose_26 : decode cX7_choose 26 = .ok (.imul, 1) := by decide +kernel
theorem dX7_choose_27 : decode cX7_choose 27 = .ok (.iadd, 1) := by decide +kernel
theorem dX7_choose_28 : decode cX7_choose 28 = .ok (.imul, 1) := by decide +kernel
theorem dX7_choose_29 : decode cX7_choose 29 = .ok (.iadd, 1) := by decide +kernel
theorem dX7_choose_30 : decode cX7_choose 30 = .ok (.iastore, 1) := by decide +kernel
theorem dX7_choose_31 : decode cX7_choose 31 = .ok (.aload_n 0, 1) := by decide +kernel
theorem dX7_choose_32 : decode cX7_choose 32 = .ok (.dup, 1) := by decide +kernel
theorem dX7_choose_33 : decode cX7_choose 33 = .ok (.getfield 228, 3) := by decide +kernel
theorem dX7_choose_36 : decode cX7_choose 36 = .ok (.iconst 1, 1) := by decide +kernel
theorem dX7_choose_37 : decode cX7_choose 37 = .ok (.iadd, 1) := by decide +kernel
theorem dX7_choose_38 : decode cX7_choose 38 = .ok (.putfield 228, 3) := by decide +kernel
theorem dX7_choose_41 : decode cX7_choose 41 = .ok (.return_, 1) := by decide +kernel
theorem dX7_undo_0 : decode cX7_undo 0 = .ok (.aload_n 0, 1) := by decide +kernel
theorem dX7_undo_1 : decode cX7_undo 1 = .ok (.getfield 225, 3) := by decide +kernel
theorem dX7_undo_4 : decode cX7_undo 4 = .ok (.iload_n 1, 1) := by decide +kernel
theorem dX7_undo_5 : decode cX7_undo 5 = .ok (.if_icmp .le 47, 3) := by decide +kernel
theorem dX7_undo_8 : decode cX7_undo 8 = .ok (.aload_n 0, 1) := by decide +kernel
theorem dX7_undo_9 : decode cX7_undo 9 = .ok (.dup, 1) := by decide +kernel
theorem dX7_undo_10 : decode cX7_undo 10 = .ok (.getfield 225, 3) := by decide +kernel
theorem dX7_undo_13 : decode cX7_undo 13 = .ok (.iconst 1, 1) := by decide +kernel
theorem dX7_undo_14 : decode cX7_undo 14 = .ok (.isub, 1) := by decide +kernel
theorem dX7_undo_15 : decode cX7_undo 15 = .ok (.putfield 225, 3) := by decide +kernel
theorem dX7_undo_18 : decode cX7_undo 18 = .ok (.aload_n 0, 1) := by decide +kernel
theorem dX7_undo_19 : decode cX7_undo 19 = .ok (.getfield 65, 3) := by decide +kernel
theorem dX7_undo_22 : decode cX7_undo 22 = .ok (.aload_n 0, 1) := by decide +kernel
theorem dX7_undo_23 : decode cX7_undo 23 = .ok (.getfield 68, 3) := by decide +kernel
theorem dX7_undo_26 : decode cX7_undo 26 = .ok (.aload_n 0, 1) := by decide +kernel
theorem dX7_undo_27 : decode cX7_undo 27 = .ok (.getfield 225, 3) := by decide +kernel
theorem dX7_undo_30 : decode cX7_undo 30 = .ok (.iaload, 1) := by decide +kernel
theorem dX7_undo_31 : decode cX7_undo 31 = .ok (.bipush 64, 2) := by decide +kernel
theorem dX7_undo_33 : decode cX7_undo 33 = .ok (.idiv, 1) := by decide +kernel
theorem dX7_undo_34 : decode cX7_undo 34 = .ok (.aload_n 0, 1) := by decide +kernel
theorem dX7_undo_35 : decode cX7_undo 35 = .ok (.getfield 68, 3) := by decide +kernel
theorem dX7_undo_38 : decode cX7_undo 38 = .ok (.aload_n 0, 1) := by decide +kernel
theorem dX7_undo_39 : decode cX7_undo 39 = .ok (.getfield 225, 3) := by decide +kernel
theorem dX7_undo_42 : decode cX7_undo 42 = .ok (.iaload, 1) := by decide +kernel
theorem dX7_undo_43 : decode cX7_undo 43 = .ok (.bipush 64, 2) := by decide +kernel
theorem dX7_undo_45 : decode cX7_undo 45 = .ok (.irem, 1) := by decide +kernel
theorem dX7_undo_46 : decode cX7_undo 46 = .ok (.iconst 2, 1) := by decide +kernel
theorem dX7_undo_47 : decode cX7_undo 47 = .ok (.isub, 1) := by decide +kernel
theorem dX7_undo_48 : decode cX7_undo 48 = .ok (.iastore, 1) := by decide +kernel
theorem dX7_undo_49 : decode cX7_undo 49 = .ok (.goto (-49), 3) := by decide +kernel
theorem dX7_undo_52 : decode cX7_undo 52 = .ok (.return_, 1) := by decide +kernel
set_option maxRecDepth 20000 in
theorem ggX7_goBack_X7_undo : GoodIn wsX7_goBack wsX7_undo := goodIn_r _ [12, 13, 14, 15, 25, 26, 27, 28, 29, 30, 31, 32, 33, 34, 35, 36, 37, 38, 39, 40, 41, 42, 43, 44, 45, 46, 47, 48, 49, 50, 51, 52, 53, 54, 55, 56, 57, 58, 59, 60, 61, 62, 63, 64, 65, 66, 67, 68, 69, 70, 71, 72, 73, 74] (by decide +kernel) (by decide +kernel)
set_option maxRecDepth 20000 in
theorem gX7_goBack_X7_undo : GoodIn wsX7_goBack (wsV RX7 232 RX7 yX7_undo wsX7_undo) := goodIn_app (goodIn_of _ (by decide +kernel)) ggX7_goBack_X7_undo
set_option maxRecDepth 20000 in
theorem ggX7_goBack_X7_pass : GoodIn wsX7_goBack wsX7_pass := goodIn_r _ [19, 20, 7, 14, 3, 5, 21, 22, 23, 11, 24, 15, 13, 25, 26, 27, 28, 29, 30, 31, 32, 33, 34, 35, 36, 37, 38, 39, 40, 41, 42, 43, 44, 45, 46, 47, 48, 49, 50, 51, 52, 53, 54, 55, 56, 57, 58, 59, 60, 61, 62, 63, 64, 65, 66, 67, 68, 69, 70, 71, 72, 73, 74] (by decide +kernel) (by decide +kernel)
set_option maxRecDepth 20000 in
theorem gX7_goBack_X7_pass : GoodIn wsX7_goBack (wsV RX7 238 RX7 yX7_pass wsX7_pass) := goodIn_app (goodIn_of _ (by decide +kernel)) ggX7_goBack_X7_pass
theorem dX7_goBack_0 : decode cX7_goBack 0 = .ok (.aload_n 0, 1) := by decide +kernel
theorem dX7_goBack_1 : decode cX7_goBack 1 = .ok (.getfield 228, 3) := by decide +kernel
theorem dX7_goBack_4 : decode cX7_goBack 4 = .ok (.ifCond .le 104, 3) := by decide +kernel
theorem dX7_goBack_7 : decode cX7_goBack 7 = .ok (.aload_n 0, 1) := by decide +kernel
theorem dX7_goBack_8 : decode cX7_goBack 8 = .ok (.dup, 1) := by decide +kernel
theorem dX7_goBack_9 : decode cX7_goBack 9 = .ok (.getfield 228, 3) := by decide +kernel
theorem dX7_goBack_12 : decode cX7_goBack 12 = .ok (.iconst 1, 1) := by decide +kernel
theorem dX7_goBack_13 : decode cX7_goBack 13 = .ok (.isub, 1) := by decide +kernel
theorem dX7_goBack_14 : decode cX7_goBack 14 = .ok (.putfield 228, 3) := by decide +kernel
theorem dX7_goBack_17 : decode cX7_goBack 17 = .ok (.aload_n 0, 1) := by decide +kernel
theorem dX7_goBack_18 : decode cX7_goBack 18 = .ok (.getfield 71, 3) := by decide +kernel
theorem dX7_goBack_21 : decode cX7_goBack 21 = .ok (.aload_n 0, 1) := by decide +kernel
theorem dX7_goBack_22 : decode cX7_goBack 22 = .ok (.getfield 228, 3) := by decide +kernel
theorem dX7_goBack_25 : decode cX7_goBack 25 = .ok (.iaload, 1) := by decide +kernel
theorem dX7_goBack_26 : decode cX7_goBack 26 = .ok (.istore_n 1, 1) := by decide +kernel
theorem dX7_goBack_27 : decode cX7_goBack 27 = .ok (.iload_n 1, 1) := by decide +kernel
theorem dX7_goBack_28 : decode cX7_goBack 28 = .ok (.iconst 4, 1) := by decide +kernel
theorem dX7_goBack_29 : decode cX7_goBack 29 = .ok (.irem, 1) := by decide +kernel
theorem dX7_goBack_30 : decode cX7_goBack 30 = .ok (.istore_n 2, 1) := by decide +kernel
theorem dX7_goBack_31 : decode cX7_goBack 31 = .ok (.iload_n 1, 1) := by decide +kernel
theorem dX7_goBack_32 : decode cX7_goBack 32 = .ok (.iconst 4, 1) := by decide +kernel
theorem dX7_goBack_33 : decode cX7_goBack 33 = .ok (.idiv, 1) := by decide +kernel
theorem dX7_goBack_34 : decode cX7_goBack 34 = .ok (.sipush 256, 3) := by decide +kernel
theorem dX7_goBack_37 : decode cX7_goBack 37 = .ok (.irem, 1) := by decide +kernel
theorem dX7_goBack_38 : decode cX7_goBack 38 = .ok (.istore_n 3, 1) := by decide +kernel
theorem dX7_goBack_39 : decode cX7_goBack 39 = .ok (.aload_n 0, 1) := by decide +kernel
theorem dX7_goBack_40 : decode cX7_goBack 40 = .ok (.iload_n 1, 1) := by decide +kernel
theorem dX7_goBack_41 : decode cX7_goBack 41 = .ok (.sipush 1024, 3) := by decide +kernel
theorem dX7_goBack_44 : decode cX7_goBack 44 = .ok (.idiv, 1) := by decide +kernel
theorem dX7_goBack_45 : decode cX7_goBack 45 = .ok (.bipush 32, 2) := by decide +kernel
theorem dX7_goBack_47 : decode cX7_goBack 47 = .ok (.irem, 1) := by decide +kernel
theorem dX7_goBack_48 : decode cX7_goBack 48 = .ok (.putfield 216, 3) := by decide +kernel
theorem dX7_goBack_51 : decode cX7_goBack 51 = .ok (.aload_n 0, 1) := by decide +kernel
theorem dX7_goBack_52 : decode cX7_goBack 52 = .ok (.iload_n 1, 1) := by decide +kernel
theorem dX7_goBack_53 : decode cX7_goBack 53 = .ok (.ldc 231, 2) := by decide +kernel
theorem dX7_goBack_55 : decode cX7_goBack 55 = .ok (.idiv, 1) := by decide +kernel
theorem dX7_goBack_56 : decode cX7_goBack 56 = .ok (.invokevirtual 232, 3) := by decide +kernel
theorem dX7_goBack_59 : decode cX7_goBack 59 = .ok (.iload_n 2, 1) := by decide +kernel
theorem dX7_goBack_60 : decode cX7_goBack 60 = .ok (.ifCond .ne 10, 3) := by decide +kernel
theorem dX7_goBack_63 : decode cX7_goBack 63 = .ok (.aload_n 0, 1) := by decide +kernel
theorem dX7_goBack_64 : decode cX7_goBack 64 = .ok (.iload_n 3, 1) := by decide +kernel
theorem dX7_goBack_65 : decode cX7_goBack 65 = .ok (.putfield 235, 3) := by decide +kernel
theorem dX7_goBack_68 : decode cX7_goBack 68 = .ok (.iconst 1, 1) := by decide +kernel
theorem dX7_goBack_69 : decode cX7_goBack 69 = .ok (.ireturn, 1) := by decide +kernel
theorem dX7_goBack_70 : decode cX7_goBack 70 = .ok (.iload_n 2, 1) := by decide +kernel
theorem dX7_goBack_71 : decode cX7_goBack 71 = .ok (.iconst 1, 1) := by decide +kernel
theorem dX7_goBack_72 : decode cX7_goBack 72 = .ok (.if_icmp .ne 10, 3) := by decide +kernel
theorem dX7_goBack_75 : decode cX7_goBack 75 = .ok (.aload_n 0, 1) := by decide +kernel
theorem dX7_goBack_76 : decode cX7_goBack 76 = .ok (.iload_n 3, 1) := by decide +kernel
theorem dX7_goBack_77 : decode cX7_goBack 77 = .ok (.invokevirtual 238, 3) := by decide +kernel
theorem dX7_goBack_80 : decode cX7_goBack 80 = .ok (.iconst 1, 1) := by decide +kernel
theorem dX7_goBack_81 : decode cX7_goBack 81 = .ok (.ireturn, 1) := by decide +kernel
theorem dX7_goBack_82 : decode cX7_goBack 82 = .ok (.aload_n 0, 1) := by decide +kernel
theorem dX7_goBack_83 : decode cX7_goBack 83 = .ok (.getfield 23, 3) := by decide +kernel
theorem dX7_goBack_86 : decode cX7_goBack 86 = .ok (.iload_n 3, 1) := by decide +kernel
theorem dX7_goBack_87 : decode cX7_goBack 87 = .ok (.iaload, 1) := by decide +kernel
theorem dX7_goBack_88 : decode cX7_goBack 88 = .ok (.ifCond .ne 17, 3) := by decide +kernel
theorem dX7_goBack_91 : decode cX7_goBack 91 = .ok (.aload_n 0, 1) := by decide +kernel
theorem dX7_goBack_92 : decode cX7_goBack 92 = .ok (.aload_n 0, 1) := by decide +kernel
theorem dX7_goBack_93 : decode cX7_goBack 93 = .ok (.getfield 26, 3) := by decide +kernel
theorem dX7_goBack_96 : decode cX7_goBack 96 = .ok (.iload_n 3, 1) := by decide +kernel
theorem dX7_goBack_97 : decode cX7_goBack 97 = .ok (.iaload, 1) := by decide +kernel
theorem dX7_goBack_98 : decode cX7_goBack 98 = .ok (.iconst 1, 1) := by decide +kernel
theorem dX7_goBack_99 : decode cX7_goBack 99 = .ok (.iadd, 1) := by decide +kernel
theorem dX7_goBack_100 : decode cX7_goBack 100 = .ok (.putfield 235, 3) := by decide +kernel
theorem dX7_goBack_103 : decode cX7_goBack 103 = .ok (.iconst 1, 1) := by decide +kernel
theorem dX7_goBack_104 : decode cX7_goBack 104 = .ok (.ireturn, 1) := by decide +kernel
theorem dX7_goBack_105 : decode cX7_goBack 105 = .ok (.goto (-105), 3) := by decide +kernel
theorem dX7_goBack_108 : decode cX7_goBack 108 = .ok (.iconst 0, 1) := by decide +kernel
theorem dX7_goBack_109 : decode cX7_goBack 109 = .ok (.ireturn, 1) := by decide +kernel
set_option maxRecDepth 20000 in
theorem ggX7_pass_X7_put : GoodIn wsX7_pass wsX7_put := goodIn_r _ [10, 3, 11, 12, 13, 14, 15, 16, 17, 18, 19, 20, 21, 22, 23, 24, 25, 26, 27, 28, 29, 30, 31, 32, 33, 34, 35, 36, 37, 38, 39, 40, 41, 42, 43, 44, 45, 46, 47, 48, 49, 50, 51, 52, 53, 54, 55, 56, 57, 58, 59, 60, 61, 62] (by decide +kernel) (by decide +kernel)
set_option maxRecDepth 20000 in
theorem gX7_pass_X7_put : GoodIn wsX7_pass (wsV RX7 241 RX7 yX7_put wsX7_put) := goodIn_app (goodIn_of _ (by decide +kernel)) ggX7_pass_X7_put
theorem dX7_pass_0 : decode cX7_pass 0 = .ok (.aload_n 0, 1) := by decide +kernel
theorem dX7_pass_1 : decode cX7_pass 1 = .ok (.getfield 29, 3) := by decide +kernel
theorem dX7_pass_4 : decode cX7_pass 4 = .ok (.iload_n 1, 1) := by decide +kernel
theorem dX7_pass_5 : decode cX7_pass 5 = .ok (.iaload, 1) := by decide +kernel
theorem dX7_pass_6 : decode cX7_pass 6 = .ok (.istore_n 2, 1) := by decide +kernel
theorem dX7_pass_7 : decode cX7_pass 7 = .ok (.aload_n 0, 1) := by decide +kernel
theorem dX7_pass_8 : decode cX7_pass 8 = .ok (.getfield 26, 3) := by decide +kernel
theorem dX7_pass_11 : decode cX7_pass 11 = .ok (.iload_n 1, 1) := by decide +kernel
theorem dX7_pass_12 : decode cX7_pass 12 = .ok (.iaload, 1) := by decide +kernel
theorem dX7_pass_13 : decode cX7_pass 13 = .ok (.bipush 16, 2) := by decide +kernel
theorem dX7_pass_15 : decode cX7_pass 15 = .ok (.irem, 1) := by decide +kernel
theorem dX7_pass_16 : decode cX7_pass 16 = .ok (.istore_n 3, 1) := by decide +kernel
theorem dX7_pass_17 : decode cX7_pass 17 = .ok (.aload_n 0, 1) := by decide +kernel
theorem dX7_pass_18 : decode cX7_pass 18 = .ok (.bipush 30, 2) := by decide +kernel
theorem dX7_pass_20 : decode cX7_pass 20 = .ok (.iload_n 2, 1) := by decide +kernel
theorem dX7_pass_21 : decode cX7_pass 21 = .ok (.iadd, 1) := by decide +kernel
theorem dX7_pass_22 : decode cX7_pass 22 = .ok (.aload_n 0, 1) := by decide +kernel
theorem dX7_pass_23 : decode cX7_pass 23 = .ok (.getfield 65, 3) := by decide +kernel
theorem dX7_pass_26 : decode cX7_pass 26 = .ok (.bipush 30, 2) := by decide +kernel
theorem dX7_pass_28 : decode cX7_pass 28 = .ok (.iload_n 2, 1) := by decide +kernel
theorem dX7_pass_29 : decode cX7_pass 29 = .ok (.iadd, 1) := by decide +kernel
theorem dX7_pass_30 : decode cX7_pass 30 = .ok (.iaload, 1) := by decide +kernel
theorem dX7_pass_31 : decode cX7_pass 31 = .ok (.iconst 1, 1) := by decide +kernel
theorem dX7_pass_32 : decode cX7_pass 32 = .ok (.iadd, 1) := by decide +kernel
theorem dX7_pass_33 : decode cX7_pass 33 = .ok (.invokevirtual 241, 3) := by decide +kernel
theorem dX7_pass_36 : decode cX7_pass 36 = .ok (.aload_n 0, 1) := by decide +kernel
theorem dX7_pass_37 : decode cX7_pass 37 = .ok (.bipush 80, 2) := by decide +kernel
theorem dX7_pass_39 : decode cX7_pass 39 = .ok (.iload_n 2, 1) := by decide +kernel
theorem dX7_pass_40 : decode cX7_pass 40 = .ok (.iadd, 1) := by decide +kernel
theorem dX7_pass_41 : decode cX7_pass 41 = .ok (.aload_n 0, 1) := by decide +kernel
theorem dX7_pass_42 : decode cX7_pass 42 = .ok (.getfield 216, 3) := by decide +kernel
theorem dX7_pass_45 : decode cX7_pass 45 = .ok (.invokevirtual 241, 3) := by decide +kernel
theorem dX7_pass_48 : decode cX7_pass 48 = .ok (.aload_n 0, 1) := by decide +kernel
theorem dX7_pass_49 : decode cX7_pass 49 = .ok (.getfield 26, 3) := by decide +kernel
theorem dX7_pass_52 : decode cX7_pass 52 = .ok (.iload_n 1, 1) := by decide +kernel
theorem dX7_pass_53 : decode cX7_pass 53 = .ok (.iaload, 1) := by decide +kernel
theorem dX7_pass_54 : decode cX7_pass 54 = .ok (.bipush 16, 2) := by decide +kernel
theorem dX7_pass_56 : decode cX7_pass 56 = .ok (.idiv, 1) := by decide +kernel
theorem dX7_pass_57 : decode cX7_pass 57 = .ok (.sipush 256, 3) := by decide +kernel
theorem dX7_pass_60 : decode cX7_pass 60 = .ok (.irem, 1) := by decide +kernel
theorem dX7_pass_61 : decode cX7_pass 61 = .ok (.iconst 1, 1) := by decide +kernel
theorem dX7_pass_62 : decode cX7_pass 62 = .ok (.iadd, 1) := by decide +kernel
theorem dX7_pass_63 : decode cX7_pass 63 = .ok (.istore 4, 2) := by decide +kernel
theorem dX7_pass_65 : decode cX7_pass 65 = .ok (.iload 4, 2) := by decide +kernel
theorem dX7_pass_67 : decode cX7_pass 67 = .ok (.iload_n 3, 1) := by decide +kernel
theorem dX7_pass_68 : decode cX7_pass 68 = .ok (.if_icmp .gt 26, 3) := by decide +kernel
theorem dX7_pass_71 : decode cX7_pass 71 = .ok (.aload_n 0, 1) := by decide +kernel
theorem dX7_pass_72 : decode cX7_pass 72 = .ok (.iload 4, 2) := by decide +kernel
theorem dX7_pass_74 : decode cX7_pass 74 = .ok (.iconst (-1), 1) := by decide +kernel
theorem dX7_pass_75 : decode cX7_pass 75 = .ok (.invokevirtual 241, 3) := by decide +kernel
theorem dX7_pass_78 : decode cX7_pass 78 = .ok (.aload_n 0, 1) := by decide +kernel
theorem dX7_pass_79 : decode cX7_pass 79 = .ok (.bipush 10, 2) := by decide +kernel
theorem dX7_pass_81 : decode cX7_pass 81 = .ok (.iload 4, 2) := by decide +kernel
theorem dX7_pass_83 : decode cX7_pass 83 = .ok (.iadd, 1) := by decide +kernel
theorem dX7_pass_84 : decode cX7_pass 84 = .ok (.iconst (-1), 1) := by decide +kernel
theorem dX7_pass_85 : decode cX7_pass 85 = .ok (.invokevirtual 241, 3) := by decide +kernel
theorem dX7_pass_88 : decode cX7_pass 88 = .ok (.iinc 4 1, 3) := by decide +kernel
theorem dX7_pass_91 : decode cX7_pass 91 = .ok (.goto (-26), 3) := by decide +kernel
theorem dX7_pass_94 : decode cX7_pass 94 = .ok (.aload_n 0, 1) := by decide +kernel
theorem dX7_pass_95 : decode cX7_pass 95 = .ok (.iload_n 1, 1) := by decide +kernel
theorem dX7_pass_96 : decode cX7_pass 96 = .ok (.iconst 1, 1) := by decide +kernel
theorem dX7_pass_97 : decode cX7_pass 97 = .ok (.iadd, 1) := by decide +kernel
theorem dX7_pass_98 : decode cX7_pass 98 = .ok (.putfield 235, 3) := by decide +kernel
theorem dX7_pass_101 : decode cX7_pass 101 = .ok (.return_, 1) := by decide +kernel
set_option maxRecDepth 20000 in
theorem ggX7_decide_X7_pass : GoodIn wsX7_decide wsX7_pass := goodIn_r _ [11, 4, 5, 3, 12, 6, 13, 14, 15, 10, 16, 17, 18, 25, 26, 27, 28, 29, 30, 31, 32, 33, 34, 35, 36, 37, 38, 39, 40, 41, 42, 43, 44, 45, 46, 47, 48, 49, 50, 51, 52, 53, 54, 55, 56, 57, 58, 59, 60, 61, 62, 63, 64, 65, 66, 67, 68, 69, 70, 71, 72, 73, 74] (by decide +kernel) (by decide +kernel)
set_option maxRecDepth 20000 in
theorem gX7_decide_X7_pass : GoodIn wsX7_decide (wsV RX7 238 RX7 yX7_pass wsX7_pass) := goodIn_app (goodIn_of _ (by decide +kernel)) ggX7_decide_X7_pass
set_option maxRecDepth 20000 in
theorem ggX7_decide_X7_choose : GoodIn wsX7_decide wsX7_choose := goodIn_r _ [22, 23, 24, 12, 18, 25, 26, 27, 28, 29, 30, 31, 32, 33, 34, 35, 36, 37, 38, 39, 40, 41, 42, 43, 44, 45, 46, 47, 48, 49, 50, 51, 52, 53, 54, 55, 56, 57, 58, 59, 60, 61, 62, 63, 64, 65, 66, 67, 68, 69, 70, 71, 72, 73, 74] (by decide +kernel) (by decide +kernel)
set_option maxRecDepth 20000 in
theorem gX7_decide_X7_choose : GoodIn wsX7_decide (wsV RX7 244 RX7 yX7_choose wsX7_choose) := goodIn_app (goodIn_of _ (by decide +kernel)) ggX7_decide_X7_choose
theorem dX7_decide_0 : decode cX7_decide 0 = .ok (.aload_n 0, 1) := by decide +kernel
theorem dX7_decide_1 : decode cX7_decide 1 = .ok (.getfield 23, 3) := by decide +kernel
theorem dX7_decide_4 : decode cX7_decide 4 = .ok (.iload_n 1, 1) := by decide +kernel
theorem dX7_decide_5 : decode cX7_decide 5 = .ok (.iaload, 1) := by decide +kernel
theorem dX7_decide_6 : decode cX7_decide 6 = .ok (.sipush 128, 3) := by decide +kernel
theorem dX7_decide_9 : decode cX7_decide 9 = .ok (.irem, 1) := by decide +kernel
theorem dX7_decide_10 : decode cX7_decide 10 = .ok (.istore_n 2, 1) := by decide +kernel
theorem dX7_decide_11 : decode cX7_decide 11 = .ok (.aload_n 0, 1) := by decide +kernel
theorem dX7_decide_12 : decode cX7_decide 12 = .ok (.getfield 23, 3) := by decide +kernel
theorem dX7_decide_15 : decode cX7_decide 15 = .ok (.iload_n 1, 1) := by decide +kernel
theorem dX7_decide_16 : decode cX7_decide 16 = .ok (.iaload, 1) := by decide +kernel
theorem dX7_decide_17 : decode cX7_decide 17 = .ok (.sipush 128, 3) := by decide +kernel
theorem dX7_decide_20 : decode cX7_decide 20 = .ok (.idiv, 1) := by decide +kernel
theorem dX7_decide_21 : decode cX7_decide 21 = .ok (.sipush 512, 3) := by decide +kernel
theorem dX7_decide_24 : decode cX7_decide 24 = .ok (.irem, 1) := by decide +kernel
theorem dX7_decide_25 : decode cX7_decide 25 = .ok (.istore_n 3, 1) := by decide +kernel
theorem dX7_decide_26 : decode cX7_decide 26 = .ok (.aload_n 0, 1) := by decide +kernel
theorem dX7_decide_27 : decode cX7_decide 27 = .ok (.getfield 23, 3) := by decide +kernel
theorem dX7_decide_30 : decode cX7_decide 30 = .ok (.iload_n 1, 1) := by decide +kernel
theorem dX7_decide_31 : decode cX7_decide 31 = .ok (.iaload, 1) := by decide +kernel
theorem dX7_decide_32 : decode cX7_decide 32 = .ok (.ldc 149, 2) := by decide +kernel
theorem dX7_decide_34 : decode cX7_decide 34 = .ok (.if_icmp .lt 7, 3) := by decide +kernel
theorem dX7_decide_37 : decode cX7_decide 37 = .ok (.iconst 1, 1) := by decide +kernel
theorem dX7_decide_38 : decode cX7_decide 38 = .ok (.goto 4, 3) := by decide +kernel
theorem dX7_decide_41 : decode cX7_decide 41 = .ok (.iconst 0, 1) := by decide +kernel
theorem dX7_decide_42 : decode cX7_decide 42 = .ok (.istore 4, 2) := by decide +kernel
theorem dX7_decide_44 : decode cX7_decide 44 = .ok (.aload_n 0, 1) := by decide +kernel
theorem dX7_decide_45 : decode cX7_decide 45 = .ok (.getfield 65, 3) := by decide +kernel
theorem dX7_decide_48 : decode cX7_decide 48 = .ok (.bipush 30, 2) := by decide +kernel
theorem dX7_decide_50 : decode cX7_decide 50 = .ok (.aload_n 0, 1) := by decide +kernel
theorem dX7_decide_51 : decode cX7_decide 51 = .ok (.getfield 29, 3) := by decide +kernel
theorem dX7_decide_54 : decode cX7_decide 54 = .ok (.iload_n 1, 1) := by decide +kernel
theorem dX7_decide_55 : decode cX7_decide 55 = .ok (.iaload, 1) := by decide +kernel
theorem dX7_decide_56 : decode cX7_decide 56 = .ok (.iadd, 1) := by decide +kernel
theorem dX7_decide_57 : decode cX7_decide 57 = .ok (.iaload, 1) := by decide +kernel
theorem dX7_decide_58 : decode cX7_decide 58 = .ok (.istore 5, 2) := by decide +kernel
theorem dX7_decide_60 : decode cX7_decide 60 = .ok (.aload_n 0, 1) := by decide +kernel
theorem dX7_decide_61 : decode cX7_decide 61 = .ok (.getfield 26, 3) := by decide +kernel
theorem dX7_decide_64 : decode cX7_decide 64 = .ok (.iload_n 1, 1) := by decide +kernel
theorem dX7_decide_65 : decode cX7_decide 65 = .ok (.iaload, 1) := by decide +kernel
theorem dX7_decide_66 : decode cX7_decide 66 = .ok (.sipush 4096, 3) := by decide +kernel
theorem dX7_decide_69 : decode cX7_decide 69 = .ok (.idiv, 1) := by decide +kernel
theorem dX7_decide_70 : decode cX7_decide 70 = .ok (.istore 6, 2) := by decide +kernel
theorem dX7_decide_72 : decode cX7_decide 72 = .ok (.iload 5, 2) := by decide +kernel
theorem dX7_decide_74 : decode cX7_decide 74 = .ok (.iload_n 2, 1) := by decide +kernel
theorem dX7_decide_75 : decode cX7_decide 75 = .ok (.if_icmp .ge 11, 3) := by decide +kernel
theorem dX7_decide_78 : decode cX7_decide 78 = .ok (.aload_n 0, 1) := by decide +kernel
theorem dX7_decide_79 : decode cX7_decide 79 = .ok (.iload_n 1, 1) := by decide +kernel
theorem dX7_decide_80 : decode cX7_decide 80 = .ok (.invokevirtual 238, 3) := by decide +kernel
theorem dX7_decide_83 : decode cX7_decide 83 = .ok (.goto 62, 3) := by decide +kernel
theorem dX7_decide_86 : decode cX7_decide 86 = .ok (.iload_n 3, 1) := by decide +kernel
theorem dX7_decide_87 : decode cX7_decide 87 = .ok (.bipush 99, 2) := by decide +kernel
theorem dX7_decide_89 : decode cX7_decide 89 = .ok (.if_icmp .eq 20, 3) := by decide +kernel
theorem dX7_decide_92 : decode cX7_decide 92 = .ok (.iload 5, 2) := by decide +kernel
theorem dX7_decide_94 : decode cX7_decide 94 = .ok (.iload_n 3, 1) := by decide +kernel
theorem dX7_decide_95 : decode cX7_decide 95 = .ok (.if_icmp .lt 14, 3) := by decide +kernel
theorem dX7_decide_98 : decode cX7_decide 98 = .ok (.aload_n 0, 1) := by decide +kernel
theorem dX7_decide_99 : decode cX7_decide 99 = .ok (.iload 6, 2) := by decide +kernel
theorem dX7_decide_101 : decode cX7_decide 101 = .ok (.iconst 1, 1) := by decide +kernel
theorem dX7_decide_102 : decode cX7_decide 102 = .ok (.iadd, 1) := by decide +kernel
theorem dX7_decide_103 : decode cX7_decide 103 = .ok (.putfield 235, 3) := by decide +kernel
theorem dX7_decide_106 : decode cX7_decide 106 = .ok (.goto 39, 3) := by decide +kernel
theorem dX7_decide_109 : decode cX7_decide 109 = .ok (.iload 4, 2) := by decide +kernel
theorem dX7_decide_111 : decode cX7_decide 111 = .ok (.ifCond .eq 20, 3) := by decide +kernel
theorem dX7_decide_114 : decode cX7_decide 114 = .ok (.aload_n 0, 1) := by decide +kernel
theorem dX7_decide_115 : decode cX7_decide 115 = .ok (.iconst 1, 1) := by decide +kernel
theorem dX7_decide_116 : decode cX7_decide 116 = .ok (.iload_n 1, 1) := by decide +kernel
theorem dX7_decide_117 : decode cX7_decide 117 = .ok (.invokevirtual 244, 3) := by decide +kernel
theorem dX7_decide_120 : decode cX7_decide 120 = .ok (.aload_n 0, 1) := by decide +kernel
theorem dX7_decide_121 : decode cX7_decide 121 = .ok (.iload 6, 2) := by decide +kernel
theorem dX7_decide_123 : decode cX7_decide 123 = .ok (.iconst 1, 1) := by decide +kernel
theorem dX7_decide_124 : decode cX7_decide 124 = .ok (.iadd, 1) := by decide +kernel
theorem dX7_decide_125 : decode cX7_decide 125 = .ok (.putfield 235, 3) := by decide +kernel
theorem dX7_decide_128 : decode cX7_decide 128 = .ok (.goto 17, 3) := by decide +kernel
theorem dX7_decide_131 : decode cX7_decide 131 = .ok (.aload_n 0, 1) := by decide +kernel
theorem dX7_decide_132 : decode cX7_decide 132 = .ok (.iconst 0, 1) := by decide +kernel
theorem dX7_decide_133 : decode cX7_decide 133 = .ok (.iload 6, 2) := by decide +kernel
